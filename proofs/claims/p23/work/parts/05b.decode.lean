theorem dX3_init_0 : decode cX3_init 0 = .ok (.aload_n 0, 1) := by decide +kernel
theorem dX3_init_1 : decode cX3_init 1 = .ok (.invokespecial 3, 3) := by decide +kernel
theorem dX3_init_4 : decode cX3_init 4 = .ok (.aload_n 0, 1) := by decide +kernel
theorem dX3_init_5 : decode cX3_init 5 = .ok (.bipush 24, 2) := by decide +kernel
theorem dX3_init_7 : decode cX3_init 7 = .ok (.anewarray 9, 3) := by decide +kernel
theorem dX3_init_10 : decode cX3_init 10 = .ok (.putfield 11, 3) := by decide +kernel
theorem dX3_init_13 : decode cX3_init 13 = .ok (.aload_n 0, 1) := by decide +kernel
theorem dX3_init_14 : decode cX3_init 14 = .ok (.new 17, 3) := by decide +kernel
theorem dX3_init_17 : decode cX3_init 17 = .ok (.dup, 1) := by decide +kernel
theorem dX3_init_18 : decode cX3_init 18 = .ok (.invokespecial 19, 3) := by decide +kernel
theorem dX3_init_21 : decode cX3_init 21 = .ok (.putfield 20, 3) := by decide +kernel
theorem dX3_init_24 : decode cX3_init 24 = .ok (.aload_n 0, 1) := by decide +kernel
theorem dX3_init_25 : decode cX3_init 25 = .ok (.new 24, 3) := by decide +kernel
theorem dX3_init_28 : decode cX3_init 28 = .ok (.dup, 1) := by decide +kernel
theorem dX3_init_29 : decode cX3_init 29 = .ok (.invokespecial 26, 3) := by decide +kernel
theorem dX3_init_32 : decode cX3_init 32 = .ok (.putfield 27, 3) := by decide +kernel
theorem dX3_init_35 : decode cX3_init 35 = .ok (.aload_n 0, 1) := by decide +kernel
theorem dX3_init_36 : decode cX3_init 36 = .ok (.bipush 7, 2) := by decide +kernel
theorem dX3_init_38 : decode cX3_init 38 = .ok (.newarray .int, 2) := by decide +kernel
theorem dX3_init_40 : decode cX3_init 40 = .ok (.putfield 31, 3) := by decide +kernel
theorem dX3_init_43 : decode cX3_init 43 = .ok (.iconst 0, 1) := by decide +kernel
theorem dX3_init_44 : decode cX3_init 44 = .ok (.istore_n 1, 1) := by decide +kernel
theorem dX3_init_45 : decode cX3_init 45 = .ok (.iload_n 1, 1) := by decide +kernel
theorem dX3_init_46 : decode cX3_init 46 = .ok (.bipush 24, 2) := by decide +kernel
theorem dX3_init_48 : decode cX3_init 48 = .ok (.if_icmp .ge 22, 3) := by decide +kernel
theorem dX3_init_51 : decode cX3_init 51 = .ok (.aload_n 0, 1) := by decide +kernel
theorem dX3_init_52 : decode cX3_init 52 = .ok (.getfield 11, 3) := by decide +kernel
theorem dX3_init_55 : decode cX3_init 55 = .ok (.iload_n 1, 1) := by decide +kernel
theorem dX3_init_56 : decode cX3_init 56 = .ok (.new 9, 3) := by decide +kernel
theorem dX3_init_59 : decode cX3_init 59 = .ok (.dup, 1) := by decide +kernel
theorem dX3_init_60 : decode cX3_init 60 = .ok (.invokespecial 35, 3) := by decide +kernel
theorem dX3_init_63 : decode cX3_init 63 = .ok (.aastore, 1) := by decide +kernel
theorem dX3_init_64 : decode cX3_init 64 = .ok (.iinc 1 1, 3) := by decide +kernel
theorem dX3_init_67 : decode cX3_init 67 = .ok (.goto (-22), 3) := by decide +kernel
theorem dX3_init_70 : decode cX3_init 70 = .ok (.getstatic 36, 3) := by decide +kernel
theorem dX3_init_73 : decode cX3_init 73 = .ok (.iconst 0, 1) := by decide +kernel
theorem dX3_init_74 : decode cX3_init 74 = .ok (.aload_n 0, 1) := by decide +kernel
theorem dX3_init_75 : decode cX3_init 75 = .ok (.getfield 31, 3) := by decide +kernel
theorem dX3_init_78 : decode cX3_init 78 = .ok (.iconst 0, 1) := by decide +kernel
theorem dX3_init_79 : decode cX3_init 79 = .ok (.bipush 7, 2) := by decide +kernel
theorem dX3_init_81 : decode cX3_init 81 = .ok (.invokestatic 39, 3) := by decide +kernel
theorem dX3_init_84 : decode cX3_init 84 = .ok (.return_, 1) := by decide +kernel
theorem dX3_copyFrom_0 : decode cX3_copyFrom 0 = .ok (.aload_n 0, 1) := by decide +kernel
theorem dX3_copyFrom_1 : decode cX3_copyFrom 1 = .ok (.aload_n 1, 1) := by decide +kernel
theorem dX3_copyFrom_2 : decode cX3_copyFrom 2 = .ok (.getfield 45, 3) := by decide +kernel
theorem dX3_copyFrom_5 : decode cX3_copyFrom 5 = .ok (.putfield 45, 3) := by decide +kernel
theorem dX3_copyFrom_8 : decode cX3_copyFrom 8 = .ok (.aload_n 0, 1) := by decide +kernel
theorem dX3_copyFrom_9 : decode cX3_copyFrom 9 = .ok (.aload_n 1, 1) := by decide +kernel
theorem dX3_copyFrom_10 : decode cX3_copyFrom 10 = .ok (.getfield 49, 3) := by decide +kernel
theorem dX3_copyFrom_13 : decode cX3_copyFrom 13 = .ok (.putfield 49, 3) := by decide +kernel
theorem dX3_copyFrom_16 : decode cX3_copyFrom 16 = .ok (.aload_n 0, 1) := by decide +kernel
theorem dX3_copyFrom_17 : decode cX3_copyFrom 17 = .ok (.aload_n 1, 1) := by decide +kernel
theorem dX3_copyFrom_18 : decode cX3_copyFrom 18 = .ok (.getfield 52, 3) := by decide +kernel
theorem dX3_copyFrom_21 : decode cX3_copyFrom 21 = .ok (.putfield 52, 3) := by decide +kernel
theorem dX3_copyFrom_24 : decode cX3_copyFrom 24 = .ok (.aload_n 0, 1) := by decide +kernel
theorem dX3_copyFrom_25 : decode cX3_copyFrom 25 = .ok (.aload_n 1, 1) := by decide +kernel
theorem dX3_copyFrom_26 : decode cX3_copyFrom 26 = .ok (.getfield 55, 3) := by decide +kernel
theorem dX3_copyFrom_29 : decode cX3_copyFrom 29 = .ok (.putfield 55, 3) := by decide +kernel
theorem dX3_copyFrom_32 : decode cX3_copyFrom 32 = .ok (.aload_n 0, 1) := by decide +kernel
theorem dX3_copyFrom_33 : decode cX3_copyFrom 33 = .ok (.aload_n 1, 1) := by decide +kernel
theorem dX3_copyFrom_34 : decode cX3_copyFrom 34 = .ok (.getfield 58, 3) := by decide +kernel
theorem dX3_copyFrom_37 : decode cX3_copyFrom 37 = .ok (.putfield 58, 3) := by decide +kernel
theorem dX3_copyFrom_40 : decode cX3_copyFrom 40 = .ok (.aload_n 0, 1) := by decide +kernel
theorem dX3_copyFrom_41 : decode cX3_copyFrom 41 = .ok (.aload_n 1, 1) := by decide +kernel
theorem dX3_copyFrom_42 : decode cX3_copyFrom 42 = .ok (.getfield 61, 3) := by decide +kernel
theorem dX3_copyFrom_45 : decode cX3_copyFrom 45 = .ok (.putfield 61, 3) := by decide +kernel
theorem dX3_copyFrom_48 : decode cX3_copyFrom 48 = .ok (.aload_n 0, 1) := by decide +kernel
theorem dX3_copyFrom_49 : decode cX3_copyFrom 49 = .ok (.aload_n 1, 1) := by decide +kernel
theorem dX3_copyFrom_50 : decode cX3_copyFrom 50 = .ok (.getfield 64, 3) := by decide +kernel
theorem dX3_copyFrom_53 : decode cX3_copyFrom 53 = .ok (.putfield 64, 3) := by decide +kernel
theorem dX3_copyFrom_56 : decode cX3_copyFrom 56 = .ok (.aload_n 0, 1) := by decide +kernel
theorem dX3_copyFrom_57 : decode cX3_copyFrom 57 = .ok (.aload_n 1, 1) := by decide +kernel
theorem dX3_copyFrom_58 : decode cX3_copyFrom 58 = .ok (.getfield 67, 3) := by decide +kernel
theorem dX3_copyFrom_61 : decode cX3_copyFrom 61 = .ok (.putfield 67, 3) := by decide +kernel
theorem dX3_copyFrom_64 : decode cX3_copyFrom 64 = .ok (.iconst 0, 1) := by decide +kernel
theorem dX3_copyFrom_65 : decode cX3_copyFrom 65 = .ok (.istore_n 2, 1) := by decide +kernel
theorem dX3_copyFrom_66 : decode cX3_copyFrom 66 = .ok (.iload_n 2, 1) := by decide +kernel
theorem dX3_copyFrom_67 : decode cX3_copyFrom 67 = .ok (.aload_n 0, 1) := by decide +kernel
theorem dX3_copyFrom_68 : decode cX3_copyFrom 68 = .ok (.getfield 49, 3) := by decide +kernel
theorem dX3_copyFrom_71 : decode cX3_copyFrom 71 = .ok (.if_icmp .ge 24, 3) := by decide +kernel
theorem dX3_copyFrom_74 : decode cX3_copyFrom 74 = .ok (.aload_n 0, 1) := by decide +kernel
theorem dX3_copyFrom_75 : decode cX3_copyFrom 75 = .ok (.getfield 11, 3) := by decide +kernel
theorem dX3_copyFrom_78 : decode cX3_copyFrom 78 = .ok (.iload_n 2, 1) := by decide +kernel
theorem dX3_copyFrom_79 : decode cX3_copyFrom 79 = .ok (.aaload, 1) := by decide +kernel
theorem dX3_copyFrom_80 : decode cX3_copyFrom 80 = .ok (.aload_n 1, 1) := by decide +kernel
theorem dX3_copyFrom_81 : decode cX3_copyFrom 81 = .ok (.getfield 11, 3) := by decide +kernel
theorem dX3_copyFrom_84 : decode cX3_copyFrom 84 = .ok (.iload_n 2, 1) := by decide +kernel
theorem dX3_copyFrom_85 : decode cX3_copyFrom 85 = .ok (.aaload, 1) := by decide +kernel
theorem dX3_copyFrom_86 : decode cX3_copyFrom 86 = .ok (.invokevirtual 70, 3) := by decide +kernel
theorem dX3_copyFrom_89 : decode cX3_copyFrom 89 = .ok (.iinc 2 1, 3) := by decide +kernel
theorem dX3_copyFrom_92 : decode cX3_copyFrom 92 = .ok (.goto (-26), 3) := by decide +kernel
theorem dX3_copyFrom_95 : decode cX3_copyFrom 95 = .ok (.aload_n 0, 1) := by decide +kernel
theorem dX3_copyFrom_96 : decode cX3_copyFrom 96 = .ok (.getfield 20, 3) := by decide +kernel
theorem dX3_copyFrom_99 : decode cX3_copyFrom 99 = .ok (.aload_n 1, 1) := by decide +kernel
theorem dX3_copyFrom_100 : decode cX3_copyFrom 100 = .ok (.getfield 20, 3) := by decide +kernel
theorem dX3_copyFrom_103 : decode cX3_copyFrom 103 = .ok (.invokevirtual 74, 3) := by decide +kernel
theorem dX3_copyFrom_106 : decode cX3_copyFrom 106 = .ok (.aload_n 0, 1) := by decide +kernel
theorem dX3_copyFrom_107 : decode cX3_copyFrom 107 = .ok (.getfield 27, 3) := by decide +kernel
theorem dX3_copyFrom_110 : decode cX3_copyFrom 110 = .ok (.aload_n 1, 1) := by decide +kernel
theorem dX3_copyFrom_111 : decode cX3_copyFrom 111 = .ok (.getfield 27, 3) := by decide +kernel
theorem dX3_copyFrom_114 : decode cX3_copyFrom 114 = .ok (.invokevirtual 77, 3) := by decide +kernel
theorem dX3_copyFrom_117 : decode cX3_copyFrom 117 = .ok (.aload_n 1, 1) := by decide +kernel
theorem dX3_copyFrom_118 : decode cX3_copyFrom 118 = .ok (.getfield 31, 3) := by decide +kernel
theorem dX3_copyFrom_121 : decode cX3_copyFrom 121 = .ok (.iconst 0, 1) := by decide +kernel
theorem dX3_copyFrom_122 : decode cX3_copyFrom 122 = .ok (.aload_n 0, 1) := by decide +kernel
theorem dX3_copyFrom_123 : decode cX3_copyFrom 123 = .ok (.getfield 31, 3) := by decide +kernel
theorem dX3_copyFrom_126 : decode cX3_copyFrom 126 = .ok (.iconst 0, 1) := by decide +kernel
theorem dX3_copyFrom_127 : decode cX3_copyFrom 127 = .ok (.bipush 7, 2) := by decide +kernel
theorem dX3_copyFrom_129 : decode cX3_copyFrom 129 = .ok (.invokestatic 39, 3) := by decide +kernel
theorem dX3_copyFrom_132 : decode cX3_copyFrom 132 = .ok (.return_, 1) := by decide +kernel
theorem dX3_addFile_0 : decode cX3_addFile 0 = .ok (.iload_n 1, 1) := by decide +kernel
theorem dX3_addFile_1 : decode cX3_addFile 1 = .ok (.ifCond .lt 19, 3) := by decide +kernel
theorem dX3_addFile_4 : decode cX3_addFile 4 = .ok (.iload_n 1, 1) := by decide +kernel
theorem dX3_addFile_5 : decode cX3_addFile 5 = .ok (.iconst 4, 1) := by decide +kernel
theorem dX3_addFile_6 : decode cX3_addFile 6 = .ok (.if_icmp .gt 14, 3) := by decide +kernel
theorem dX3_addFile_9 : decode cX3_addFile 9 = .ok (.iload_n 2, 1) := by decide +kernel
theorem dX3_addFile_10 : decode cX3_addFile 10 = .ok (.iconst 1, 1) := by decide +kernel
theorem dX3_addFile_11 : decode cX3_addFile 11 = .ok (.if_icmp .lt 9, 3) := by decide +kernel
theorem dX3_addFile_14 : decode cX3_addFile 14 = .ok (.iload_n 2, 1) := by decide +kernel
theorem dX3_addFile_15 : decode cX3_addFile 15 = .ok (.bipush 50, 2) := by decide +kernel
theorem dX3_addFile_17 : decode cX3_addFile 17 = .ok (.if_icmp .le 6, 3) := by decide +kernel
theorem dX3_addFile_20 : decode cX3_addFile 20 = .ok (.bipush (-2), 2) := by decide +kernel
theorem dX3_addFile_22 : decode cX3_addFile 22 = .ok (.ireturn, 1) := by decide +kernel
theorem dX3_addFile_23 : decode cX3_addFile 23 = .ok (.aload_n 0, 1) := by decide +kernel
theorem dX3_addFile_24 : decode cX3_addFile 24 = .ok (.getfield 49, 3) := by decide +kernel
theorem dX3_addFile_27 : decode cX3_addFile 27 = .ok (.bipush 24, 2) := by decide +kernel
theorem dX3_addFile_29 : decode cX3_addFile 29 = .ok (.if_icmp .ge 29, 3) := by decide +kernel
theorem dX3_addFile_32 : decode cX3_addFile 32 = .ok (.aload_n 0, 1) := by decide +kernel
theorem dX3_addFile_33 : decode cX3_addFile 33 = .ok (.getfield 52, 3) := by decide +kernel
theorem dX3_addFile_36 : decode cX3_addFile 36 = .ok (.sipush 200, 3) := by decide +kernel
theorem dX3_addFile_39 : decode cX3_addFile 39 = .ok (.if_icmp .ge 19, 3) := by decide +kernel
theorem dX3_addFile_42 : decode cX3_addFile 42 = .ok (.aload_n 0, 1) := by decide +kernel
theorem dX3_addFile_43 : decode cX3_addFile 43 = .ok (.invokevirtual 80, 3) := by decide +kernel
theorem dX3_addFile_46 : decode cX3_addFile 46 = .ok (.iload_n 2, 1) := by decide +kernel
theorem dX3_addFile_47 : decode cX3_addFile 47 = .ok (.iadd, 1) := by decide +kernel
theorem dX3_addFile_48 : decode cX3_addFile 48 = .ok (.aload_n 0, 1) := by decide +kernel
theorem dX3_addFile_49 : decode cX3_addFile 49 = .ok (.getfield 31, 3) := by decide +kernel
theorem dX3_addFile_52 : decode cX3_addFile 52 = .ok (.bipush 6, 2) := by decide +kernel
theorem dX3_addFile_54 : decode cX3_addFile 54 = .ok (.iaload, 1) := by decide +kernel
theorem dX3_addFile_55 : decode cX3_addFile 55 = .ok (.if_icmp .le 6, 3) := by decide +kernel
theorem dX3_addFile_58 : decode cX3_addFile 58 = .ok (.bipush (-4), 2) := by decide +kernel
theorem dX3_addFile_60 : decode cX3_addFile 60 = .ok (.ireturn, 1) := by decide +kernel
theorem dX3_addFile_61 : decode cX3_addFile 61 = .ok (.aload_n 0, 1) := by decide +kernel
theorem dX3_addFile_62 : decode cX3_addFile 62 = .ok (.getfield 11, 3) := by decide +kernel
theorem dX3_addFile_65 : decode cX3_addFile 65 = .ok (.aload_n 0, 1) := by decide +kernel
theorem dX3_addFile_66 : decode cX3_addFile 66 = .ok (.getfield 49, 3) := by decide +kernel
theorem dX3_addFile_69 : decode cX3_addFile 69 = .ok (.aaload, 1) := by decide +kernel
theorem dX3_addFile_70 : decode cX3_addFile 70 = .ok (.aload_n 0, 1) := by decide +kernel
theorem dX3_addFile_71 : decode cX3_addFile 71 = .ok (.getfield 52, 3) := by decide +kernel
theorem dX3_addFile_74 : decode cX3_addFile 74 = .ok (.iload_n 1, 1) := by decide +kernel
theorem dX3_addFile_75 : decode cX3_addFile 75 = .ok (.iload_n 2, 1) := by decide +kernel
theorem dX3_addFile_76 : decode cX3_addFile 76 = .ok (.aload_n 0, 1) := by decide +kernel
theorem dX3_addFile_77 : decode cX3_addFile 77 = .ok (.getfield 45, 3) := by decide +kernel
theorem dX3_addFile_80 : decode cX3_addFile 80 = .ok (.invokevirtual 84, 3) := by decide +kernel
theorem dX3_addFile_83 : decode cX3_addFile 83 = .ok (.aload_n 0, 1) := by decide +kernel
theorem dX3_addFile_84 : decode cX3_addFile 84 = .ok (.dup, 1) := by decide +kernel
theorem dX3_addFile_85 : decode cX3_addFile 85 = .ok (.getfield 49, 3) := by decide +kernel
theorem dX3_addFile_88 : decode cX3_addFile 88 = .ok (.iconst 1, 1) := by decide +kernel
theorem dX3_addFile_89 : decode cX3_addFile 89 = .ok (.iadd, 1) := by decide +kernel
theorem dX3_addFile_90 : decode cX3_addFile 90 = .ok (.putfield 49, 3) := by decide +kernel
theorem dX3_addFile_93 : decode cX3_addFile 93 = .ok (.aload_n 0, 1) := by decide +kernel
theorem dX3_addFile_94 : decode cX3_addFile 94 = .ok (.dup, 1) := by decide +kernel
theorem dX3_addFile_95 : decode cX3_addFile 95 = .ok (.getfield 52, 3) := by decide +kernel
theorem dX3_addFile_98 : decode cX3_addFile 98 = .ok (.iconst 1, 1) := by decide +kernel
theorem dX3_addFile_99 : decode cX3_addFile 99 = .ok (.iadd, 1) := by decide +kernel
theorem dX3_addFile_100 : decode cX3_addFile 100 = .ok (.putfield 52, 3) := by decide +kernel
theorem dX3_addFile_103 : decode cX3_addFile 103 = .ok (.aload_n 0, 1) := by decide +kernel
theorem dX3_addFile_104 : decode cX3_addFile 104 = .ok (.getfield 52, 3) := by decide +kernel
theorem dX3_addFile_107 : decode cX3_addFile 107 = .ok (.iconst 1, 1) := by decide +kernel
theorem dX3_addFile_108 : decode cX3_addFile 108 = .ok (.isub, 1) := by decide +kernel
theorem dX3_addFile_109 : decode cX3_addFile 109 = .ok (.ireturn, 1) := by decide +kernel
theorem dX3_askFor_0 : decode cX3_askFor 0 = .ok (.iload_n 1, 1) := by decide +kernel
theorem dX3_askFor_1 : decode cX3_askFor 1 = .ok (.ifCond .lt 11, 3) := by decide +kernel
theorem dX3_askFor_4 : decode cX3_askFor 4 = .ok (.iload_n 1, 1) := by decide +kernel
theorem dX3_askFor_5 : decode cX3_askFor 5 = .ok (.aload_n 0, 1) := by decide +kernel
theorem dX3_askFor_6 : decode cX3_askFor 6 = .ok (.getfield 52, 3) := by decide +kernel
theorem dX3_askFor_9 : decode cX3_askFor 9 = .ok (.if_icmp .lt 5, 3) := by decide +kernel
theorem dX3_askFor_12 : decode cX3_askFor 12 = .ok (.iconst (-1), 1) := by decide +kernel
theorem dX3_askFor_13 : decode cX3_askFor 13 = .ok (.ireturn, 1) := by decide +kernel
theorem dX3_askFor_14 : decode cX3_askFor 14 = .ok (.aload_n 0, 1) := by decide +kernel
theorem dX3_askFor_15 : decode cX3_askFor 15 = .ok (.iload_n 1, 1) := by decide +kernel
theorem dX3_askFor_16 : decode cX3_askFor 16 = .ok (.invokevirtual 88, 3) := by decide +kernel
theorem dX3_askFor_19 : decode cX3_askFor 19 = .ok (.astore_n 2, 1) := by decide +kernel
theorem dX3_askFor_20 : decode cX3_askFor 20 = .ok (.aload_n 2, 1) := by decide +kernel
theorem dX3_askFor_21 : decode cX3_askFor 21 = .ok (.ifnonnull 16, 3) := by decide +kernel
theorem dX3_askFor_24 : decode cX3_askFor 24 = .ok (.aload_n 0, 1) := by decide +kernel
theorem dX3_askFor_25 : decode cX3_askFor 25 = .ok (.dup, 1) := by decide +kernel
theorem dX3_askFor_26 : decode cX3_askFor 26 = .ok (.getfield 64, 3) := by decide +kernel
theorem dX3_askFor_29 : decode cX3_askFor 29 = .ok (.iconst 1, 1) := by decide +kernel
theorem dX3_askFor_30 : decode cX3_askFor 30 = .ok (.iadd, 1) := by decide +kernel
theorem dX3_askFor_31 : decode cX3_askFor 31 = .ok (.putfield 64, 3) := by decide +kernel
theorem dX3_askFor_34 : decode cX3_askFor 34 = .ok (.bipush (-6), 2) := by decide +kernel
theorem dX3_askFor_36 : decode cX3_askFor 36 = .ok (.ireturn, 1) := by decide +kernel
theorem dX3_askFor_37 : decode cX3_askFor 37 = .ok (.aload_n 0, 1) := by decide +kernel
theorem dX3_askFor_38 : decode cX3_askFor 38 = .ok (.aload_n 2, 1) := by decide +kernel
theorem dX3_askFor_39 : decode cX3_askFor 39 = .ok (.invokevirtual 92, 3) := by decide +kernel
theorem dX3_askFor_42 : decode cX3_askFor 42 = .ok (.aload_n 2, 1) := by decide +kernel
theorem dX3_askFor_43 : decode cX3_askFor 43 = .ok (.getfield 95, 3) := by decide +kernel
theorem dX3_askFor_46 : decode cX3_askFor 46 = .ok (.ireturn, 1) := by decide +kernel
theorem dX3_putSeal_0 : decode cX3_putSeal 0 = .ok (.aload_n 0, 1) := by decide +kernel
theorem dX3_putSeal_1 : decode cX3_putSeal 1 = .ok (.iload_n 2, 1) := by decide +kernel
theorem dX3_putSeal_2 : decode cX3_putSeal 2 = .ok (.invokevirtual 88, 3) := by decide +kernel
theorem dX3_putSeal_5 : decode cX3_putSeal 5 = .ok (.astore 4, 2) := by decide +kernel
theorem dX3_putSeal_7 : decode cX3_putSeal 7 = .ok (.iload_n 1, 1) := by decide +kernel
theorem dX3_putSeal_8 : decode cX3_putSeal 8 = .ok (.invokestatic 98, 3) := by decide +kernel
theorem dX3_putSeal_11 : decode cX3_putSeal 11 = .ok (.ifCond .ne 8, 3) := by decide +kernel
theorem dX3_putSeal_14 : decode cX3_putSeal 14 = .ok (.aload 4, 2) := by decide +kernel
theorem dX3_putSeal_16 : decode cX3_putSeal 16 = .ok (.ifnonnull 5, 3) := by decide +kernel
theorem dX3_putSeal_19 : decode cX3_putSeal 19 = .ok (.iconst (-1), 1) := by decide +kernel
theorem dX3_putSeal_20 : decode cX3_putSeal 20 = .ok (.ireturn, 1) := by decide +kernel
theorem dX3_putSeal_21 : decode cX3_putSeal 21 = .ok (.iload_n 3, 1) := by decide +kernel
theorem dX3_putSeal_22 : decode cX3_putSeal 22 = .ok (.iconst (-1), 1) := by decide +kernel
theorem dX3_putSeal_23 : decode cX3_putSeal 23 = .ok (.if_icmp .eq 21, 3) := by decide +kernel
theorem dX3_putSeal_26 : decode cX3_putSeal 26 = .ok (.iload_n 3, 1) := by decide +kernel
theorem dX3_putSeal_27 : decode cX3_putSeal 27 = .ok (.aload_n 0, 1) := by decide +kernel
theorem dX3_putSeal_28 : decode cX3_putSeal 28 = .ok (.getfield 45, 3) := by decide +kernel
theorem dX3_putSeal_31 : decode cX3_putSeal 31 = .ok (.if_icmp .lt 10, 3) := by decide +kernel
theorem dX3_putSeal_34 : decode cX3_putSeal 34 = .ok (.iload_n 3, 1) := by decide +kernel
theorem dX3_putSeal_35 : decode cX3_putSeal 35 = .ok (.sipush 9999, 3) := by decide +kernel
theorem dX3_putSeal_38 : decode cX3_putSeal 38 = .ok (.if_icmp .le 6, 3) := by decide +kernel
theorem dX3_putSeal_41 : decode cX3_putSeal 41 = .ok (.bipush (-2), 2) := by decide +kernel
theorem dX3_putSeal_43 : decode cX3_putSeal 43 = .ok (.ireturn, 1) := by decide +kernel
theorem dX3_putSeal_44 : decode cX3_putSeal 44 = .ok (.aload 4, 2) := by decide +kernel
theorem dX3_putSeal_46 : decode cX3_putSeal 46 = .ok (.getfield 102, 3) := by decide +kernel
theorem dX3_putSeal_49 : decode cX3_putSeal 49 = .ok (.iload_n 1, 1) := by decide +kernel
theorem dX3_putSeal_50 : decode cX3_putSeal 50 = .ok (.iload_n 3, 1) := by decide +kernel
theorem dX3_putSeal_51 : decode cX3_putSeal 51 = .ok (.iconst (-1), 1) := by decide +kernel
theorem dX3_putSeal_52 : decode cX3_putSeal 52 = .ok (.if_icmp .ne 9, 3) := by decide +kernel
theorem dX3_putSeal_55 : decode cX3_putSeal 55 = .ok (.sipush 10000, 3) := by decide +kernel
theorem dX3_putSeal_58 : decode cX3_putSeal 58 = .ok (.goto 4, 3) := by decide +kernel
theorem dX3_putSeal_61 : decode cX3_putSeal 61 = .ok (.iload_n 3, 1) := by decide +kernel
theorem dX3_putSeal_62 : decode cX3_putSeal 62 = .ok (.iastore, 1) := by decide +kernel
theorem dX3_putSeal_63 : decode cX3_putSeal 63 = .ok (.aload 4, 2) := by decide +kernel
theorem dX3_putSeal_65 : decode cX3_putSeal 65 = .ok (.aload_n 0, 1) := by decide +kernel
theorem dX3_putSeal_66 : decode cX3_putSeal 66 = .ok (.getfield 45, 3) := by decide +kernel
theorem dX3_putSeal_69 : decode cX3_putSeal 69 = .ok (.invokevirtual 105, 3) := by decide +kernel
theorem dX3_putSeal_72 : decode cX3_putSeal 72 = .ok (.invokestatic 109, 3) := by decide +kernel
theorem dX3_putSeal_75 : decode cX3_putSeal 75 = .ok (.ireturn, 1) := by decide +kernel
theorem dX3_takeSeal_0 : decode cX3_takeSeal 0 = .ok (.aload_n 0, 1) := by decide +kernel
theorem dX3_takeSeal_1 : decode cX3_takeSeal 1 = .ok (.iload_n 2, 1) := by decide +kernel
theorem dX3_takeSeal_2 : decode cX3_takeSeal 2 = .ok (.invokevirtual 88, 3) := by decide +kernel
theorem dX3_takeSeal_5 : decode cX3_takeSeal 5 = .ok (.astore_n 3, 1) := by decide +kernel
theorem dX3_takeSeal_6 : decode cX3_takeSeal 6 = .ok (.iload_n 1, 1) := by decide +kernel
theorem dX3_takeSeal_7 : decode cX3_takeSeal 7 = .ok (.invokestatic 98, 3) := by decide +kernel
theorem dX3_takeSeal_10 : decode cX3_takeSeal 10 = .ok (.ifCond .ne 17, 3) := by decide +kernel
theorem dX3_takeSeal_13 : decode cX3_takeSeal 13 = .ok (.aload_n 3, 1) := by decide +kernel
theorem dX3_takeSeal_14 : decode cX3_takeSeal 14 = .ok (.ifnull 13, 3) := by decide +kernel
theorem dX3_takeSeal_17 : decode cX3_takeSeal 17 = .ok (.aload_n 3, 1) := by decide +kernel
theorem dX3_takeSeal_18 : decode cX3_takeSeal 18 = .ok (.getfield 102, 3) := by decide +kernel
theorem dX3_takeSeal_21 : decode cX3_takeSeal 21 = .ok (.iload_n 1, 1) := by decide +kernel
theorem dX3_takeSeal_22 : decode cX3_takeSeal 22 = .ok (.iaload, 1) := by decide +kernel
theorem dX3_takeSeal_23 : decode cX3_takeSeal 23 = .ok (.iconst (-1), 1) := by decide +kernel
theorem dX3_takeSeal_24 : decode cX3_takeSeal 24 = .ok (.if_icmp .ne 5, 3) := by decide +kernel
theorem dX3_takeSeal_27 : decode cX3_takeSeal 27 = .ok (.iconst (-1), 1) := by decide +kernel
theorem dX3_takeSeal_28 : decode cX3_takeSeal 28 = .ok (.ireturn, 1) := by decide +kernel
theorem dX3_takeSeal_29 : decode cX3_takeSeal 29 = .ok (.aload_n 3, 1) := by decide +kernel
theorem dX3_takeSeal_30 : decode cX3_takeSeal 30 = .ok (.getfield 102, 3) := by decide +kernel
theorem dX3_takeSeal_33 : decode cX3_takeSeal 33 = .ok (.iload_n 1, 1) := by decide +kernel
theorem dX3_takeSeal_34 : decode cX3_takeSeal 34 = .ok (.iconst (-1), 1) := by decide +kernel
theorem dX3_takeSeal_35 : decode cX3_takeSeal 35 = .ok (.iastore, 1) := by decide +kernel
theorem dX3_takeSeal_36 : decode cX3_takeSeal 36 = .ok (.aload_n 3, 1) := by decide +kernel
theorem dX3_takeSeal_37 : decode cX3_takeSeal 37 = .ok (.aload_n 0, 1) := by decide +kernel
theorem dX3_takeSeal_38 : decode cX3_takeSeal 38 = .ok (.getfield 45, 3) := by decide +kernel
theorem dX3_takeSeal_41 : decode cX3_takeSeal 41 = .ok (.invokevirtual 105, 3) := by decide +kernel
theorem dX3_takeSeal_44 : decode cX3_takeSeal 44 = .ok (.invokestatic 109, 3) := by decide +kernel
theorem dX3_takeSeal_47 : decode cX3_takeSeal 47 = .ok (.ireturn, 1) := by decide +kernel
theorem dX3_putReference_0 : decode cX3_putReference 0 = .ok (.aload_n 0, 1) := by decide +kernel
theorem dX3_putReference_1 : decode cX3_putReference 1 = .ok (.iload_n 1, 1) := by decide +kernel
theorem dX3_putReference_2 : decode cX3_putReference 2 = .ok (.invokevirtual 88, 3) := by decide +kernel
theorem dX3_putReference_5 : decode cX3_putReference 5 = .ok (.astore_n 3, 1) := by decide +kernel
theorem dX3_putReference_6 : decode cX3_putReference 6 = .ok (.aload_n 3, 1) := by decide +kernel
theorem dX3_putReference_7 : decode cX3_putReference 7 = .ok (.ifnull 11, 3) := by decide +kernel
theorem dX3_putReference_10 : decode cX3_putReference 10 = .ok (.aload_n 0, 1) := by decide +kernel
theorem dX3_putReference_11 : decode cX3_putReference 11 = .ok (.iload_n 2, 1) := by decide +kernel
theorem dX3_putReference_12 : decode cX3_putReference 12 = .ok (.invokevirtual 88, 3) := by decide +kernel
theorem dX3_putReference_15 : decode cX3_putReference 15 = .ok (.ifnonnull 5, 3) := by decide +kernel
theorem dX3_putReference_18 : decode cX3_putReference 18 = .ok (.iconst (-1), 1) := by decide +kernel
theorem dX3_putReference_19 : decode cX3_putReference 19 = .ok (.ireturn, 1) := by decide +kernel
theorem dX3_putReference_20 : decode cX3_putReference 20 = .ok (.aload_n 3, 1) := by decide +kernel
theorem dX3_putReference_21 : decode cX3_putReference 21 = .ok (.iload_n 2, 1) := by decide +kernel
theorem dX3_putReference_22 : decode cX3_putReference 22 = .ok (.putfield 114, 3) := by decide +kernel
theorem dX3_putReference_25 : decode cX3_putReference 25 = .ok (.aload_n 0, 1) := by decide +kernel
theorem dX3_putReference_26 : decode cX3_putReference 26 = .ok (.iload_n 2, 1) := by decide +kernel
theorem dX3_putReference_27 : decode cX3_putReference 27 = .ok (.invokevirtual 117, 3) := by decide +kernel
theorem dX3_putReference_30 : decode cX3_putReference 30 = .ok (.ireturn, 1) := by decide +kernel
theorem dX3_putReservation_0 : decode cX3_putReservation 0 = .ok (.aload_n 0, 1) := by decide +kernel
theorem dX3_putReservation_1 : decode cX3_putReservation 1 = .ok (.iload_n 1, 1) := by decide +kernel
theorem dX3_putReservation_2 : decode cX3_putReservation 2 = .ok (.invokevirtual 88, 3) := by decide +kernel
theorem dX3_putReservation_5 : decode cX3_putReservation 5 = .ok (.ifnonnull 5, 3) := by decide +kernel
theorem dX3_putReservation_8 : decode cX3_putReservation 8 = .ok (.iconst (-1), 1) := by decide +kernel
theorem dX3_putReservation_9 : decode cX3_putReservation 9 = .ok (.ireturn, 1) := by decide +kernel
theorem dX3_putReservation_10 : decode cX3_putReservation 10 = .ok (.iload_n 2, 1) := by decide +kernel
theorem dX3_putReservation_11 : decode cX3_putReservation 11 = .ok (.aload_n 0, 1) := by decide +kernel
theorem dX3_putReservation_12 : decode cX3_putReservation 12 = .ok (.getfield 45, 3) := by decide +kernel
theorem dX3_putReservation_15 : decode cX3_putReservation 15 = .ok (.if_icmp .le 10, 3) := by decide +kernel
theorem dX3_putReservation_18 : decode cX3_putReservation 18 = .ok (.iload_n 2, 1) := by decide +kernel
theorem dX3_putReservation_19 : decode cX3_putReservation 19 = .ok (.sipush 9999, 3) := by decide +kernel
theorem dX3_putReservation_22 : decode cX3_putReservation 22 = .ok (.if_icmp .le 6, 3) := by decide +kernel
theorem dX3_putReservation_25 : decode cX3_putReservation 25 = .ok (.bipush (-2), 2) := by decide +kernel
theorem dX3_putReservation_27 : decode cX3_putReservation 27 = .ok (.ireturn, 1) := by decide +kernel
theorem dX3_putReservation_28 : decode cX3_putReservation 28 = .ok (.aload_n 0, 1) := by decide +kernel
theorem dX3_putReservation_29 : decode cX3_putReservation 29 = .ok (.getfield 20, 3) := by decide +kernel
theorem dX3_putReservation_32 : decode cX3_putReservation 32 = .ok (.iload_n 1, 1) := by decide +kernel
theorem dX3_putReservation_33 : decode cX3_putReservation 33 = .ok (.iload_n 2, 1) := by decide +kernel
theorem dX3_putReservation_34 : decode cX3_putReservation 34 = .ok (.invokevirtual 120, 3) := by decide +kernel
theorem dX3_putReservation_37 : decode cX3_putReservation 37 = .ok (.ifCond .lt 6, 3) := by decide +kernel
theorem dX3_putReservation_40 : decode cX3_putReservation 40 = .ok (.bipush (-5), 2) := by decide +kernel
theorem dX3_putReservation_42 : decode cX3_putReservation 42 = .ok (.ireturn, 1) := by decide +kernel
theorem dX3_putReservation_43 : decode cX3_putReservation 43 = .ok (.aload_n 0, 1) := by decide +kernel
theorem dX3_putReservation_44 : decode cX3_putReservation 44 = .ok (.getfield 20, 3) := by decide +kernel
theorem dX3_putReservation_47 : decode cX3_putReservation 47 = .ok (.getfield 124, 3) := by decide +kernel
theorem dX3_putReservation_50 : decode cX3_putReservation 50 = .ok (.bipush 8, 2) := by decide +kernel
theorem dX3_putReservation_52 : decode cX3_putReservation 52 = .ok (.if_icmp .lt 6, 3) := by decide +kernel
theorem dX3_putReservation_55 : decode cX3_putReservation 55 = .ok (.bipush (-4), 2) := by decide +kernel
theorem dX3_putReservation_57 : decode cX3_putReservation 57 = .ok (.ireturn, 1) := by decide +kernel
theorem dX3_putReservation_58 : decode cX3_putReservation 58 = .ok (.aload_n 0, 1) := by decide +kernel
theorem dX3_putReservation_59 : decode cX3_putReservation 59 = .ok (.getfield 20, 3) := by decide +kernel
theorem dX3_putReservation_62 : decode cX3_putReservation 62 = .ok (.iload_n 1, 1) := by decide +kernel
theorem dX3_putReservation_63 : decode cX3_putReservation 63 = .ok (.iload_n 2, 1) := by decide +kernel
theorem dX3_putReservation_64 : decode cX3_putReservation 64 = .ok (.invokevirtual 127, 3) := by decide +kernel
theorem dX3_putReservation_67 : decode cX3_putReservation 67 = .ok (.aload_n 0, 1) := by decide +kernel
theorem dX3_putReservation_68 : decode cX3_putReservation 68 = .ok (.getfield 20, 3) := by decide +kernel
theorem dX3_putReservation_71 : decode cX3_putReservation 71 = .ok (.getfield 124, 3) := by decide +kernel
theorem dX3_putReservation_74 : decode cX3_putReservation 74 = .ok (.ireturn, 1) := by decide +kernel
theorem dX3_takeReservation_0 : decode cX3_takeReservation 0 = .ok (.aload_n 0, 1) := by decide +kernel
theorem dX3_takeReservation_1 : decode cX3_takeReservation 1 = .ok (.getfield 20, 3) := by decide +kernel
theorem dX3_takeReservation_4 : decode cX3_takeReservation 4 = .ok (.iload_n 1, 1) := by decide +kernel
theorem dX3_takeReservation_5 : decode cX3_takeReservation 5 = .ok (.iload_n 2, 1) := by decide +kernel
theorem dX3_takeReservation_6 : decode cX3_takeReservation 6 = .ok (.invokevirtual 120, 3) := by decide +kernel
theorem dX3_takeReservation_9 : decode cX3_takeReservation 9 = .ok (.istore_n 3, 1) := by decide +kernel
theorem dX3_takeReservation_10 : decode cX3_takeReservation 10 = .ok (.iload_n 3, 1) := by decide +kernel
theorem dX3_takeReservation_11 : decode cX3_takeReservation 11 = .ok (.ifCond .ge 5, 3) := by decide +kernel
theorem dX3_takeReservation_14 : decode cX3_takeReservation 14 = .ok (.iconst (-1), 1) := by decide +kernel
theorem dX3_takeReservation_15 : decode cX3_takeReservation 15 = .ok (.ireturn, 1) := by decide +kernel
theorem dX3_takeReservation_16 : decode cX3_takeReservation 16 = .ok (.aload_n 0, 1) := by decide +kernel
theorem dX3_takeReservation_17 : decode cX3_takeReservation 17 = .ok (.getfield 20, 3) := by decide +kernel
theorem dX3_takeReservation_20 : decode cX3_takeReservation 20 = .ok (.iload_n 3, 1) := by decide +kernel
theorem dX3_takeReservation_21 : decode cX3_takeReservation 21 = .ok (.invokevirtual 131, 3) := by decide +kernel
theorem dX3_takeReservation_24 : decode cX3_takeReservation 24 = .ok (.aload_n 0, 1) := by decide +kernel
theorem dX3_takeReservation_25 : decode cX3_takeReservation 25 = .ok (.getfield 20, 3) := by decide +kernel
theorem dX3_takeReservation_28 : decode cX3_takeReservation 28 = .ok (.getfield 124, 3) := by decide +kernel
theorem dX3_takeReservation_31 : decode cX3_takeReservation 31 = .ok (.ireturn, 1) := by decide +kernel
theorem dX3_passDays_0 : decode cX3_passDays 0 = .ok (.iload_n 1, 1) := by decide +kernel
theorem dX3_passDays_1 : decode cX3_passDays 1 = .ok (.iconst 1, 1) := by decide +kernel
theorem dX3_passDays_2 : decode cX3_passDays 2 = .ok (.if_icmp .lt 10, 3) := by decide +kernel
theorem dX3_passDays_5 : decode cX3_passDays 5 = .ok (.iload_n 1, 1) := by decide +kernel
theorem dX3_passDays_6 : decode cX3_passDays 6 = .ok (.sipush 400, 3) := by decide +kernel
theorem dX3_passDays_9 : decode cX3_passDays 9 = .ok (.if_icmp .le 6, 3) := by decide +kernel
theorem dX3_passDays_12 : decode cX3_passDays 12 = .ok (.bipush (-2), 2) := by decide +kernel
theorem dX3_passDays_14 : decode cX3_passDays 14 = .ok (.ireturn, 1) := by decide +kernel
theorem dX3_passDays_15 : decode cX3_passDays 15 = .ok (.aload_n 0, 1) := by decide +kernel
theorem dX3_passDays_16 : decode cX3_passDays 16 = .ok (.getfield 45, 3) := by decide +kernel
theorem dX3_passDays_19 : decode cX3_passDays 19 = .ok (.iload_n 1, 1) := by decide +kernel
theorem dX3_passDays_20 : decode cX3_passDays 20 = .ok (.iadd, 1) := by decide +kernel
theorem dX3_passDays_21 : decode cX3_passDays 21 = .ok (.sipush 9999, 3) := by decide +kernel
theorem dX3_passDays_24 : decode cX3_passDays 24 = .ok (.if_icmp .le 6, 3) := by decide +kernel
theorem dX3_passDays_27 : decode cX3_passDays 27 = .ok (.bipush (-5), 2) := by decide +kernel
theorem dX3_passDays_29 : decode cX3_passDays 29 = .ok (.ireturn, 1) := by decide +kernel
theorem dX3_passDays_30 : decode cX3_passDays 30 = .ok (.iconst 0, 1) := by decide +kernel
theorem dX3_passDays_31 : decode cX3_passDays 31 = .ok (.istore_n 2, 1) := by decide +kernel
theorem dX3_passDays_32 : decode cX3_passDays 32 = .ok (.iconst 0, 1) := by decide +kernel
theorem dX3_passDays_33 : decode cX3_passDays 33 = .ok (.istore_n 3, 1) := by decide +kernel
theorem dX3_passDays_34 : decode cX3_passDays 34 = .ok (.iload_n 3, 1) := by decide +kernel
theorem dX3_passDays_35 : decode cX3_passDays 35 = .ok (.iload_n 1, 1) := by decide +kernel
theorem dX3_passDays_36 : decode cX3_passDays 36 = .ok (.if_icmp .ge 16, 3) := by decide +kernel
theorem dX3_passDays_39 : decode cX3_passDays 39 = .ok (.iload_n 2, 1) := by decide +kernel
theorem dX3_passDays_40 : decode cX3_passDays 40 = .ok (.aload_n 0, 1) := by decide +kernel
theorem dX3_passDays_41 : decode cX3_passDays 41 = .ok (.invokevirtual 135, 3) := by decide +kernel
theorem dX3_passDays_44 : decode cX3_passDays 44 = .ok (.iadd, 1) := by decide +kernel
theorem dX3_passDays_45 : decode cX3_passDays 45 = .ok (.istore_n 2, 1) := by decide +kernel
theorem dX3_passDays_46 : decode cX3_passDays 46 = .ok (.iinc 3 1, 3) := by decide +kernel
theorem dX3_passDays_49 : decode cX3_passDays 49 = .ok (.goto (-15), 3) := by decide +kernel
theorem dX3_passDays_52 : decode cX3_passDays 52 = .ok (.iload_n 2, 1) := by decide +kernel
theorem dX3_passDays_53 : decode cX3_passDays 53 = .ok (.ireturn, 1) := by decide +kernel
theorem dX3_changeSetting_0 : decode cX3_changeSetting 0 = .ok (.iload_n 1, 1) := by decide +kernel
theorem dX3_changeSetting_1 : decode cX3_changeSetting 1 = .ok (.invokestatic 138, 3) := by decide +kernel
theorem dX3_changeSetting_4 : decode cX3_changeSetting 4 = .ok (.ifCond .eq 5, 3) := by decide +kernel
theorem dX3_changeSetting_7 : decode cX3_changeSetting 7 = .ok (.iconst (-1), 1) := by decide +kernel
theorem dX3_changeSetting_8 : decode cX3_changeSetting 8 = .ok (.ireturn, 1) := by decide +kernel
theorem dX3_changeSetting_9 : decode cX3_changeSetting 9 = .ok (.iload_n 2, 1) := by decide +kernel
theorem dX3_changeSetting_10 : decode cX3_changeSetting 10 = .ok (.getstatic 141, 3) := by decide +kernel
theorem dX3_changeSetting_13 : decode cX3_changeSetting 13 = .ok (.iload_n 1, 1) := by decide +kernel
theorem dX3_changeSetting_14 : decode cX3_changeSetting 14 = .ok (.iaload, 1) := by decide +kernel
theorem dX3_changeSetting_15 : decode cX3_changeSetting 15 = .ok (.if_icmp .lt 12, 3) := by decide +kernel
theorem dX3_changeSetting_18 : decode cX3_changeSetting 18 = .ok (.iload_n 2, 1) := by decide +kernel
theorem dX3_changeSetting_19 : decode cX3_changeSetting 19 = .ok (.getstatic 144, 3) := by decide +kernel
theorem dX3_changeSetting_22 : decode cX3_changeSetting 22 = .ok (.iload_n 1, 1) := by decide +kernel
theorem dX3_changeSetting_23 : decode cX3_changeSetting 23 = .ok (.iaload, 1) := by decide +kernel
theorem dX3_changeSetting_24 : decode cX3_changeSetting 24 = .ok (.if_icmp .le 6, 3) := by decide +kernel
theorem dX3_changeSetting_27 : decode cX3_changeSetting 27 = .ok (.bipush (-2), 2) := by decide +kernel
theorem dX3_changeSetting_29 : decode cX3_changeSetting 29 = .ok (.ireturn, 1) := by decide +kernel
theorem dX3_changeSetting_30 : decode cX3_changeSetting 30 = .ok (.aload_n 0, 1) := by decide +kernel
theorem dX3_changeSetting_31 : decode cX3_changeSetting 31 = .ok (.getfield 31, 3) := by decide +kernel
theorem dX3_changeSetting_34 : decode cX3_changeSetting 34 = .ok (.iload_n 1, 1) := by decide +kernel
theorem dX3_changeSetting_35 : decode cX3_changeSetting 35 = .ok (.iaload, 1) := by decide +kernel
theorem dX3_changeSetting_36 : decode cX3_changeSetting 36 = .ok (.istore_n 3, 1) := by decide +kernel
theorem dX3_changeSetting_37 : decode cX3_changeSetting 37 = .ok (.aload_n 0, 1) := by decide +kernel
theorem dX3_changeSetting_38 : decode cX3_changeSetting 38 = .ok (.getfield 31, 3) := by decide +kernel
theorem dX3_changeSetting_41 : decode cX3_changeSetting 41 = .ok (.iload_n 1, 1) := by decide +kernel
theorem dX3_changeSetting_42 : decode cX3_changeSetting 42 = .ok (.iload_n 2, 1) := by decide +kernel
theorem dX3_changeSetting_43 : decode cX3_changeSetting 43 = .ok (.iastore, 1) := by decide +kernel
theorem dX3_changeSetting_44 : decode cX3_changeSetting 44 = .ok (.iload_n 3, 1) := by decide +kernel
theorem dX3_changeSetting_45 : decode cX3_changeSetting 45 = .ok (.ireturn, 1) := by decide +kernel
theorem dX3_passDay_0 : decode cX3_passDay 0 = .ok (.aload_n 0, 1) := by decide +kernel
theorem dX3_passDay_1 : decode cX3_passDay 1 = .ok (.dup, 1) := by decide +kernel
theorem dX3_passDay_2 : decode cX3_passDay 2 = .ok (.getfield 45, 3) := by decide +kernel
theorem dX3_passDay_5 : decode cX3_passDay 5 = .ok (.iconst 1, 1) := by decide +kernel
theorem dX3_passDay_6 : decode cX3_passDay 6 = .ok (.iadd, 1) := by decide +kernel
theorem dX3_passDay_7 : decode cX3_passDay 7 = .ok (.putfield 45, 3) := by decide +kernel
theorem dX3_passDay_10 : decode cX3_passDay 10 = .ok (.aload_n 0, 1) := by decide +kernel
theorem dX3_passDay_11 : decode cX3_passDay 11 = .ok (.invokevirtual 147, 3) := by decide +kernel
theorem dX3_passDay_14 : decode cX3_passDay 14 = .ok (.aload_n 0, 1) := by decide +kernel
theorem dX3_passDay_15 : decode cX3_passDay 15 = .ok (.getfield 45, 3) := by decide +kernel
theorem dX3_passDay_18 : decode cX3_passDay 18 = .ok (.bipush 90, 2) := by decide +kernel
theorem dX3_passDay_20 : decode cX3_passDay 20 = .ok (.irem, 1) := by decide +kernel
theorem dX3_passDay_21 : decode cX3_passDay 21 = .ok (.ifCond .eq 5, 3) := by decide +kernel
theorem dX3_passDay_24 : decode cX3_passDay 24 = .ok (.iconst 0, 1) := by decide +kernel
theorem dX3_passDay_25 : decode cX3_passDay 25 = .ok (.ireturn, 1) := by decide +kernel
theorem dX3_passDay_26 : decode cX3_passDay 26 = .ok (.aload_n 0, 1) := by decide +kernel
theorem dX3_passDay_27 : decode cX3_passDay 27 = .ok (.invokevirtual 150, 3) := by decide +kernel
theorem dX3_passDay_30 : decode cX3_passDay 30 = .ok (.aload_n 0, 1) := by decide +kernel
theorem dX3_passDay_31 : decode cX3_passDay 31 = .ok (.invokevirtual 153, 3) := by decide +kernel
theorem dX3_passDay_34 : decode cX3_passDay 34 = .ok (.ireturn, 1) := by decide +kernel
theorem dX3_askReserved_0 : decode cX3_askReserved 0 = .ok (.iconst 0, 1) := by decide +kernel
theorem dX3_askReserved_1 : decode cX3_askReserved 1 = .ok (.istore_n 1, 1) := by decide +kernel
theorem dX3_askReserved_2 : decode cX3_askReserved 2 = .ok (.iload_n 1, 1) := by decide +kernel
theorem dX3_askReserved_3 : decode cX3_askReserved 3 = .ok (.bipush 8, 2) := by decide +kernel
theorem dX3_askReserved_5 : decode cX3_askReserved 5 = .ok (.if_icmp .ge 67, 3) := by decide +kernel
theorem dX3_askReserved_8 : decode cX3_askReserved 8 = .ok (.aload_n 0, 1) := by decide +kernel
theorem dX3_askReserved_9 : decode cX3_askReserved 9 = .ok (.getfield 20, 3) := by decide +kernel
theorem dX3_askReserved_12 : decode cX3_askReserved 12 = .ok (.getfield 124, 3) := by decide +kernel
theorem dX3_askReserved_15 : decode cX3_askReserved 15 = .ok (.ifCond .eq 19, 3) := by decide +kernel
theorem dX3_askReserved_18 : decode cX3_askReserved 18 = .ok (.aload_n 0, 1) := by decide +kernel
theorem dX3_askReserved_19 : decode cX3_askReserved 19 = .ok (.getfield 20, 3) := by decide +kernel
theorem dX3_askReserved_22 : decode cX3_askReserved 22 = .ok (.getfield 156, 3) := by decide +kernel
theorem dX3_askReserved_25 : decode cX3_askReserved 25 = .ok (.iconst 0, 1) := by decide +kernel
theorem dX3_askReserved_26 : decode cX3_askReserved 26 = .ok (.iaload, 1) := by decide +kernel
theorem dX3_askReserved_27 : decode cX3_askReserved 27 = .ok (.aload_n 0, 1) := by decide +kernel
theorem dX3_askReserved_28 : decode cX3_askReserved 28 = .ok (.getfield 45, 3) := by decide +kernel
theorem dX3_askReserved_31 : decode cX3_askReserved 31 = .ok (.if_icmp .eq 4, 3) := by decide +kernel
theorem dX3_askReserved_34 : decode cX3_askReserved 34 = .ok (.return_, 1) := by decide +kernel
theorem dX3_askReserved_35 : decode cX3_askReserved 35 = .ok (.aload_n 0, 1) := by decide +kernel
theorem dX3_askReserved_36 : decode cX3_askReserved 36 = .ok (.aload_n 0, 1) := by decide +kernel
theorem dX3_askReserved_37 : decode cX3_askReserved 37 = .ok (.getfield 20, 3) := by decide +kernel
theorem dX3_askReserved_40 : decode cX3_askReserved 40 = .ok (.getfield 159, 3) := by decide +kernel
theorem dX3_askReserved_43 : decode cX3_askReserved 43 = .ok (.iconst 0, 1) := by decide +kernel
theorem dX3_askReserved_44 : decode cX3_askReserved 44 = .ok (.iaload, 1) := by decide +kernel
theorem dX3_askReserved_45 : decode cX3_askReserved 45 = .ok (.invokevirtual 88, 3) := by decide +kernel
theorem dX3_askReserved_48 : decode cX3_askReserved 48 = .ok (.astore_n 2, 1) := by decide +kernel
theorem dX3_askReserved_49 : decode cX3_askReserved 49 = .ok (.aload_n 0, 1) := by decide +kernel
theorem dX3_askReserved_50 : decode cX3_askReserved 50 = .ok (.getfield 20, 3) := by decide +kernel
theorem dX3_askReserved_53 : decode cX3_askReserved 53 = .ok (.iconst 0, 1) := by decide +kernel
theorem dX3_askReserved_54 : decode cX3_askReserved 54 = .ok (.invokevirtual 131, 3) := by decide +kernel
theorem dX3_askReserved_57 : decode cX3_askReserved 57 = .ok (.aload_n 2, 1) := by decide +kernel
theorem dX3_askReserved_58 : decode cX3_askReserved 58 = .ok (.ifnull 8, 3) := by decide +kernel
theorem dX3_askReserved_61 : decode cX3_askReserved 61 = .ok (.aload_n 0, 1) := by decide +kernel
theorem dX3_askReserved_62 : decode cX3_askReserved 62 = .ok (.aload_n 2, 1) := by decide +kernel
theorem dX3_askReserved_63 : decode cX3_askReserved 63 = .ok (.invokevirtual 92, 3) := by decide +kernel
theorem dX3_askReserved_66 : decode cX3_askReserved 66 = .ok (.iinc 1 1, 3) := by decide +kernel
theorem dX3_askReserved_69 : decode cX3_askReserved 69 = .ok (.goto (-67), 3) := by decide +kernel
theorem dX3_askReserved_72 : decode cX3_askReserved 72 = .ok (.return_, 1) := by decide +kernel
theorem dX3_askStored_0 : decode cX3_askStored 0 = .ok (.aload_n 1, 1) := by decide +kernel
theorem dX3_askStored_1 : decode cX3_askStored 1 = .ok (.aload_n 0, 1) := by decide +kernel
theorem dX3_askStored_2 : decode cX3_askStored 2 = .ok (.getfield 45, 3) := by decide +kernel
theorem dX3_askStored_5 : decode cX3_askStored 5 = .ok (.putfield 161, 3) := by decide +kernel
theorem dX3_askStored_8 : decode cX3_askStored 8 = .ok (.aload_n 1, 1) := by decide +kernel
theorem dX3_askStored_9 : decode cX3_askStored 9 = .ok (.dup, 1) := by decide +kernel
theorem dX3_askStored_10 : decode cX3_askStored 10 = .ok (.getfield 95, 3) := by decide +kernel
theorem dX3_askStored_13 : decode cX3_askStored 13 = .ok (.iconst 1, 1) := by decide +kernel
theorem dX3_askStored_14 : decode cX3_askStored 14 = .ok (.iadd, 1) := by decide +kernel
theorem dX3_askStored_15 : decode cX3_askStored 15 = .ok (.putfield 95, 3) := by decide +kernel
theorem dX3_askStored_18 : decode cX3_askStored 18 = .ok (.aload_n 0, 1) := by decide +kernel
theorem dX3_askStored_19 : decode cX3_askStored 19 = .ok (.dup, 1) := by decide +kernel
theorem dX3_askStored_20 : decode cX3_askStored 20 = .ok (.getfield 61, 3) := by decide +kernel
theorem dX3_askStored_23 : decode cX3_askStored 23 = .ok (.iconst 1, 1) := by decide +kernel
theorem dX3_askStored_24 : decode cX3_askStored 24 = .ok (.iadd, 1) := by decide +kernel
theorem dX3_askStored_25 : decode cX3_askStored 25 = .ok (.putfield 61, 3) := by decide +kernel
theorem dX3_askStored_28 : decode cX3_askStored 28 = .ok (.return_, 1) := by decide +kernel
theorem dX3_markReasons_0 : decode cX3_markReasons 0 = .ok (.iconst 0, 1) := by decide +kernel
theorem dX3_markReasons_1 : decode cX3_markReasons 1 = .ok (.istore_n 1, 1) := by decide +kernel
theorem dX3_markReasons_2 : decode cX3_markReasons 2 = .ok (.iload_n 1, 1) := by decide +kernel
theorem dX3_markReasons_3 : decode cX3_markReasons 3 = .ok (.aload_n 0, 1) := by decide +kernel
theorem dX3_markReasons_4 : decode cX3_markReasons 4 = .ok (.getfield 49, 3) := by decide +kernel
theorem dX3_markReasons_7 : decode cX3_markReasons 7 = .ok (.if_icmp .ge 28, 3) := by decide +kernel
theorem dX3_markReasons_10 : decode cX3_markReasons 10 = .ok (.aload_n 0, 1) := by decide +kernel
theorem dX3_markReasons_11 : decode cX3_markReasons 11 = .ok (.getfield 11, 3) := by decide +kernel
theorem dX3_markReasons_14 : decode cX3_markReasons 14 = .ok (.iload_n 1, 1) := by decide +kernel
theorem dX3_markReasons_15 : decode cX3_markReasons 15 = .ok (.aaload, 1) := by decide +kernel
theorem dX3_markReasons_16 : decode cX3_markReasons 16 = .ok (.aload_n 0, 1) := by decide +kernel
theorem dX3_markReasons_17 : decode cX3_markReasons 17 = .ok (.aload_n 0, 1) := by decide +kernel
theorem dX3_markReasons_18 : decode cX3_markReasons 18 = .ok (.getfield 11, 3) := by decide +kernel
theorem dX3_markReasons_21 : decode cX3_markReasons 21 = .ok (.iload_n 1, 1) := by decide +kernel
theorem dX3_markReasons_22 : decode cX3_markReasons 22 = .ok (.aaload, 1) := by decide +kernel
theorem dX3_markReasons_23 : decode cX3_markReasons 23 = .ok (.invokevirtual 164, 3) := by decide +kernel
theorem dX3_markReasons_26 : decode cX3_markReasons 26 = .ok (.putfield 168, 3) := by decide +kernel
theorem dX3_markReasons_29 : decode cX3_markReasons 29 = .ok (.iinc 1 1, 3) := by decide +kernel
theorem dX3_markReasons_32 : decode cX3_markReasons 32 = .ok (.goto (-30), 3) := by decide +kernel
theorem dX3_markReasons_35 : decode cX3_markReasons 35 = .ok (.iconst 0, 1) := by decide +kernel
theorem dX3_markReasons_36 : decode cX3_markReasons 36 = .ok (.istore_n 1, 1) := by decide +kernel
theorem dX3_markReasons_37 : decode cX3_markReasons 37 = .ok (.iload_n 1, 1) := by decide +kernel
theorem dX3_markReasons_38 : decode cX3_markReasons 38 = .ok (.aload_n 0, 1) := by decide +kernel
theorem dX3_markReasons_39 : decode cX3_markReasons 39 = .ok (.getfield 49, 3) := by decide +kernel
theorem dX3_markReasons_42 : decode cX3_markReasons 42 = .ok (.if_icmp .ge 44, 3) := by decide +kernel
theorem dX3_markReasons_45 : decode cX3_markReasons 45 = .ok (.aload_n 0, 1) := by decide +kernel
theorem dX3_markReasons_46 : decode cX3_markReasons 46 = .ok (.getfield 11, 3) := by decide +kernel
theorem dX3_markReasons_49 : decode cX3_markReasons 49 = .ok (.iload_n 1, 1) := by decide +kernel
theorem dX3_markReasons_50 : decode cX3_markReasons 50 = .ok (.aaload, 1) := by decide +kernel
theorem dX3_markReasons_51 : decode cX3_markReasons 51 = .ok (.getfield 168, 3) := by decide +kernel
theorem dX3_markReasons_54 : decode cX3_markReasons 54 = .ok (.ifCond .eq 26, 3) := by decide +kernel
theorem dX3_markReasons_57 : decode cX3_markReasons 57 = .ok (.aload_n 0, 1) := by decide +kernel
theorem dX3_markReasons_58 : decode cX3_markReasons 58 = .ok (.getfield 11, 3) := by decide +kernel
theorem dX3_markReasons_61 : decode cX3_markReasons 61 = .ok (.iload_n 1, 1) := by decide +kernel
theorem dX3_markReasons_62 : decode cX3_markReasons 62 = .ok (.aaload, 1) := by decide +kernel
theorem dX3_markReasons_63 : decode cX3_markReasons 63 = .ok (.getfield 168, 3) := by decide +kernel
theorem dX3_markReasons_66 : decode cX3_markReasons 66 = .ok (.iconst 4, 1) := by decide +kernel
theorem dX3_markReasons_67 : decode cX3_markReasons 67 = .ok (.if_icmp .eq 13, 3) := by decide +kernel
theorem dX3_markReasons_70 : decode cX3_markReasons 70 = .ok (.aload_n 0, 1) := by decide +kernel
theorem dX3_markReasons_71 : decode cX3_markReasons 71 = .ok (.aload_n 0, 1) := by decide +kernel
theorem dX3_markReasons_72 : decode cX3_markReasons 72 = .ok (.getfield 11, 3) := by decide +kernel
theorem dX3_markReasons_75 : decode cX3_markReasons 75 = .ok (.iload_n 1, 1) := by decide +kernel
theorem dX3_markReasons_76 : decode cX3_markReasons 76 = .ok (.aaload, 1) := by decide +kernel
theorem dX3_markReasons_77 : decode cX3_markReasons 77 = .ok (.invokevirtual 171, 3) := by decide +kernel
theorem dX3_markReasons_80 : decode cX3_markReasons 80 = .ok (.iinc 1 1, 3) := by decide +kernel
theorem dX3_markReasons_83 : decode cX3_markReasons 83 = .ok (.goto (-46), 3) := by decide +kernel
theorem dX3_markReasons_86 : decode cX3_markReasons 86 = .ok (.return_, 1) := by decide +kernel
theorem dX3_ownReason_0 : decode cX3_ownReason 0 = .ok (.aload_n 0, 1) := by decide +kernel
theorem dX3_ownReason_1 : decode cX3_ownReason 1 = .ok (.aload_n 1, 1) := by decide +kernel
theorem dX3_ownReason_2 : decode cX3_ownReason 2 = .ok (.invokevirtual 174, 3) := by decide +kernel
theorem dX3_ownReason_5 : decode cX3_ownReason 5 = .ok (.aload_n 0, 1) := by decide +kernel
theorem dX3_ownReason_6 : decode cX3_ownReason 6 = .ok (.getfield 45, 3) := by decide +kernel
theorem dX3_ownReason_9 : decode cX3_ownReason 9 = .ok (.if_icmp .le 5, 3) := by decide +kernel
theorem dX3_ownReason_12 : decode cX3_ownReason 12 = .ok (.iconst 1, 1) := by decide +kernel
theorem dX3_ownReason_13 : decode cX3_ownReason 13 = .ok (.ireturn, 1) := by decide +kernel
theorem dX3_ownReason_14 : decode cX3_ownReason 14 = .ok (.aload_n 1, 1) := by decide +kernel
theorem dX3_ownReason_15 : decode cX3_ownReason 15 = .ok (.aload_n 0, 1) := by decide +kernel
theorem dX3_ownReason_16 : decode cX3_ownReason 16 = .ok (.getfield 45, 3) := by decide +kernel
theorem dX3_ownReason_19 : decode cX3_ownReason 19 = .ok (.invokevirtual 105, 3) := by decide +kernel
theorem dX3_ownReason_22 : decode cX3_ownReason 22 = .ok (.ifCond .eq 5, 3) := by decide +kernel
theorem dX3_ownReason_25 : decode cX3_ownReason 25 = .ok (.iconst 2, 1) := by decide +kernel
theorem dX3_ownReason_26 : decode cX3_ownReason 26 = .ok (.ireturn, 1) := by decide +kernel
theorem dX3_ownReason_27 : decode cX3_ownReason 27 = .ok (.aload_n 0, 1) := by decide +kernel
theorem dX3_ownReason_28 : decode cX3_ownReason 28 = .ok (.getfield 20, 3) := by decide +kernel
theorem dX3_ownReason_31 : decode cX3_ownReason 31 = .ok (.aload_n 1, 1) := by decide +kernel
theorem dX3_ownReason_32 : decode cX3_ownReason 32 = .ok (.getfield 177, 3) := by decide +kernel
theorem dX3_ownReason_35 : decode cX3_ownReason 35 = .ok (.invokevirtual 180, 3) := by decide +kernel
theorem dX3_ownReason_38 : decode cX3_ownReason 38 = .ok (.ifCond .le 7, 3) := by decide +kernel
theorem dX3_ownReason_41 : decode cX3_ownReason 41 = .ok (.iconst 3, 1) := by decide +kernel
theorem dX3_ownReason_42 : decode cX3_ownReason 42 = .ok (.goto 4, 3) := by decide +kernel
theorem dX3_ownReason_45 : decode cX3_ownReason 45 = .ok (.iconst 0, 1) := by decide +kernel
theorem dX3_ownReason_46 : decode cX3_ownReason 46 = .ok (.ireturn, 1) := by decide +kernel
theorem dX3_markReferredFrom_0 : decode cX3_markReferredFrom 0 = .ok (.aload_n 1, 1) := by decide +kernel
theorem dX3_markReferredFrom_1 : decode cX3_markReferredFrom 1 = .ok (.astore_n 2, 1) := by decide +kernel
theorem dX3_markReferredFrom_2 : decode cX3_markReferredFrom 2 = .ok (.iconst 0, 1) := by decide +kernel
theorem dX3_markReferredFrom_3 : decode cX3_markReferredFrom 3 = .ok (.istore_n 3, 1) := by decide +kernel
theorem dX3_markReferredFrom_4 : decode cX3_markReferredFrom 4 = .ok (.iload_n 3, 1) := by decide +kernel
theorem dX3_markReferredFrom_5 : decode cX3_markReferredFrom 5 = .ok (.bipush 24, 2) := by decide +kernel
theorem dX3_markReferredFrom_7 : decode cX3_markReferredFrom 7 = .ok (.if_icmp .ge 35, 3) := by decide +kernel
theorem dX3_markReferredFrom_10 : decode cX3_markReferredFrom 10 = .ok (.aload_n 0, 1) := by decide +kernel
theorem dX3_markReferredFrom_11 : decode cX3_markReferredFrom 11 = .ok (.aload_n 2, 1) := by decide +kernel
theorem dX3_markReferredFrom_12 : decode cX3_markReferredFrom 12 = .ok (.getfield 114, 3) := by decide +kernel
theorem dX3_markReferredFrom_15 : decode cX3_markReferredFrom 15 = .ok (.invokevirtual 88, 3) := by decide +kernel
theorem dX3_markReferredFrom_18 : decode cX3_markReferredFrom 18 = .ok (.astore_n 2, 1) := by decide +kernel
theorem dX3_markReferredFrom_19 : decode cX3_markReferredFrom 19 = .ok (.aload_n 2, 1) := by decide +kernel
theorem dX3_markReferredFrom_20 : decode cX3_markReferredFrom 20 = .ok (.ifnull 10, 3) := by decide +kernel
theorem dX3_markReferredFrom_23 : decode cX3_markReferredFrom 23 = .ok (.aload_n 2, 1) := by decide +kernel
theorem dX3_markReferredFrom_24 : decode cX3_markReferredFrom 24 = .ok (.getfield 168, 3) := by decide +kernel
theorem dX3_markReferredFrom_27 : decode cX3_markReferredFrom 27 = .ok (.ifCond .eq 4, 3) := by decide +kernel
theorem dX3_markReferredFrom_30 : decode cX3_markReferredFrom 30 = .ok (.return_, 1) := by decide +kernel
theorem dX3_markReferredFrom_31 : decode cX3_markReferredFrom 31 = .ok (.aload_n 2, 1) := by decide +kernel
theorem dX3_markReferredFrom_32 : decode cX3_markReferredFrom 32 = .ok (.iconst 4, 1) := by decide +kernel
theorem dX3_markReferredFrom_33 : decode cX3_markReferredFrom 33 = .ok (.putfield 168, 3) := by decide +kernel
theorem dX3_markReferredFrom_36 : decode cX3_markReferredFrom 36 = .ok (.iinc 3 1, 3) := by decide +kernel
theorem dX3_markReferredFrom_39 : decode cX3_markReferredFrom 39 = .ok (.goto (-35), 3) := by decide +kernel
theorem dX3_markReferredFrom_42 : decode cX3_markReferredFrom 42 = .ok (.return_, 1) := by decide +kernel
theorem dX3_burnUnmarked_0 : decode cX3_burnUnmarked 0 = .ok (.aload_n 0, 1) := by decide +kernel
theorem dX3_burnUnmarked_1 : decode cX3_burnUnmarked 1 = .ok (.dup, 1) := by decide +kernel
theorem dX3_burnUnmarked_2 : decode cX3_burnUnmarked 2 = .ok (.getfield 67, 3) := by decide +kernel
theorem dX3_burnUnmarked_5 : decode cX3_burnUnmarked 5 = .ok (.iconst 1, 1) := by decide +kernel
theorem dX3_burnUnmarked_6 : decode cX3_burnUnmarked 6 = .ok (.iadd, 1) := by decide +kernel
theorem dX3_burnUnmarked_7 : decode cX3_burnUnmarked 7 = .ok (.putfield 67, 3) := by decide +kernel
theorem dX3_burnUnmarked_10 : decode cX3_burnUnmarked 10 = .ok (.aload_n 0, 1) := by decide +kernel
theorem dX3_burnUnmarked_11 : decode cX3_burnUnmarked 11 = .ok (.getfield 49, 3) := by decide +kernel
theorem dX3_burnUnmarked_14 : decode cX3_burnUnmarked 14 = .ok (.istore_n 1, 1) := by decide +kernel
theorem dX3_burnUnmarked_15 : decode cX3_burnUnmarked 15 = .ok (.iconst 0, 1) := by decide +kernel
theorem dX3_burnUnmarked_16 : decode cX3_burnUnmarked 16 = .ok (.istore_n 2, 1) := by decide +kernel
theorem dX3_burnUnmarked_17 : decode cX3_burnUnmarked 17 = .ok (.iconst 0, 1) := by decide +kernel
theorem dX3_burnUnmarked_18 : decode cX3_burnUnmarked 18 = .ok (.istore_n 3, 1) := by decide +kernel
theorem dX3_burnUnmarked_19 : decode cX3_burnUnmarked 19 = .ok (.iload_n 3, 1) := by decide +kernel
theorem dX3_burnUnmarked_20 : decode cX3_burnUnmarked 20 = .ok (.iload_n 1, 1) := by decide +kernel
theorem dX3_burnUnmarked_21 : decode cX3_burnUnmarked 21 = .ok (.if_icmp .ge 88, 3) := by decide +kernel
theorem dX3_burnUnmarked_24 : decode cX3_burnUnmarked 24 = .ok (.aload_n 0, 1) := by decide +kernel
theorem dX3_burnUnmarked_25 : decode cX3_burnUnmarked 25 = .ok (.getfield 11, 3) := by decide +kernel
theorem dX3_burnUnmarked_28 : decode cX3_burnUnmarked 28 = .ok (.iload_n 3, 1) := by decide +kernel
theorem dX3_burnUnmarked_29 : decode cX3_burnUnmarked 29 = .ok (.aaload, 1) := by decide +kernel
theorem dX3_burnUnmarked_30 : decode cX3_burnUnmarked 30 = .ok (.astore 4, 2) := by decide +kernel
theorem dX3_burnUnmarked_32 : decode cX3_burnUnmarked 32 = .ok (.aload 4, 2) := by decide +kernel
theorem dX3_burnUnmarked_34 : decode cX3_burnUnmarked 34 = .ok (.getfield 168, 3) := by decide +kernel
theorem dX3_burnUnmarked_37 : decode cX3_burnUnmarked 37 = .ok (.ifCond .ne 43, 3) := by decide +kernel
theorem dX3_burnUnmarked_40 : decode cX3_burnUnmarked 40 = .ok (.aload_n 0, 1) := by decide +kernel
theorem dX3_burnUnmarked_41 : decode cX3_burnUnmarked 41 = .ok (.dup, 1) := by decide +kernel
theorem dX3_burnUnmarked_42 : decode cX3_burnUnmarked 42 = .ok (.getfield 55, 3) := by decide +kernel
theorem dX3_burnUnmarked_45 : decode cX3_burnUnmarked 45 = .ok (.iconst 1, 1) := by decide +kernel
theorem dX3_burnUnmarked_46 : decode cX3_burnUnmarked 46 = .ok (.iadd, 1) := by decide +kernel
theorem dX3_burnUnmarked_47 : decode cX3_burnUnmarked 47 = .ok (.putfield 55, 3) := by decide +kernel
theorem dX3_burnUnmarked_50 : decode cX3_burnUnmarked 50 = .ok (.aload_n 0, 1) := by decide +kernel
theorem dX3_burnUnmarked_51 : decode cX3_burnUnmarked 51 = .ok (.dup, 1) := by decide +kernel
theorem dX3_burnUnmarked_52 : decode cX3_burnUnmarked 52 = .ok (.getfield 58, 3) := by decide +kernel
theorem dX3_burnUnmarked_55 : decode cX3_burnUnmarked 55 = .ok (.aload 4, 2) := by decide +kernel
theorem dX3_burnUnmarked_57 : decode cX3_burnUnmarked 57 = .ok (.getfield 183, 3) := by decide +kernel
theorem dX3_burnUnmarked_60 : decode cX3_burnUnmarked 60 = .ok (.iadd, 1) := by decide +kernel
theorem dX3_burnUnmarked_61 : decode cX3_burnUnmarked 61 = .ok (.putfield 58, 3) := by decide +kernel
theorem dX3_burnUnmarked_64 : decode cX3_burnUnmarked 64 = .ok (.aload_n 0, 1) := by decide +kernel
theorem dX3_burnUnmarked_65 : decode cX3_burnUnmarked 65 = .ok (.getfield 27, 3) := by decide +kernel
theorem dX3_burnUnmarked_68 : decode cX3_burnUnmarked 68 = .ok (.aload 4, 2) := by decide +kernel
theorem dX3_burnUnmarked_70 : decode cX3_burnUnmarked 70 = .ok (.aload_n 0, 1) := by decide +kernel
theorem dX3_burnUnmarked_71 : decode cX3_burnUnmarked 71 = .ok (.getfield 45, 3) := by decide +kernel
theorem dX3_burnUnmarked_74 : decode cX3_burnUnmarked 74 = .ok (.invokevirtual 186, 3) := by decide +kernel
theorem dX3_burnUnmarked_77 : decode cX3_burnUnmarked 77 = .ok (.goto 26, 3) := by decide +kernel
theorem dX3_burnUnmarked_80 : decode cX3_burnUnmarked 80 = .ok (.aload_n 0, 1) := by decide +kernel
theorem dX3_burnUnmarked_81 : decode cX3_burnUnmarked 81 = .ok (.getfield 11, 3) := by decide +kernel
theorem dX3_burnUnmarked_84 : decode cX3_burnUnmarked 84 = .ok (.iload_n 3, 1) := by decide +kernel
theorem dX3_burnUnmarked_85 : decode cX3_burnUnmarked 85 = .ok (.aload_n 0, 1) := by decide +kernel
theorem dX3_burnUnmarked_86 : decode cX3_burnUnmarked 86 = .ok (.getfield 11, 3) := by decide +kernel
theorem dX3_burnUnmarked_89 : decode cX3_burnUnmarked 89 = .ok (.iload_n 2, 1) := by decide +kernel
theorem dX3_burnUnmarked_90 : decode cX3_burnUnmarked 90 = .ok (.aaload, 1) := by decide +kernel
theorem dX3_burnUnmarked_91 : decode cX3_burnUnmarked 91 = .ok (.aastore, 1) := by decide +kernel
theorem dX3_burnUnmarked_92 : decode cX3_burnUnmarked 92 = .ok (.aload_n 0, 1) := by decide +kernel
theorem dX3_burnUnmarked_93 : decode cX3_burnUnmarked 93 = .ok (.getfield 11, 3) := by decide +kernel
theorem dX3_burnUnmarked_96 : decode cX3_burnUnmarked 96 = .ok (.iload_n 2, 1) := by decide +kernel
theorem dX3_burnUnmarked_97 : decode cX3_burnUnmarked 97 = .ok (.aload 4, 2) := by decide +kernel
theorem dX3_burnUnmarked_99 : decode cX3_burnUnmarked 99 = .ok (.aastore, 1) := by decide +kernel
theorem dX3_burnUnmarked_100 : decode cX3_burnUnmarked 100 = .ok (.iinc 2 1, 3) := by decide +kernel
theorem dX3_burnUnmarked_103 : decode cX3_burnUnmarked 103 = .ok (.iinc 3 1, 3) := by decide +kernel
theorem dX3_burnUnmarked_106 : decode cX3_burnUnmarked 106 = .ok (.goto (-87), 3) := by decide +kernel
theorem dX3_burnUnmarked_109 : decode cX3_burnUnmarked 109 = .ok (.aload_n 0, 1) := by decide +kernel
theorem dX3_burnUnmarked_110 : decode cX3_burnUnmarked 110 = .ok (.iload_n 2, 1) := by decide +kernel
theorem dX3_burnUnmarked_111 : decode cX3_burnUnmarked 111 = .ok (.putfield 49, 3) := by decide +kernel
theorem dX3_burnUnmarked_114 : decode cX3_burnUnmarked 114 = .ok (.iload_n 1, 1) := by decide +kernel
theorem dX3_burnUnmarked_115 : decode cX3_burnUnmarked 115 = .ok (.iload_n 2, 1) := by decide +kernel
theorem dX3_burnUnmarked_116 : decode cX3_burnUnmarked 116 = .ok (.isub, 1) := by decide +kernel
theorem dX3_burnUnmarked_117 : decode cX3_burnUnmarked 117 = .ok (.ireturn, 1) := by decide +kernel
theorem dX3_find_0 : decode cX3_find 0 = .ok (.iconst 0, 1) := by decide +kernel
theorem dX3_find_1 : decode cX3_find 1 = .ok (.istore_n 2, 1) := by decide +kernel
theorem dX3_find_2 : decode cX3_find 2 = .ok (.iload_n 2, 1) := by decide +kernel
theorem dX3_find_3 : decode cX3_find 3 = .ok (.aload_n 0, 1) := by decide +kernel
theorem dX3_find_4 : decode cX3_find 4 = .ok (.getfield 49, 3) := by decide +kernel
theorem dX3_find_7 : decode cX3_find 7 = .ok (.if_icmp .ge 29, 3) := by decide +kernel
theorem dX3_find_10 : decode cX3_find 10 = .ok (.aload_n 0, 1) := by decide +kernel
theorem dX3_find_11 : decode cX3_find 11 = .ok (.getfield 11, 3) := by decide +kernel
theorem dX3_find_14 : decode cX3_find 14 = .ok (.iload_n 2, 1) := by decide +kernel
theorem dX3_find_15 : decode cX3_find 15 = .ok (.aaload, 1) := by decide +kernel
theorem dX3_find_16 : decode cX3_find 16 = .ok (.getfield 177, 3) := by decide +kernel
theorem dX3_find_19 : decode cX3_find 19 = .ok (.iload_n 1, 1) := by decide +kernel
theorem dX3_find_20 : decode cX3_find 20 = .ok (.if_icmp .ne 10, 3) := by decide +kernel
theorem dX3_find_23 : decode cX3_find 23 = .ok (.aload_n 0, 1) := by decide +kernel
theorem dX3_find_24 : decode cX3_find 24 = .ok (.getfield 11, 3) := by decide +kernel
theorem dX3_find_27 : decode cX3_find 27 = .ok (.iload_n 2, 1) := by decide +kernel
theorem dX3_find_28 : decode cX3_find 28 = .ok (.aaload, 1) := by decide +kernel
theorem dX3_find_29 : decode cX3_find 29 = .ok (.areturn, 1) := by decide +kernel
theorem dX3_find_30 : decode cX3_find 30 = .ok (.iinc 2 1, 3) := by decide +kernel
theorem dX3_find_33 : decode cX3_find 33 = .ok (.goto (-31), 3) := by decide +kernel
theorem dX3_find_36 : decode cX3_find 36 = .ok (.aconst_null, 1) := by decide +kernel
theorem dX3_find_37 : decode cX3_find 37 = .ok (.areturn, 1) := by decide +kernel
theorem dX3_storedPages_0 : decode cX3_storedPages 0 = .ok (.iconst 0, 1) := by decide +kernel
theorem dX3_storedPages_1 : decode cX3_storedPages 1 = .ok (.istore_n 1, 1) := by decide +kernel
theorem dX3_storedPages_2 : decode cX3_storedPages 2 = .ok (.iconst 0, 1) := by decide +kernel
theorem dX3_storedPages_3 : decode cX3_storedPages 3 = .ok (.istore_n 2, 1) := by decide +kernel
theorem dX3_storedPages_4 : decode cX3_storedPages 4 = .ok (.iload_n 2, 1) := by decide +kernel
theorem dX3_storedPages_5 : decode cX3_storedPages 5 = .ok (.aload_n 0, 1) := by decide +kernel
theorem dX3_storedPages_6 : decode cX3_storedPages 6 = .ok (.getfield 49, 3) := by decide +kernel
theorem dX3_storedPages_9 : decode cX3_storedPages 9 = .ok (.if_icmp .ge 21, 3) := by decide +kernel
theorem dX3_storedPages_12 : decode cX3_storedPages 12 = .ok (.iload_n 1, 1) := by decide +kernel
theorem dX3_storedPages_13 : decode cX3_storedPages 13 = .ok (.aload_n 0, 1) := by decide +kernel
theorem dX3_storedPages_14 : decode cX3_storedPages 14 = .ok (.getfield 11, 3) := by decide +kernel
theorem dX3_storedPages_17 : decode cX3_storedPages 17 = .ok (.iload_n 2, 1) := by decide +kernel
theorem dX3_storedPages_18 : decode cX3_storedPages 18 = .ok (.aaload, 1) := by decide +kernel
theorem dX3_storedPages_19 : decode cX3_storedPages 19 = .ok (.getfield 183, 3) := by decide +kernel
theorem dX3_storedPages_22 : decode cX3_storedPages 22 = .ok (.iadd, 1) := by decide +kernel
theorem dX3_storedPages_23 : decode cX3_storedPages 23 = .ok (.istore_n 1, 1) := by decide +kernel
theorem dX3_storedPages_24 : decode cX3_storedPages 24 = .ok (.iinc 2 1, 3) := by decide +kernel
theorem dX3_storedPages_27 : decode cX3_storedPages 27 = .ok (.goto (-23), 3) := by decide +kernel
theorem dX3_storedPages_30 : decode cX3_storedPages 30 = .ok (.iload_n 1, 1) := by decide +kernel
theorem dX3_storedPages_31 : decode cX3_storedPages 31 = .ok (.ireturn, 1) := by decide +kernel
theorem dX3_sumOfAges_0 : decode cX3_sumOfAges 0 = .ok (.iconst 0, 1) := by decide +kernel
theorem dX3_sumOfAges_1 : decode cX3_sumOfAges 1 = .ok (.istore_n 1, 1) := by decide +kernel
theorem dX3_sumOfAges_2 : decode cX3_sumOfAges 2 = .ok (.iconst 0, 1) := by decide +kernel
theorem dX3_sumOfAges_3 : decode cX3_sumOfAges 3 = .ok (.istore_n 2, 1) := by decide +kernel
theorem dX3_sumOfAges_4 : decode cX3_sumOfAges 4 = .ok (.iload_n 2, 1) := by decide +kernel
theorem dX3_sumOfAges_5 : decode cX3_sumOfAges 5 = .ok (.aload_n 0, 1) := by decide +kernel
theorem dX3_sumOfAges_6 : decode cX3_sumOfAges 6 = .ok (.getfield 49, 3) := by decide +kernel
theorem dX3_sumOfAges_9 : decode cX3_sumOfAges 9 = .ok (.if_icmp .ge 26, 3) := by decide +kernel
theorem dX3_sumOfAges_12 : decode cX3_sumOfAges 12 = .ok (.iload_n 1, 1) := by decide +kernel
theorem dX3_sumOfAges_13 : decode cX3_sumOfAges 13 = .ok (.aload_n 0, 1) := by decide +kernel
theorem dX3_sumOfAges_14 : decode cX3_sumOfAges 14 = .ok (.getfield 45, 3) := by decide +kernel
theorem dX3_sumOfAges_17 : decode cX3_sumOfAges 17 = .ok (.aload_n 0, 1) := by decide +kernel
theorem dX3_sumOfAges_18 : decode cX3_sumOfAges 18 = .ok (.getfield 11, 3) := by decide +kernel
theorem dX3_sumOfAges_21 : decode cX3_sumOfAges 21 = .ok (.iload_n 2, 1) := by decide +kernel
theorem dX3_sumOfAges_22 : decode cX3_sumOfAges 22 = .ok (.aaload, 1) := by decide +kernel
theorem dX3_sumOfAges_23 : decode cX3_sumOfAges 23 = .ok (.getfield 190, 3) := by decide +kernel
theorem dX3_sumOfAges_26 : decode cX3_sumOfAges 26 = .ok (.isub, 1) := by decide +kernel
theorem dX3_sumOfAges_27 : decode cX3_sumOfAges 27 = .ok (.iadd, 1) := by decide +kernel
theorem dX3_sumOfAges_28 : decode cX3_sumOfAges 28 = .ok (.istore_n 1, 1) := by decide +kernel
theorem dX3_sumOfAges_29 : decode cX3_sumOfAges 29 = .ok (.iinc 2 1, 3) := by decide +kernel
theorem dX3_sumOfAges_32 : decode cX3_sumOfAges 32 = .ok (.goto (-28), 3) := by decide +kernel
theorem dX3_sumOfAges_35 : decode cX3_sumOfAges 35 = .ok (.iload_n 1, 1) := by decide +kernel
theorem dX3_sumOfAges_36 : decode cX3_sumOfAges 36 = .ok (.ireturn, 1) := by decide +kernel
theorem dX3_dueDay_0 : decode cX3_dueDay 0 = .ok (.aload_n 0, 1) := by decide +kernel
theorem dX3_dueDay_1 : decode cX3_dueDay 1 = .ok (.getfield 31, 3) := by decide +kernel
theorem dX3_dueDay_4 : decode cX3_dueDay 4 = .ok (.iconst 0, 1) := by decide +kernel
theorem dX3_dueDay_5 : decode cX3_dueDay 5 = .ok (.aload_n 1, 1) := by decide +kernel
theorem dX3_dueDay_6 : decode cX3_dueDay 6 = .ok (.getfield 193, 3) := by decide +kernel
theorem dX3_dueDay_9 : decode cX3_dueDay 9 = .ok (.iadd, 1) := by decide +kernel
theorem dX3_dueDay_10 : decode cX3_dueDay 10 = .ok (.iaload, 1) := by decide +kernel
theorem dX3_dueDay_11 : decode cX3_dueDay 11 = .ok (.istore_n 2, 1) := by decide +kernel
theorem dX3_dueDay_12 : decode cX3_dueDay 12 = .ok (.aload_n 1, 1) := by decide +kernel
theorem dX3_dueDay_13 : decode cX3_dueDay 13 = .ok (.getfield 161, 3) := by decide +kernel
theorem dX3_dueDay_16 : decode cX3_dueDay 16 = .ok (.bipush (-6), 2) := by decide +kernel
theorem dX3_dueDay_18 : decode cX3_dueDay 18 = .ok (.if_icmp .ne 10, 3) := by decide +kernel
theorem dX3_dueDay_21 : decode cX3_dueDay 21 = .ok (.aload_n 1, 1) := by decide +kernel
theorem dX3_dueDay_22 : decode cX3_dueDay 22 = .ok (.getfield 190, 3) := by decide +kernel
theorem dX3_dueDay_25 : decode cX3_dueDay 25 = .ok (.goto 7, 3) := by decide +kernel
theorem dX3_dueDay_28 : decode cX3_dueDay 28 = .ok (.aload_n 1, 1) := by decide +kernel
theorem dX3_dueDay_29 : decode cX3_dueDay 29 = .ok (.getfield 161, 3) := by decide +kernel
theorem dX3_dueDay_32 : decode cX3_dueDay 32 = .ok (.istore_n 3, 1) := by decide +kernel
theorem dX3_dueDay_33 : decode cX3_dueDay 33 = .ok (.aload_n 1, 1) := by decide +kernel
theorem dX3_dueDay_34 : decode cX3_dueDay 34 = .ok (.getfield 95, 3) := by decide +kernel
theorem dX3_dueDay_37 : decode cX3_dueDay 37 = .ok (.aload_n 0, 1) := by decide +kernel
theorem dX3_dueDay_38 : decode cX3_dueDay 38 = .ok (.getfield 31, 3) := by decide +kernel
theorem dX3_dueDay_41 : decode cX3_dueDay 41 = .ok (.iconst 5, 1) := by decide +kernel
theorem dX3_dueDay_42 : decode cX3_dueDay 42 = .ok (.iaload, 1) := by decide +kernel
theorem dX3_dueDay_43 : decode cX3_dueDay 43 = .ok (.if_icmp .lt 11, 3) := by decide +kernel
theorem dX3_dueDay_46 : decode cX3_dueDay 46 = .ok (.iload_n 3, 1) := by decide +kernel
theorem dX3_dueDay_47 : decode cX3_dueDay 47 = .ok (.iconst 2, 1) := by decide +kernel
theorem dX3_dueDay_48 : decode cX3_dueDay 48 = .ok (.iload_n 2, 1) := by decide +kernel
theorem dX3_dueDay_49 : decode cX3_dueDay 49 = .ok (.imul, 1) := by decide +kernel
theorem dX3_dueDay_50 : decode cX3_dueDay 50 = .ok (.iadd, 1) := by decide +kernel
theorem dX3_dueDay_51 : decode cX3_dueDay 51 = .ok (.goto 6, 3) := by decide +kernel
theorem dX3_dueDay_54 : decode cX3_dueDay 54 = .ok (.iload_n 3, 1) := by decide +kernel
theorem dX3_dueDay_55 : decode cX3_dueDay 55 = .ok (.iload_n 2, 1) := by decide +kernel
theorem dX3_dueDay_56 : decode cX3_dueDay 56 = .ok (.iadd, 1) := by decide +kernel
theorem dX3_dueDay_57 : decode cX3_dueDay 57 = .ok (.ireturn, 1) := by decide +kernel
theorem dX3_referrersOf_0 : decode cX3_referrersOf 0 = .ok (.iconst 0, 1) := by decide +kernel
theorem dX3_referrersOf_1 : decode cX3_referrersOf 1 = .ok (.istore_n 2, 1) := by decide +kernel
theorem dX3_referrersOf_2 : decode cX3_referrersOf 2 = .ok (.iconst 0, 1) := by decide +kernel
theorem dX3_referrersOf_3 : decode cX3_referrersOf 3 = .ok (.istore_n 3, 1) := by decide +kernel
theorem dX3_referrersOf_4 : decode cX3_referrersOf 4 = .ok (.iload_n 3, 1) := by decide +kernel
theorem dX3_referrersOf_5 : decode cX3_referrersOf 5 = .ok (.aload_n 0, 1) := by decide +kernel
theorem dX3_referrersOf_6 : decode cX3_referrersOf 6 = .ok (.getfield 49, 3) := by decide +kernel
theorem dX3_referrersOf_9 : decode cX3_referrersOf 9 = .ok (.if_icmp .ge 25, 3) := by decide +kernel
theorem dX3_referrersOf_12 : decode cX3_referrersOf 12 = .ok (.aload_n 0, 1) := by decide +kernel
theorem dX3_referrersOf_13 : decode cX3_referrersOf 13 = .ok (.getfield 11, 3) := by decide +kernel
theorem dX3_referrersOf_16 : decode cX3_referrersOf 16 = .ok (.iload_n 3, 1) := by decide +kernel
theorem dX3_referrersOf_17 : decode cX3_referrersOf 17 = .ok (.aaload, 1) := by decide +kernel
theorem dX3_referrersOf_18 : decode cX3_referrersOf 18 = .ok (.getfield 114, 3) := by decide +kernel
theorem dX3_referrersOf_21 : decode cX3_referrersOf 21 = .ok (.iload_n 1, 1) := by decide +kernel
theorem dX3_referrersOf_22 : decode cX3_referrersOf 22 = .ok (.if_icmp .ne 6, 3) := by decide +kernel
theorem dX3_referrersOf_25 : decode cX3_referrersOf 25 = .ok (.iinc 2 1, 3) := by decide +kernel
theorem dX3_referrersOf_28 : decode cX3_referrersOf 28 = .ok (.iinc 3 1, 3) := by decide +kernel
theorem dX3_referrersOf_31 : decode cX3_referrersOf 31 = .ok (.goto (-27), 3) := by decide +kernel
theorem dX3_referrersOf_34 : decode cX3_referrersOf 34 = .ok (.iload_n 2, 1) := by decide +kernel
theorem dX3_referrersOf_35 : decode cX3_referrersOf 35 = .ok (.ireturn, 1) := by decide +kernel
theorem dX3_lowestKeeperOf_0 : decode cX3_lowestKeeperOf 0 = .ok (.iconst 0, 1) := by decide +kernel
theorem dX3_lowestKeeperOf_1 : decode cX3_lowestKeeperOf 1 = .ok (.istore_n 2, 1) := by decide +kernel
theorem dX3_lowestKeeperOf_2 : decode cX3_lowestKeeperOf 2 = .ok (.iload_n 2, 1) := by decide +kernel
theorem dX3_lowestKeeperOf_3 : decode cX3_lowestKeeperOf 3 = .ok (.aload_n 0, 1) := by decide +kernel
theorem dX3_lowestKeeperOf_4 : decode cX3_lowestKeeperOf 4 = .ok (.getfield 49, 3) := by decide +kernel
theorem dX3_lowestKeeperOf_7 : decode cX3_lowestKeeperOf 7 = .ok (.if_icmp .ge 44, 3) := by decide +kernel
theorem dX3_lowestKeeperOf_10 : decode cX3_lowestKeeperOf 10 = .ok (.aload_n 0, 1) := by decide +kernel
theorem dX3_lowestKeeperOf_11 : decode cX3_lowestKeeperOf 11 = .ok (.getfield 11, 3) := by decide +kernel
theorem dX3_lowestKeeperOf_14 : decode cX3_lowestKeeperOf 14 = .ok (.iload_n 2, 1) := by decide +kernel
theorem dX3_lowestKeeperOf_15 : decode cX3_lowestKeeperOf 15 = .ok (.aaload, 1) := by decide +kernel
theorem dX3_lowestKeeperOf_16 : decode cX3_lowestKeeperOf 16 = .ok (.getfield 114, 3) := by decide +kernel
theorem dX3_lowestKeeperOf_19 : decode cX3_lowestKeeperOf 19 = .ok (.iload_n 1, 1) := by decide +kernel
theorem dX3_lowestKeeperOf_20 : decode cX3_lowestKeeperOf 20 = .ok (.if_icmp .ne 25, 3) := by decide +kernel
theorem dX3_lowestKeeperOf_23 : decode cX3_lowestKeeperOf 23 = .ok (.aload_n 0, 1) := by decide +kernel
theorem dX3_lowestKeeperOf_24 : decode cX3_lowestKeeperOf 24 = .ok (.getfield 11, 3) := by decide +kernel
theorem dX3_lowestKeeperOf_27 : decode cX3_lowestKeeperOf 27 = .ok (.iload_n 2, 1) := by decide +kernel
theorem dX3_lowestKeeperOf_28 : decode cX3_lowestKeeperOf 28 = .ok (.aaload, 1) := by decide +kernel
theorem dX3_lowestKeeperOf_29 : decode cX3_lowestKeeperOf 29 = .ok (.getfield 168, 3) := by decide +kernel
theorem dX3_lowestKeeperOf_32 : decode cX3_lowestKeeperOf 32 = .ok (.ifCond .eq 13, 3) := by decide +kernel
theorem dX3_lowestKeeperOf_35 : decode cX3_lowestKeeperOf 35 = .ok (.aload_n 0, 1) := by decide +kernel
theorem dX3_lowestKeeperOf_36 : decode cX3_lowestKeeperOf 36 = .ok (.getfield 11, 3) := by decide +kernel
theorem dX3_lowestKeeperOf_39 : decode cX3_lowestKeeperOf 39 = .ok (.iload_n 2, 1) := by decide +kernel
theorem dX3_lowestKeeperOf_40 : decode cX3_lowestKeeperOf 40 = .ok (.aaload, 1) := by decide +kernel
theorem dX3_lowestKeeperOf_41 : decode cX3_lowestKeeperOf 41 = .ok (.getfield 177, 3) := by decide +kernel
theorem dX3_lowestKeeperOf_44 : decode cX3_lowestKeeperOf 44 = .ok (.ireturn, 1) := by decide +kernel
theorem dX3_lowestKeeperOf_45 : decode cX3_lowestKeeperOf 45 = .ok (.iinc 2 1, 3) := by decide +kernel
theorem dX3_lowestKeeperOf_48 : decode cX3_lowestKeeperOf 48 = .ok (.goto (-46), 3) := by decide +kernel
theorem dX3_lowestKeeperOf_51 : decode cX3_lowestKeeperOf 51 = .ok (.bipush (-6), 2) := by decide +kernel
theorem dX3_lowestKeeperOf_53 : decode cX3_lowestKeeperOf 53 = .ok (.ireturn, 1) := by decide +kernel
