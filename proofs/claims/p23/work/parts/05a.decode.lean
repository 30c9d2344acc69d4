theorem dX0_init_0 : decode cX0_init 0 = .ok (.aload_n 0, 1) := by decide +kernel
theorem dX0_init_1 : decode cX0_init 1 = .ok (.invokespecial 3, 3) := by decide +kernel
theorem dX0_init_4 : decode cX0_init 4 = .ok (.aload_n 0, 1) := by decide +kernel
theorem dX0_init_5 : decode cX0_init 5 = .ok (.iconst 5, 1) := by decide +kernel
theorem dX0_init_6 : decode cX0_init 6 = .ok (.anewarray 9, 3) := by decide +kernel
theorem dX0_init_9 : decode cX0_init 9 = .ok (.putfield 11, 3) := by decide +kernel
theorem dX0_init_12 : decode cX0_init 12 = .ok (.iconst 0, 1) := by decide +kernel
theorem dX0_init_13 : decode cX0_init 13 = .ok (.istore_n 1, 1) := by decide +kernel
theorem dX0_init_14 : decode cX0_init 14 = .ok (.iload_n 1, 1) := by decide +kernel
theorem dX0_init_15 : decode cX0_init 15 = .ok (.iconst 4, 1) := by decide +kernel
theorem dX0_init_16 : decode cX0_init 16 = .ok (.if_icmp .gt 22, 3) := by decide +kernel
theorem dX0_init_19 : decode cX0_init 19 = .ok (.aload_n 0, 1) := by decide +kernel
theorem dX0_init_20 : decode cX0_init 20 = .ok (.getfield 11, 3) := by decide +kernel
theorem dX0_init_23 : decode cX0_init 23 = .ok (.iload_n 1, 1) := by decide +kernel
theorem dX0_init_24 : decode cX0_init 24 = .ok (.new 9, 3) := by decide +kernel
theorem dX0_init_27 : decode cX0_init 27 = .ok (.dup, 1) := by decide +kernel
theorem dX0_init_28 : decode cX0_init 28 = .ok (.invokespecial 17, 3) := by decide +kernel
theorem dX0_init_31 : decode cX0_init 31 = .ok (.aastore, 1) := by decide +kernel
theorem dX0_init_32 : decode cX0_init 32 = .ok (.iinc 1 1, 3) := by decide +kernel
theorem dX0_init_35 : decode cX0_init 35 = .ok (.goto (-21), 3) := by decide +kernel
theorem dX0_init_38 : decode cX0_init 38 = .ok (.return_, 1) := by decide +kernel
theorem dX0_draft_0 : decode cX0_draft 0 = .ok (.aload_n 0, 1) := by decide +kernel
theorem dX0_draft_1 : decode cX0_draft 1 = .ok (.getfield 11, 3) := by decide +kernel
theorem dX0_draft_4 : decode cX0_draft 4 = .ok (.aload_n 0, 1) := by decide +kernel
theorem dX0_draft_5 : decode cX0_draft 5 = .ok (.getfield 18, 3) := by decide +kernel
theorem dX0_draft_8 : decode cX0_draft 8 = .ok (.aaload, 1) := by decide +kernel
theorem dX0_draft_9 : decode cX0_draft 9 = .ok (.aload_n 1, 1) := by decide +kernel
theorem dX0_draft_10 : decode cX0_draft 10 = .ok (.invokevirtual 22, 3) := by decide +kernel
theorem dX0_draft_13 : decode cX0_draft 13 = .ok (.return_, 1) := by decide +kernel
theorem dX0_keepDraft_0 : decode cX0_keepDraft 0 = .ok (.aload_n 0, 1) := by decide +kernel
theorem dX0_keepDraft_1 : decode cX0_keepDraft 1 = .ok (.getfield 18, 3) := by decide +kernel
theorem dX0_keepDraft_4 : decode cX0_keepDraft 4 = .ok (.iconst 4, 1) := by decide +kernel
theorem dX0_keepDraft_5 : decode cX0_keepDraft 5 = .ok (.if_icmp .ge 14, 3) := by decide +kernel
theorem dX0_keepDraft_8 : decode cX0_keepDraft 8 = .ok (.aload_n 0, 1) := by decide +kernel
theorem dX0_keepDraft_9 : decode cX0_keepDraft 9 = .ok (.dup, 1) := by decide +kernel
theorem dX0_keepDraft_10 : decode cX0_keepDraft 10 = .ok (.getfield 18, 3) := by decide +kernel
theorem dX0_keepDraft_13 : decode cX0_keepDraft 13 = .ok (.iconst 1, 1) := by decide +kernel
theorem dX0_keepDraft_14 : decode cX0_keepDraft 14 = .ok (.iadd, 1) := by decide +kernel
theorem dX0_keepDraft_15 : decode cX0_keepDraft 15 = .ok (.putfield 18, 3) := by decide +kernel
theorem dX0_keepDraft_18 : decode cX0_keepDraft 18 = .ok (.return_, 1) := by decide +kernel
theorem dX0_keepDraft_19 : decode cX0_keepDraft 19 = .ok (.aload_n 0, 1) := by decide +kernel
theorem dX0_keepDraft_20 : decode cX0_keepDraft 20 = .ok (.getfield 11, 3) := by decide +kernel
theorem dX0_keepDraft_23 : decode cX0_keepDraft 23 = .ok (.iconst 0, 1) := by decide +kernel
theorem dX0_keepDraft_24 : decode cX0_keepDraft 24 = .ok (.aaload, 1) := by decide +kernel
theorem dX0_keepDraft_25 : decode cX0_keepDraft 25 = .ok (.astore_n 1, 1) := by decide +kernel
theorem dX0_keepDraft_26 : decode cX0_keepDraft 26 = .ok (.iconst 0, 1) := by decide +kernel
theorem dX0_keepDraft_27 : decode cX0_keepDraft 27 = .ok (.istore_n 2, 1) := by decide +kernel
theorem dX0_keepDraft_28 : decode cX0_keepDraft 28 = .ok (.iload_n 2, 1) := by decide +kernel
theorem dX0_keepDraft_29 : decode cX0_keepDraft 29 = .ok (.iconst 4, 1) := by decide +kernel
theorem dX0_keepDraft_30 : decode cX0_keepDraft 30 = .ok (.if_icmp .ge 23, 3) := by decide +kernel
theorem dX0_keepDraft_33 : decode cX0_keepDraft 33 = .ok (.aload_n 0, 1) := by decide +kernel
theorem dX0_keepDraft_34 : decode cX0_keepDraft 34 = .ok (.getfield 11, 3) := by decide +kernel
theorem dX0_keepDraft_37 : decode cX0_keepDraft 37 = .ok (.iload_n 2, 1) := by decide +kernel
theorem dX0_keepDraft_38 : decode cX0_keepDraft 38 = .ok (.aload_n 0, 1) := by decide +kernel
theorem dX0_keepDraft_39 : decode cX0_keepDraft 39 = .ok (.getfield 11, 3) := by decide +kernel
theorem dX0_keepDraft_42 : decode cX0_keepDraft 42 = .ok (.iload_n 2, 1) := by decide +kernel
theorem dX0_keepDraft_43 : decode cX0_keepDraft 43 = .ok (.iconst 1, 1) := by decide +kernel
theorem dX0_keepDraft_44 : decode cX0_keepDraft 44 = .ok (.iadd, 1) := by decide +kernel
theorem dX0_keepDraft_45 : decode cX0_keepDraft 45 = .ok (.aaload, 1) := by decide +kernel
theorem dX0_keepDraft_46 : decode cX0_keepDraft 46 = .ok (.aastore, 1) := by decide +kernel
theorem dX0_keepDraft_47 : decode cX0_keepDraft 47 = .ok (.iinc 2 1, 3) := by decide +kernel
theorem dX0_keepDraft_50 : decode cX0_keepDraft 50 = .ok (.goto (-22), 3) := by decide +kernel
theorem dX0_keepDraft_53 : decode cX0_keepDraft 53 = .ok (.aload_n 0, 1) := by decide +kernel
theorem dX0_keepDraft_54 : decode cX0_keepDraft 54 = .ok (.getfield 11, 3) := by decide +kernel
theorem dX0_keepDraft_57 : decode cX0_keepDraft 57 = .ok (.iconst 4, 1) := by decide +kernel
theorem dX0_keepDraft_58 : decode cX0_keepDraft 58 = .ok (.aload_n 1, 1) := by decide +kernel
theorem dX0_keepDraft_59 : decode cX0_keepDraft 59 = .ok (.aastore, 1) := by decide +kernel
theorem dX0_keepDraft_60 : decode cX0_keepDraft 60 = .ok (.return_, 1) := by decide +kernel
theorem dX0_takeLatest_0 : decode cX0_takeLatest 0 = .ok (.aload_n 0, 1) := by decide +kernel
theorem dX0_takeLatest_1 : decode cX0_takeLatest 1 = .ok (.getfield 18, 3) := by decide +kernel
theorem dX0_takeLatest_4 : decode cX0_takeLatest 4 = .ok (.ifCond .ne 5, 3) := by decide +kernel
theorem dX0_takeLatest_7 : decode cX0_takeLatest 7 = .ok (.aconst_null, 1) := by decide +kernel
theorem dX0_takeLatest_8 : decode cX0_takeLatest 8 = .ok (.areturn, 1) := by decide +kernel
theorem dX0_takeLatest_9 : decode cX0_takeLatest 9 = .ok (.aload_n 0, 1) := by decide +kernel
theorem dX0_takeLatest_10 : decode cX0_takeLatest 10 = .ok (.dup, 1) := by decide +kernel
theorem dX0_takeLatest_11 : decode cX0_takeLatest 11 = .ok (.getfield 18, 3) := by decide +kernel
theorem dX0_takeLatest_14 : decode cX0_takeLatest 14 = .ok (.iconst 1, 1) := by decide +kernel
theorem dX0_takeLatest_15 : decode cX0_takeLatest 15 = .ok (.isub, 1) := by decide +kernel
theorem dX0_takeLatest_16 : decode cX0_takeLatest 16 = .ok (.putfield 18, 3) := by decide +kernel
theorem dX0_takeLatest_19 : decode cX0_takeLatest 19 = .ok (.aload_n 0, 1) := by decide +kernel
theorem dX0_takeLatest_20 : decode cX0_takeLatest 20 = .ok (.getfield 11, 3) := by decide +kernel
theorem dX0_takeLatest_23 : decode cX0_takeLatest 23 = .ok (.aload_n 0, 1) := by decide +kernel
theorem dX0_takeLatest_24 : decode cX0_takeLatest 24 = .ok (.getfield 18, 3) := by decide +kernel
theorem dX0_takeLatest_27 : decode cX0_takeLatest 27 = .ok (.aaload, 1) := by decide +kernel
theorem dX0_takeLatest_28 : decode cX0_takeLatest 28 = .ok (.areturn, 1) := by decide +kernel
theorem dX1_init_0 : decode cX1_init 0 = .ok (.aload_n 0, 1) := by decide +kernel
theorem dX1_init_1 : decode cX1_init 1 = .ok (.invokespecial 3, 3) := by decide +kernel
theorem dX1_init_4 : decode cX1_init 4 = .ok (.aload_n 0, 1) := by decide +kernel
theorem dX1_init_5 : decode cX1_init 5 = .ok (.bipush 60, 2) := by decide +kernel
theorem dX1_init_7 : decode cX1_init 7 = .ok (.newarray .char, 2) := by decide +kernel
theorem dX1_init_9 : decode cX1_init 9 = .ok (.putfield 9, 3) := by decide +kernel
theorem dX1_init_12 : decode cX1_init 12 = .ok (.return_, 1) := by decide +kernel
theorem dX1_appendSign_0 : decode cX1_appendSign 0 = .ok (.aload_n 0, 1) := by decide +kernel
theorem dX1_appendSign_1 : decode cX1_appendSign 1 = .ok (.getfield 15, 3) := by decide +kernel
theorem dX1_appendSign_4 : decode cX1_appendSign 4 = .ok (.bipush 60, 2) := by decide +kernel
theorem dX1_appendSign_6 : decode cX1_appendSign 6 = .ok (.if_icmp .lt 5, 3) := by decide +kernel
theorem dX1_appendSign_9 : decode cX1_appendSign 9 = .ok (.iconst 0, 1) := by decide +kernel
theorem dX1_appendSign_10 : decode cX1_appendSign 10 = .ok (.ireturn, 1) := by decide +kernel
theorem dX1_appendSign_11 : decode cX1_appendSign 11 = .ok (.aload_n 0, 1) := by decide +kernel
theorem dX1_appendSign_12 : decode cX1_appendSign 12 = .ok (.getfield 9, 3) := by decide +kernel
theorem dX1_appendSign_15 : decode cX1_appendSign 15 = .ok (.aload_n 0, 1) := by decide +kernel
theorem dX1_appendSign_16 : decode cX1_appendSign 16 = .ok (.getfield 15, 3) := by decide +kernel
theorem dX1_appendSign_19 : decode cX1_appendSign 19 = .ok (.iload_n 1, 1) := by decide +kernel
theorem dX1_appendSign_20 : decode cX1_appendSign 20 = .ok (.castore, 1) := by decide +kernel
theorem dX1_appendSign_21 : decode cX1_appendSign 21 = .ok (.aload_n 0, 1) := by decide +kernel
theorem dX1_appendSign_22 : decode cX1_appendSign 22 = .ok (.dup, 1) := by decide +kernel
theorem dX1_appendSign_23 : decode cX1_appendSign 23 = .ok (.getfield 15, 3) := by decide +kernel
theorem dX1_appendSign_26 : decode cX1_appendSign 26 = .ok (.iconst 1, 1) := by decide +kernel
theorem dX1_appendSign_27 : decode cX1_appendSign 27 = .ok (.iadd, 1) := by decide +kernel
theorem dX1_appendSign_28 : decode cX1_appendSign 28 = .ok (.putfield 15, 3) := by decide +kernel
theorem dX1_appendSign_31 : decode cX1_appendSign 31 = .ok (.iconst 1, 1) := by decide +kernel
theorem dX1_appendSign_32 : decode cX1_appendSign 32 = .ok (.ireturn, 1) := by decide +kernel
theorem dX1_findFault_0 : decode cX1_findFault 0 = .ok (.aload_n 0, 1) := by decide +kernel
theorem dX1_findFault_1 : decode cX1_findFault 1 = .ok (.iconst 0, 1) := by decide +kernel
theorem dX1_findFault_2 : decode cX1_findFault 2 = .ok (.putfield 19, 3) := by decide +kernel
theorem dX1_findFault_5 : decode cX1_findFault 5 = .ok (.iconst 0, 1) := by decide +kernel
theorem dX1_findFault_6 : decode cX1_findFault 6 = .ok (.istore_n 1, 1) := by decide +kernel
theorem dX1_findFault_7 : decode cX1_findFault 7 = .ok (.iload_n 1, 1) := by decide +kernel
theorem dX1_findFault_8 : decode cX1_findFault 8 = .ok (.bipush 60, 2) := by decide +kernel
theorem dX1_findFault_10 : decode cX1_findFault 10 = .ok (.if_icmp .gt 49, 3) := by decide +kernel
theorem dX1_findFault_13 : decode cX1_findFault 13 = .ok (.aload_n 0, 1) := by decide +kernel
theorem dX1_findFault_14 : decode cX1_findFault 14 = .ok (.invokevirtual 22, 3) := by decide +kernel
theorem dX1_findFault_17 : decode cX1_findFault 17 = .ok (.ifCond .ne 8, 3) := by decide +kernel
theorem dX1_findFault_20 : decode cX1_findFault 20 = .ok (.aload_n 0, 1) := by decide +kernel
theorem dX1_findFault_21 : decode cX1_findFault 21 = .ok (.getfield 19, 3) := by decide +kernel
theorem dX1_findFault_24 : decode cX1_findFault 24 = .ok (.ireturn, 1) := by decide +kernel
theorem dX1_findFault_25 : decode cX1_findFault 25 = .ok (.aload_n 0, 1) := by decide +kernel
theorem dX1_findFault_26 : decode cX1_findFault 26 = .ok (.getfield 19, 3) := by decide +kernel
theorem dX1_findFault_29 : decode cX1_findFault 29 = .ok (.aload_n 0, 1) := by decide +kernel
theorem dX1_findFault_30 : decode cX1_findFault 30 = .ok (.getfield 15, 3) := by decide +kernel
theorem dX1_findFault_33 : decode cX1_findFault 33 = .ok (.if_icmp .lt 6, 3) := by decide +kernel
theorem dX1_findFault_36 : decode cX1_findFault 36 = .ok (.bipush (-6), 2) := by decide +kernel
theorem dX1_findFault_38 : decode cX1_findFault 38 = .ok (.ireturn, 1) := by decide +kernel
theorem dX1_findFault_39 : decode cX1_findFault 39 = .ok (.aload_n 0, 1) := by decide +kernel
theorem dX1_findFault_40 : decode cX1_findFault 40 = .ok (.bipush 59, 2) := by decide +kernel
theorem dX1_findFault_42 : decode cX1_findFault 42 = .ok (.invokevirtual 26, 3) := by decide +kernel
theorem dX1_findFault_45 : decode cX1_findFault 45 = .ok (.ifCond .ne 8, 3) := by decide +kernel
theorem dX1_findFault_48 : decode cX1_findFault 48 = .ok (.aload_n 0, 1) := by decide +kernel
theorem dX1_findFault_49 : decode cX1_findFault 49 = .ok (.getfield 19, 3) := by decide +kernel
theorem dX1_findFault_52 : decode cX1_findFault 52 = .ok (.ireturn, 1) := by decide +kernel
theorem dX1_findFault_53 : decode cX1_findFault 53 = .ok (.iinc 1 1, 3) := by decide +kernel
theorem dX1_findFault_56 : decode cX1_findFault 56 = .ok (.goto (-49), 3) := by decide +kernel
theorem dX1_findFault_59 : decode cX1_findFault 59 = .ok (.aload_n 0, 1) := by decide +kernel
theorem dX1_findFault_60 : decode cX1_findFault 60 = .ok (.getfield 19, 3) := by decide +kernel
theorem dX1_findFault_63 : decode cX1_findFault 63 = .ok (.ireturn, 1) := by decide +kernel
theorem dX1_readOrder_0 : decode cX1_readOrder 0 = .ok (.aload_n 0, 1) := by decide +kernel
theorem dX1_readOrder_1 : decode cX1_readOrder 1 = .ok (.aload_n 0, 1) := by decide +kernel
theorem dX1_readOrder_2 : decode cX1_readOrder 2 = .ok (.invokevirtual 30, 3) := by decide +kernel
theorem dX1_readOrder_5 : decode cX1_readOrder 5 = .ok (.putfield 34, 3) := by decide +kernel
theorem dX1_readOrder_8 : decode cX1_readOrder 8 = .ok (.aload_n 0, 1) := by decide +kernel
theorem dX1_readOrder_9 : decode cX1_readOrder 9 = .ok (.getfield 34, 3) := by decide +kernel
theorem dX1_readOrder_12 : decode cX1_readOrder 12 = .ok (.tableswitch 190 97 115 #[117, 190, 190, 181, 190, 153, 190, 190, 190, 190, 190, 126, 190, 92, 190, 190, 190, 190, 126], 92) := by decide +kernel
theorem dX1_readOrder_104 : decode cX1_readOrder 104 = .ok (.aload_n 0, 1) := by decide +kernel
theorem dX1_readOrder_105 : decode cX1_readOrder 105 = .ok (.iconst 0, 1) := by decide +kernel
theorem dX1_readOrder_106 : decode cX1_readOrder 106 = .ok (.iconst 4, 1) := by decide +kernel
theorem dX1_readOrder_107 : decode cX1_readOrder 107 = .ok (.invokevirtual 38, 3) := by decide +kernel
theorem dX1_readOrder_110 : decode cX1_readOrder 110 = .ok (.ifCond .eq 17, 3) := by decide +kernel
theorem dX1_readOrder_113 : decode cX1_readOrder 113 = .ok (.aload_n 0, 1) := by decide +kernel
theorem dX1_readOrder_114 : decode cX1_readOrder 114 = .ok (.iconst 1, 1) := by decide +kernel
theorem dX1_readOrder_115 : decode cX1_readOrder 115 = .ok (.bipush 50, 2) := by decide +kernel
theorem dX1_readOrder_117 : decode cX1_readOrder 117 = .ok (.invokevirtual 42, 3) := by decide +kernel
theorem dX1_readOrder_120 : decode cX1_readOrder 120 = .ok (.ifCond .eq 7, 3) := by decide +kernel
theorem dX1_readOrder_123 : decode cX1_readOrder 123 = .ok (.iconst 1, 1) := by decide +kernel
theorem dX1_readOrder_124 : decode cX1_readOrder 124 = .ok (.goto 4, 3) := by decide +kernel
theorem dX1_readOrder_127 : decode cX1_readOrder 127 = .ok (.iconst 0, 1) := by decide +kernel
theorem dX1_readOrder_128 : decode cX1_readOrder 128 = .ok (.ireturn, 1) := by decide +kernel
theorem dX1_readOrder_129 : decode cX1_readOrder 129 = .ok (.aload_n 0, 1) := by decide +kernel
theorem dX1_readOrder_130 : decode cX1_readOrder 130 = .ok (.iconst 0, 1) := by decide +kernel
theorem dX1_readOrder_131 : decode cX1_readOrder 131 = .ok (.sipush 199, 3) := by decide +kernel
theorem dX1_readOrder_134 : decode cX1_readOrder 134 = .ok (.invokevirtual 38, 3) := by decide +kernel
theorem dX1_readOrder_137 : decode cX1_readOrder 137 = .ok (.ireturn, 1) := by decide +kernel
theorem dX1_readOrder_138 : decode cX1_readOrder 138 = .ok (.aload_n 0, 1) := by decide +kernel
theorem dX1_readOrder_139 : decode cX1_readOrder 139 = .ok (.iconst 0, 1) := by decide +kernel
theorem dX1_readOrder_140 : decode cX1_readOrder 140 = .ok (.bipush 7, 2) := by decide +kernel
theorem dX1_readOrder_142 : decode cX1_readOrder 142 = .ok (.invokevirtual 38, 3) := by decide +kernel
theorem dX1_readOrder_145 : decode cX1_readOrder 145 = .ok (.ifCond .eq 18, 3) := by decide +kernel
theorem dX1_readOrder_148 : decode cX1_readOrder 148 = .ok (.aload_n 0, 1) := by decide +kernel
theorem dX1_readOrder_149 : decode cX1_readOrder 149 = .ok (.iconst 0, 1) := by decide +kernel
theorem dX1_readOrder_150 : decode cX1_readOrder 150 = .ok (.sipush 199, 3) := by decide +kernel
theorem dX1_readOrder_153 : decode cX1_readOrder 153 = .ok (.invokevirtual 42, 3) := by decide +kernel
theorem dX1_readOrder_156 : decode cX1_readOrder 156 = .ok (.ifCond .eq 7, 3) := by decide +kernel
theorem dX1_readOrder_159 : decode cX1_readOrder 159 = .ok (.iconst 1, 1) := by decide +kernel
theorem dX1_readOrder_160 : decode cX1_readOrder 160 = .ok (.goto 4, 3) := by decide +kernel
theorem dX1_readOrder_163 : decode cX1_readOrder 163 = .ok (.iconst 0, 1) := by decide +kernel
theorem dX1_readOrder_164 : decode cX1_readOrder 164 = .ok (.ireturn, 1) := by decide +kernel
theorem dX1_readOrder_165 : decode cX1_readOrder 165 = .ok (.aload_n 0, 1) := by decide +kernel
theorem dX1_readOrder_166 : decode cX1_readOrder 166 = .ok (.iconst 0, 1) := by decide +kernel
theorem dX1_readOrder_167 : decode cX1_readOrder 167 = .ok (.sipush 199, 3) := by decide +kernel
theorem dX1_readOrder_170 : decode cX1_readOrder 170 = .ok (.invokevirtual 38, 3) := by decide +kernel
theorem dX1_readOrder_173 : decode cX1_readOrder 173 = .ok (.ifCond .eq 18, 3) := by decide +kernel
theorem dX1_readOrder_176 : decode cX1_readOrder 176 = .ok (.aload_n 0, 1) := by decide +kernel
theorem dX1_readOrder_177 : decode cX1_readOrder 177 = .ok (.iconst 0, 1) := by decide +kernel
theorem dX1_readOrder_178 : decode cX1_readOrder 178 = .ok (.sipush 199, 3) := by decide +kernel
theorem dX1_readOrder_181 : decode cX1_readOrder 181 = .ok (.invokevirtual 42, 3) := by decide +kernel
theorem dX1_readOrder_184 : decode cX1_readOrder 184 = .ok (.ifCond .eq 7, 3) := by decide +kernel
theorem dX1_readOrder_187 : decode cX1_readOrder 187 = .ok (.iconst 1, 1) := by decide +kernel
theorem dX1_readOrder_188 : decode cX1_readOrder 188 = .ok (.goto 4, 3) := by decide +kernel
theorem dX1_readOrder_191 : decode cX1_readOrder 191 = .ok (.iconst 0, 1) := by decide +kernel
theorem dX1_readOrder_192 : decode cX1_readOrder 192 = .ok (.ireturn, 1) := by decide +kernel
theorem dX1_readOrder_193 : decode cX1_readOrder 193 = .ok (.aload_n 0, 1) := by decide +kernel
theorem dX1_readOrder_194 : decode cX1_readOrder 194 = .ok (.iconst 1, 1) := by decide +kernel
theorem dX1_readOrder_195 : decode cX1_readOrder 195 = .ok (.sipush 400, 3) := by decide +kernel
theorem dX1_readOrder_198 : decode cX1_readOrder 198 = .ok (.invokevirtual 38, 3) := by decide +kernel
theorem dX1_readOrder_201 : decode cX1_readOrder 201 = .ok (.ireturn, 1) := by decide +kernel
theorem dX1_readOrder_202 : decode cX1_readOrder 202 = .ok (.iconst 0, 1) := by decide +kernel
theorem dX1_readOrder_203 : decode cX1_readOrder 203 = .ok (.ireturn, 1) := by decide +kernel
theorem dX1_readFirst_0 : decode cX1_readFirst 0 = .ok (.aload_n 0, 1) := by decide +kernel
theorem dX1_readFirst_1 : decode cX1_readFirst 1 = .ok (.dup, 1) := by decide +kernel
theorem dX1_readFirst_2 : decode cX1_readFirst 2 = .ok (.getfield 19, 3) := by decide +kernel
theorem dX1_readFirst_5 : decode cX1_readFirst 5 = .ok (.iconst 1, 1) := by decide +kernel
theorem dX1_readFirst_6 : decode cX1_readFirst 6 = .ok (.iadd, 1) := by decide +kernel
theorem dX1_readFirst_7 : decode cX1_readFirst 7 = .ok (.putfield 19, 3) := by decide +kernel
theorem dX1_readFirst_10 : decode cX1_readFirst 10 = .ok (.aload_n 0, 1) := by decide +kernel
theorem dX1_readFirst_11 : decode cX1_readFirst 11 = .ok (.aload_n 0, 1) := by decide +kernel
theorem dX1_readFirst_12 : decode cX1_readFirst 12 = .ok (.iload_n 1, 1) := by decide +kernel
theorem dX1_readFirst_13 : decode cX1_readFirst 13 = .ok (.iload_n 2, 1) := by decide +kernel
theorem dX1_readFirst_14 : decode cX1_readFirst 14 = .ok (.invokevirtual 45, 3) := by decide +kernel
theorem dX1_readFirst_17 : decode cX1_readFirst 17 = .ok (.putfield 49, 3) := by decide +kernel
theorem dX1_readFirst_20 : decode cX1_readFirst 20 = .ok (.aload_n 0, 1) := by decide +kernel
theorem dX1_readFirst_21 : decode cX1_readFirst 21 = .ok (.getfield 49, 3) := by decide +kernel
theorem dX1_readFirst_24 : decode cX1_readFirst 24 = .ok (.ifCond .lt 7, 3) := by decide +kernel
theorem dX1_readFirst_27 : decode cX1_readFirst 27 = .ok (.iconst 1, 1) := by decide +kernel
theorem dX1_readFirst_28 : decode cX1_readFirst 28 = .ok (.goto 4, 3) := by decide +kernel
theorem dX1_readFirst_31 : decode cX1_readFirst 31 = .ok (.iconst 0, 1) := by decide +kernel
theorem dX1_readFirst_32 : decode cX1_readFirst 32 = .ok (.ireturn, 1) := by decide +kernel
theorem dX1_readSecond_0 : decode cX1_readSecond 0 = .ok (.aload_n 0, 1) := by decide +kernel
theorem dX1_readSecond_1 : decode cX1_readSecond 1 = .ok (.bipush 44, 2) := by decide +kernel
theorem dX1_readSecond_3 : decode cX1_readSecond 3 = .ok (.invokevirtual 26, 3) := by decide +kernel
theorem dX1_readSecond_6 : decode cX1_readSecond 6 = .ok (.ifCond .ne 5, 3) := by decide +kernel
theorem dX1_readSecond_9 : decode cX1_readSecond 9 = .ok (.iconst 0, 1) := by decide +kernel
theorem dX1_readSecond_10 : decode cX1_readSecond 10 = .ok (.ireturn, 1) := by decide +kernel
theorem dX1_readSecond_11 : decode cX1_readSecond 11 = .ok (.aload_n 0, 1) := by decide +kernel
theorem dX1_readSecond_12 : decode cX1_readSecond 12 = .ok (.aload_n 0, 1) := by decide +kernel
theorem dX1_readSecond_13 : decode cX1_readSecond 13 = .ok (.iload_n 1, 1) := by decide +kernel
theorem dX1_readSecond_14 : decode cX1_readSecond 14 = .ok (.iload_n 2, 1) := by decide +kernel
theorem dX1_readSecond_15 : decode cX1_readSecond 15 = .ok (.invokevirtual 45, 3) := by decide +kernel
theorem dX1_readSecond_18 : decode cX1_readSecond 18 = .ok (.putfield 52, 3) := by decide +kernel
theorem dX1_readSecond_21 : decode cX1_readSecond 21 = .ok (.aload_n 0, 1) := by decide +kernel
theorem dX1_readSecond_22 : decode cX1_readSecond 22 = .ok (.getfield 52, 3) := by decide +kernel
theorem dX1_readSecond_25 : decode cX1_readSecond 25 = .ok (.ifCond .lt 7, 3) := by decide +kernel
theorem dX1_readSecond_28 : decode cX1_readSecond 28 = .ok (.iconst 1, 1) := by decide +kernel
theorem dX1_readSecond_29 : decode cX1_readSecond 29 = .ok (.goto 4, 3) := by decide +kernel
theorem dX1_readSecond_32 : decode cX1_readSecond 32 = .ok (.iconst 0, 1) := by decide +kernel
theorem dX1_readSecond_33 : decode cX1_readSecond 33 = .ok (.ireturn, 1) := by decide +kernel
theorem dX1_readSign_0 : decode cX1_readSign 0 = .ok (.aload_n 0, 1) := by decide +kernel
theorem dX1_readSign_1 : decode cX1_readSign 1 = .ok (.invokevirtual 30, 3) := by decide +kernel
theorem dX1_readSign_4 : decode cX1_readSign 4 = .ok (.iload_n 1, 1) := by decide +kernel
theorem dX1_readSign_5 : decode cX1_readSign 5 = .ok (.if_icmp .eq 5, 3) := by decide +kernel
theorem dX1_readSign_8 : decode cX1_readSign 8 = .ok (.iconst 0, 1) := by decide +kernel
theorem dX1_readSign_9 : decode cX1_readSign 9 = .ok (.ireturn, 1) := by decide +kernel
theorem dX1_readSign_10 : decode cX1_readSign 10 = .ok (.aload_n 0, 1) := by decide +kernel
theorem dX1_readSign_11 : decode cX1_readSign 11 = .ok (.dup, 1) := by decide +kernel
theorem dX1_readSign_12 : decode cX1_readSign 12 = .ok (.getfield 19, 3) := by decide +kernel
theorem dX1_readSign_15 : decode cX1_readSign 15 = .ok (.iconst 1, 1) := by decide +kernel
theorem dX1_readSign_16 : decode cX1_readSign 16 = .ok (.iadd, 1) := by decide +kernel
theorem dX1_readSign_17 : decode cX1_readSign 17 = .ok (.putfield 19, 3) := by decide +kernel
theorem dX1_readSign_20 : decode cX1_readSign 20 = .ok (.iconst 1, 1) := by decide +kernel
theorem dX1_readSign_21 : decode cX1_readSign 21 = .ok (.ireturn, 1) := by decide +kernel
theorem dX1_readNumber_0 : decode cX1_readNumber 0 = .ok (.aload_n 0, 1) := by decide +kernel
theorem dX1_readNumber_1 : decode cX1_readNumber 1 = .ok (.invokevirtual 55, 3) := by decide +kernel
theorem dX1_readNumber_4 : decode cX1_readNumber 4 = .ok (.istore_n 3, 1) := by decide +kernel
theorem dX1_readNumber_5 : decode cX1_readNumber 5 = .ok (.iload_n 3, 1) := by decide +kernel
theorem dX1_readNumber_6 : decode cX1_readNumber 6 = .ok (.iload_n 1, 1) := by decide +kernel
theorem dX1_readNumber_7 : decode cX1_readNumber 7 = .ok (.if_icmp .lt 8, 3) := by decide +kernel
theorem dX1_readNumber_10 : decode cX1_readNumber 10 = .ok (.iload_n 3, 1) := by decide +kernel
theorem dX1_readNumber_11 : decode cX1_readNumber 11 = .ok (.iload_n 2, 1) := by decide +kernel
theorem dX1_readNumber_12 : decode cX1_readNumber 12 = .ok (.if_icmp .le 5, 3) := by decide +kernel
theorem dX1_readNumber_15 : decode cX1_readNumber 15 = .ok (.iconst (-1), 1) := by decide +kernel
theorem dX1_readNumber_16 : decode cX1_readNumber 16 = .ok (.ireturn, 1) := by decide +kernel
theorem dX1_readNumber_17 : decode cX1_readNumber 17 = .ok (.aload_n 0, 1) := by decide +kernel
theorem dX1_readNumber_18 : decode cX1_readNumber 18 = .ok (.dup, 1) := by decide +kernel
theorem dX1_readNumber_19 : decode cX1_readNumber 19 = .ok (.getfield 19, 3) := by decide +kernel
theorem dX1_readNumber_22 : decode cX1_readNumber 22 = .ok (.iconst 1, 1) := by decide +kernel
theorem dX1_readNumber_23 : decode cX1_readNumber 23 = .ok (.iadd, 1) := by decide +kernel
theorem dX1_readNumber_24 : decode cX1_readNumber 24 = .ok (.putfield 19, 3) := by decide +kernel
theorem dX1_readNumber_27 : decode cX1_readNumber 27 = .ok (.iconst 0, 1) := by decide +kernel
theorem dX1_readNumber_28 : decode cX1_readNumber 28 = .ok (.istore 4, 2) := by decide +kernel
theorem dX1_readNumber_30 : decode cX1_readNumber 30 = .ok (.iload 4, 2) := by decide +kernel
theorem dX1_readNumber_32 : decode cX1_readNumber 32 = .ok (.bipush 60, 2) := by decide +kernel
theorem dX1_readNumber_34 : decode cX1_readNumber 34 = .ok (.if_icmp .ge 55, 3) := by decide +kernel
theorem dX1_readNumber_37 : decode cX1_readNumber 37 = .ok (.aload_n 0, 1) := by decide +kernel
theorem dX1_readNumber_38 : decode cX1_readNumber 38 = .ok (.invokevirtual 55, 3) := by decide +kernel
theorem dX1_readNumber_41 : decode cX1_readNumber 41 = .ok (.istore 5, 2) := by decide +kernel
theorem dX1_readNumber_43 : decode cX1_readNumber 43 = .ok (.iload 5, 2) := by decide +kernel
theorem dX1_readNumber_45 : decode cX1_readNumber 45 = .ok (.ifCond .lt 18, 3) := by decide +kernel
theorem dX1_readNumber_48 : decode cX1_readNumber 48 = .ok (.iload_n 3, 1) := by decide +kernel
theorem dX1_readNumber_49 : decode cX1_readNumber 49 = .ok (.ifCond .eq 14, 3) := by decide +kernel
theorem dX1_readNumber_52 : decode cX1_readNumber 52 = .ok (.iload_n 3, 1) := by decide +kernel
theorem dX1_readNumber_53 : decode cX1_readNumber 53 = .ok (.bipush 10, 2) := by decide +kernel
theorem dX1_readNumber_55 : decode cX1_readNumber 55 = .ok (.imul, 1) := by decide +kernel
theorem dX1_readNumber_56 : decode cX1_readNumber 56 = .ok (.iload 5, 2) := by decide +kernel
theorem dX1_readNumber_58 : decode cX1_readNumber 58 = .ok (.iadd, 1) := by decide +kernel
theorem dX1_readNumber_59 : decode cX1_readNumber 59 = .ok (.iload_n 2, 1) := by decide +kernel
theorem dX1_readNumber_60 : decode cX1_readNumber 60 = .ok (.if_icmp .le 5, 3) := by decide +kernel
theorem dX1_readNumber_63 : decode cX1_readNumber 63 = .ok (.iload_n 3, 1) := by decide +kernel
theorem dX1_readNumber_64 : decode cX1_readNumber 64 = .ok (.ireturn, 1) := by decide +kernel
theorem dX1_readNumber_65 : decode cX1_readNumber 65 = .ok (.iload_n 3, 1) := by decide +kernel
theorem dX1_readNumber_66 : decode cX1_readNumber 66 = .ok (.bipush 10, 2) := by decide +kernel
theorem dX1_readNumber_68 : decode cX1_readNumber 68 = .ok (.imul, 1) := by decide +kernel
theorem dX1_readNumber_69 : decode cX1_readNumber 69 = .ok (.iload 5, 2) := by decide +kernel
theorem dX1_readNumber_71 : decode cX1_readNumber 71 = .ok (.iadd, 1) := by decide +kernel
theorem dX1_readNumber_72 : decode cX1_readNumber 72 = .ok (.istore_n 3, 1) := by decide +kernel
theorem dX1_readNumber_73 : decode cX1_readNumber 73 = .ok (.aload_n 0, 1) := by decide +kernel
theorem dX1_readNumber_74 : decode cX1_readNumber 74 = .ok (.dup, 1) := by decide +kernel
theorem dX1_readNumber_75 : decode cX1_readNumber 75 = .ok (.getfield 19, 3) := by decide +kernel
theorem dX1_readNumber_78 : decode cX1_readNumber 78 = .ok (.iconst 1, 1) := by decide +kernel
theorem dX1_readNumber_79 : decode cX1_readNumber 79 = .ok (.iadd, 1) := by decide +kernel
theorem dX1_readNumber_80 : decode cX1_readNumber 80 = .ok (.putfield 19, 3) := by decide +kernel
theorem dX1_readNumber_83 : decode cX1_readNumber 83 = .ok (.iinc 4 1, 3) := by decide +kernel
theorem dX1_readNumber_86 : decode cX1_readNumber 86 = .ok (.goto (-56), 3) := by decide +kernel
theorem dX1_readNumber_89 : decode cX1_readNumber 89 = .ok (.iload_n 3, 1) := by decide +kernel
theorem dX1_readNumber_90 : decode cX1_readNumber 90 = .ok (.ireturn, 1) := by decide +kernel
theorem dX1_digitHere_0 : decode cX1_digitHere 0 = .ok (.aload_n 0, 1) := by decide +kernel
theorem dX1_digitHere_1 : decode cX1_digitHere 1 = .ok (.invokevirtual 30, 3) := by decide +kernel
theorem dX1_digitHere_4 : decode cX1_digitHere 4 = .ok (.istore_n 1, 1) := by decide +kernel
theorem dX1_digitHere_5 : decode cX1_digitHere 5 = .ok (.iload_n 1, 1) := by decide +kernel
theorem dX1_digitHere_6 : decode cX1_digitHere 6 = .ok (.bipush 48, 2) := by decide +kernel
theorem dX1_digitHere_8 : decode cX1_digitHere 8 = .ok (.if_icmp .lt 16, 3) := by decide +kernel
theorem dX1_digitHere_11 : decode cX1_digitHere 11 = .ok (.iload_n 1, 1) := by decide +kernel
theorem dX1_digitHere_12 : decode cX1_digitHere 12 = .ok (.bipush 57, 2) := by decide +kernel
theorem dX1_digitHere_14 : decode cX1_digitHere 14 = .ok (.if_icmp .gt 10, 3) := by decide +kernel
theorem dX1_digitHere_17 : decode cX1_digitHere 17 = .ok (.iload_n 1, 1) := by decide +kernel
theorem dX1_digitHere_18 : decode cX1_digitHere 18 = .ok (.bipush 48, 2) := by decide +kernel
theorem dX1_digitHere_20 : decode cX1_digitHere 20 = .ok (.isub, 1) := by decide +kernel
theorem dX1_digitHere_21 : decode cX1_digitHere 21 = .ok (.goto 4, 3) := by decide +kernel
theorem dX1_digitHere_24 : decode cX1_digitHere 24 = .ok (.iconst (-1), 1) := by decide +kernel
theorem dX1_digitHere_25 : decode cX1_digitHere 25 = .ok (.ireturn, 1) := by decide +kernel
theorem dX1_signHere_0 : decode cX1_signHere 0 = .ok (.aload_n 0, 1) := by decide +kernel
theorem dX1_signHere_1 : decode cX1_signHere 1 = .ok (.getfield 19, 3) := by decide +kernel
theorem dX1_signHere_4 : decode cX1_signHere 4 = .ok (.ifCond .lt 26, 3) := by decide +kernel
theorem dX1_signHere_7 : decode cX1_signHere 7 = .ok (.aload_n 0, 1) := by decide +kernel
theorem dX1_signHere_8 : decode cX1_signHere 8 = .ok (.getfield 19, 3) := by decide +kernel
theorem dX1_signHere_11 : decode cX1_signHere 11 = .ok (.aload_n 0, 1) := by decide +kernel
theorem dX1_signHere_12 : decode cX1_signHere 12 = .ok (.getfield 15, 3) := by decide +kernel
theorem dX1_signHere_15 : decode cX1_signHere 15 = .ok (.if_icmp .ge 15, 3) := by decide +kernel
theorem dX1_signHere_18 : decode cX1_signHere 18 = .ok (.aload_n 0, 1) := by decide +kernel
theorem dX1_signHere_19 : decode cX1_signHere 19 = .ok (.getfield 9, 3) := by decide +kernel
theorem dX1_signHere_22 : decode cX1_signHere 22 = .ok (.aload_n 0, 1) := by decide +kernel
theorem dX1_signHere_23 : decode cX1_signHere 23 = .ok (.getfield 19, 3) := by decide +kernel
theorem dX1_signHere_26 : decode cX1_signHere 26 = .ok (.caload, 1) := by decide +kernel
theorem dX1_signHere_27 : decode cX1_signHere 27 = .ok (.goto 4, 3) := by decide +kernel
theorem dX1_signHere_30 : decode cX1_signHere 30 = .ok (.iconst 0, 1) := by decide +kernel
theorem dX1_signHere_31 : decode cX1_signHere 31 = .ok (.ireturn, 1) := by decide +kernel
theorem dX2_init_0 : decode cX2_init 0 = .ok (.aload_n 0, 1) := by decide +kernel
theorem dX2_init_1 : decode cX2_init 1 = .ok (.invokespecial 3, 3) := by decide +kernel
theorem dX2_init_4 : decode cX2_init 4 = .ok (.aload_n 0, 1) := by decide +kernel
theorem dX2_init_5 : decode cX2_init 5 = .ok (.bipush 8, 2) := by decide +kernel
theorem dX2_init_7 : decode cX2_init 7 = .ok (.newarray .int, 2) := by decide +kernel
theorem dX2_init_9 : decode cX2_init 9 = .ok (.putfield 9, 3) := by decide +kernel
theorem dX2_init_12 : decode cX2_init 12 = .ok (.aload_n 0, 1) := by decide +kernel
theorem dX2_init_13 : decode cX2_init 13 = .ok (.bipush 8, 2) := by decide +kernel
theorem dX2_init_15 : decode cX2_init 15 = .ok (.newarray .int, 2) := by decide +kernel
theorem dX2_init_17 : decode cX2_init 17 = .ok (.putfield 15, 3) := by decide +kernel
theorem dX2_init_20 : decode cX2_init 20 = .ok (.return_, 1) := by decide +kernel
theorem dX2_copyFrom_0 : decode cX2_copyFrom 0 = .ok (.aload_n 0, 1) := by decide +kernel
theorem dX2_copyFrom_1 : decode cX2_copyFrom 1 = .ok (.aload_n 1, 1) := by decide +kernel
theorem dX2_copyFrom_2 : decode cX2_copyFrom 2 = .ok (.getfield 18, 3) := by decide +kernel
theorem dX2_copyFrom_5 : decode cX2_copyFrom 5 = .ok (.putfield 18, 3) := by decide +kernel
theorem dX2_copyFrom_8 : decode cX2_copyFrom 8 = .ok (.aload_n 1, 1) := by decide +kernel
theorem dX2_copyFrom_9 : decode cX2_copyFrom 9 = .ok (.getfield 9, 3) := by decide +kernel
theorem dX2_copyFrom_12 : decode cX2_copyFrom 12 = .ok (.iconst 0, 1) := by decide +kernel
theorem dX2_copyFrom_13 : decode cX2_copyFrom 13 = .ok (.aload_n 0, 1) := by decide +kernel
theorem dX2_copyFrom_14 : decode cX2_copyFrom 14 = .ok (.getfield 9, 3) := by decide +kernel
theorem dX2_copyFrom_17 : decode cX2_copyFrom 17 = .ok (.iconst 0, 1) := by decide +kernel
theorem dX2_copyFrom_18 : decode cX2_copyFrom 18 = .ok (.bipush 8, 2) := by decide +kernel
theorem dX2_copyFrom_20 : decode cX2_copyFrom 20 = .ok (.invokestatic 22, 3) := by decide +kernel
theorem dX2_copyFrom_23 : decode cX2_copyFrom 23 = .ok (.aload_n 1, 1) := by decide +kernel
theorem dX2_copyFrom_24 : decode cX2_copyFrom 24 = .ok (.getfield 15, 3) := by decide +kernel
theorem dX2_copyFrom_27 : decode cX2_copyFrom 27 = .ok (.iconst 0, 1) := by decide +kernel
theorem dX2_copyFrom_28 : decode cX2_copyFrom 28 = .ok (.aload_n 0, 1) := by decide +kernel
theorem dX2_copyFrom_29 : decode cX2_copyFrom 29 = .ok (.getfield 15, 3) := by decide +kernel
theorem dX2_copyFrom_32 : decode cX2_copyFrom 32 = .ok (.iconst 0, 1) := by decide +kernel
theorem dX2_copyFrom_33 : decode cX2_copyFrom 33 = .ok (.bipush 8, 2) := by decide +kernel
theorem dX2_copyFrom_35 : decode cX2_copyFrom 35 = .ok (.invokestatic 22, 3) := by decide +kernel
theorem dX2_copyFrom_38 : decode cX2_copyFrom 38 = .ok (.return_, 1) := by decide +kernel
theorem dX2_placeOf_0 : decode cX2_placeOf 0 = .ok (.iconst 0, 1) := by decide +kernel
theorem dX2_placeOf_1 : decode cX2_placeOf 1 = .ok (.istore_n 3, 1) := by decide +kernel
theorem dX2_placeOf_2 : decode cX2_placeOf 2 = .ok (.iload_n 3, 1) := by decide +kernel
theorem dX2_placeOf_3 : decode cX2_placeOf 3 = .ok (.aload_n 0, 1) := by decide +kernel
theorem dX2_placeOf_4 : decode cX2_placeOf 4 = .ok (.getfield 18, 3) := by decide +kernel
theorem dX2_placeOf_7 : decode cX2_placeOf 7 = .ok (.if_icmp .ge 31, 3) := by decide +kernel
theorem dX2_placeOf_10 : decode cX2_placeOf 10 = .ok (.aload_n 0, 1) := by decide +kernel
theorem dX2_placeOf_11 : decode cX2_placeOf 11 = .ok (.getfield 9, 3) := by decide +kernel
theorem dX2_placeOf_14 : decode cX2_placeOf 14 = .ok (.iload_n 3, 1) := by decide +kernel
theorem dX2_placeOf_15 : decode cX2_placeOf 15 = .ok (.iaload, 1) := by decide +kernel
theorem dX2_placeOf_16 : decode cX2_placeOf 16 = .ok (.iload_n 1, 1) := by decide +kernel
theorem dX2_placeOf_17 : decode cX2_placeOf 17 = .ok (.if_icmp .ne 15, 3) := by decide +kernel
theorem dX2_placeOf_20 : decode cX2_placeOf 20 = .ok (.aload_n 0, 1) := by decide +kernel
theorem dX2_placeOf_21 : decode cX2_placeOf 21 = .ok (.getfield 15, 3) := by decide +kernel
theorem dX2_placeOf_24 : decode cX2_placeOf 24 = .ok (.iload_n 3, 1) := by decide +kernel
theorem dX2_placeOf_25 : decode cX2_placeOf 25 = .ok (.iaload, 1) := by decide +kernel
theorem dX2_placeOf_26 : decode cX2_placeOf 26 = .ok (.iload_n 2, 1) := by decide +kernel
theorem dX2_placeOf_27 : decode cX2_placeOf 27 = .ok (.if_icmp .ne 5, 3) := by decide +kernel
theorem dX2_placeOf_30 : decode cX2_placeOf 30 = .ok (.iload_n 3, 1) := by decide +kernel
theorem dX2_placeOf_31 : decode cX2_placeOf 31 = .ok (.ireturn, 1) := by decide +kernel
theorem dX2_placeOf_32 : decode cX2_placeOf 32 = .ok (.iinc 3 1, 3) := by decide +kernel
theorem dX2_placeOf_35 : decode cX2_placeOf 35 = .ok (.goto (-33), 3) := by decide +kernel
theorem dX2_placeOf_38 : decode cX2_placeOf 38 = .ok (.iconst (-1), 1) := by decide +kernel
theorem dX2_placeOf_39 : decode cX2_placeOf 39 = .ok (.ireturn, 1) := by decide +kernel
theorem dX2_numberFor_0 : decode cX2_numberFor 0 = .ok (.iconst 0, 1) := by decide +kernel
theorem dX2_numberFor_1 : decode cX2_numberFor 1 = .ok (.istore_n 2, 1) := by decide +kernel
theorem dX2_numberFor_2 : decode cX2_numberFor 2 = .ok (.iconst 0, 1) := by decide +kernel
theorem dX2_numberFor_3 : decode cX2_numberFor 3 = .ok (.istore_n 3, 1) := by decide +kernel
theorem dX2_numberFor_4 : decode cX2_numberFor 4 = .ok (.iload_n 3, 1) := by decide +kernel
theorem dX2_numberFor_5 : decode cX2_numberFor 5 = .ok (.aload_n 0, 1) := by decide +kernel
theorem dX2_numberFor_6 : decode cX2_numberFor 6 = .ok (.getfield 18, 3) := by decide +kernel
theorem dX2_numberFor_9 : decode cX2_numberFor 9 = .ok (.if_icmp .ge 22, 3) := by decide +kernel
theorem dX2_numberFor_12 : decode cX2_numberFor 12 = .ok (.aload_n 0, 1) := by decide +kernel
theorem dX2_numberFor_13 : decode cX2_numberFor 13 = .ok (.getfield 9, 3) := by decide +kernel
theorem dX2_numberFor_16 : decode cX2_numberFor 16 = .ok (.iload_n 3, 1) := by decide +kernel
theorem dX2_numberFor_17 : decode cX2_numberFor 17 = .ok (.iaload, 1) := by decide +kernel
theorem dX2_numberFor_18 : decode cX2_numberFor 18 = .ok (.iload_n 1, 1) := by decide +kernel
theorem dX2_numberFor_19 : decode cX2_numberFor 19 = .ok (.if_icmp .ne 6, 3) := by decide +kernel
theorem dX2_numberFor_22 : decode cX2_numberFor 22 = .ok (.iinc 2 1, 3) := by decide +kernel
theorem dX2_numberFor_25 : decode cX2_numberFor 25 = .ok (.iinc 3 1, 3) := by decide +kernel
theorem dX2_numberFor_28 : decode cX2_numberFor 28 = .ok (.goto (-24), 3) := by decide +kernel
theorem dX2_numberFor_31 : decode cX2_numberFor 31 = .ok (.iload_n 2, 1) := by decide +kernel
theorem dX2_numberFor_32 : decode cX2_numberFor 32 = .ok (.ireturn, 1) := by decide +kernel
theorem dX2_insert_0 : decode cX2_insert 0 = .ok (.aload_n 0, 1) := by decide +kernel
theorem dX2_insert_1 : decode cX2_insert 1 = .ok (.getfield 18, 3) := by decide +kernel
theorem dX2_insert_4 : decode cX2_insert 4 = .ok (.bipush 8, 2) := by decide +kernel
theorem dX2_insert_6 : decode cX2_insert 6 = .ok (.if_icmp .lt 4, 3) := by decide +kernel
theorem dX2_insert_9 : decode cX2_insert 9 = .ok (.return_, 1) := by decide +kernel
theorem dX2_insert_10 : decode cX2_insert 10 = .ok (.aload_n 0, 1) := by decide +kernel
theorem dX2_insert_11 : decode cX2_insert 11 = .ok (.getfield 18, 3) := by decide +kernel
theorem dX2_insert_14 : decode cX2_insert 14 = .ok (.istore_n 3, 1) := by decide +kernel
theorem dX2_insert_15 : decode cX2_insert 15 = .ok (.iload_n 3, 1) := by decide +kernel
theorem dX2_insert_16 : decode cX2_insert 16 = .ok (.ifCond .le 49, 3) := by decide +kernel
theorem dX2_insert_19 : decode cX2_insert 19 = .ok (.aload_n 0, 1) := by decide +kernel
theorem dX2_insert_20 : decode cX2_insert 20 = .ok (.iload_n 1, 1) := by decide +kernel
theorem dX2_insert_21 : decode cX2_insert 21 = .ok (.iload_n 2, 1) := by decide +kernel
theorem dX2_insert_22 : decode cX2_insert 22 = .ok (.iload_n 3, 1) := by decide +kernel
theorem dX2_insert_23 : decode cX2_insert 23 = .ok (.iconst 1, 1) := by decide +kernel
theorem dX2_insert_24 : decode cX2_insert 24 = .ok (.isub, 1) := by decide +kernel
theorem dX2_insert_25 : decode cX2_insert 25 = .ok (.invokevirtual 28, 3) := by decide +kernel
theorem dX2_insert_28 : decode cX2_insert 28 = .ok (.ifCond .eq 37, 3) := by decide +kernel
theorem dX2_insert_31 : decode cX2_insert 31 = .ok (.aload_n 0, 1) := by decide +kernel
theorem dX2_insert_32 : decode cX2_insert 32 = .ok (.getfield 9, 3) := by decide +kernel
theorem dX2_insert_35 : decode cX2_insert 35 = .ok (.iload_n 3, 1) := by decide +kernel
theorem dX2_insert_36 : decode cX2_insert 36 = .ok (.aload_n 0, 1) := by decide +kernel
theorem dX2_insert_37 : decode cX2_insert 37 = .ok (.getfield 9, 3) := by decide +kernel
theorem dX2_insert_40 : decode cX2_insert 40 = .ok (.iload_n 3, 1) := by decide +kernel
theorem dX2_insert_41 : decode cX2_insert 41 = .ok (.iconst 1, 1) := by decide +kernel
theorem dX2_insert_42 : decode cX2_insert 42 = .ok (.isub, 1) := by decide +kernel
theorem dX2_insert_43 : decode cX2_insert 43 = .ok (.iaload, 1) := by decide +kernel
theorem dX2_insert_44 : decode cX2_insert 44 = .ok (.iastore, 1) := by decide +kernel
theorem dX2_insert_45 : decode cX2_insert 45 = .ok (.aload_n 0, 1) := by decide +kernel
theorem dX2_insert_46 : decode cX2_insert 46 = .ok (.getfield 15, 3) := by decide +kernel
theorem dX2_insert_49 : decode cX2_insert 49 = .ok (.iload_n 3, 1) := by decide +kernel
theorem dX2_insert_50 : decode cX2_insert 50 = .ok (.aload_n 0, 1) := by decide +kernel
theorem dX2_insert_51 : decode cX2_insert 51 = .ok (.getfield 15, 3) := by decide +kernel
theorem dX2_insert_54 : decode cX2_insert 54 = .ok (.iload_n 3, 1) := by decide +kernel
theorem dX2_insert_55 : decode cX2_insert 55 = .ok (.iconst 1, 1) := by decide +kernel
theorem dX2_insert_56 : decode cX2_insert 56 = .ok (.isub, 1) := by decide +kernel
theorem dX2_insert_57 : decode cX2_insert 57 = .ok (.iaload, 1) := by decide +kernel
theorem dX2_insert_58 : decode cX2_insert 58 = .ok (.iastore, 1) := by decide +kernel
theorem dX2_insert_59 : decode cX2_insert 59 = .ok (.iinc 3 (-1), 3) := by decide +kernel
theorem dX2_insert_62 : decode cX2_insert 62 = .ok (.goto (-47), 3) := by decide +kernel
theorem dX2_insert_65 : decode cX2_insert 65 = .ok (.aload_n 0, 1) := by decide +kernel
theorem dX2_insert_66 : decode cX2_insert 66 = .ok (.getfield 9, 3) := by decide +kernel
theorem dX2_insert_69 : decode cX2_insert 69 = .ok (.iload_n 3, 1) := by decide +kernel
theorem dX2_insert_70 : decode cX2_insert 70 = .ok (.iload_n 1, 1) := by decide +kernel
theorem dX2_insert_71 : decode cX2_insert 71 = .ok (.iastore, 1) := by decide +kernel
theorem dX2_insert_72 : decode cX2_insert 72 = .ok (.aload_n 0, 1) := by decide +kernel
theorem dX2_insert_73 : decode cX2_insert 73 = .ok (.getfield 15, 3) := by decide +kernel
theorem dX2_insert_76 : decode cX2_insert 76 = .ok (.iload_n 3, 1) := by decide +kernel
theorem dX2_insert_77 : decode cX2_insert 77 = .ok (.iload_n 2, 1) := by decide +kernel
theorem dX2_insert_78 : decode cX2_insert 78 = .ok (.iastore, 1) := by decide +kernel
theorem dX2_insert_79 : decode cX2_insert 79 = .ok (.aload_n 0, 1) := by decide +kernel
theorem dX2_insert_80 : decode cX2_insert 80 = .ok (.dup, 1) := by decide +kernel
theorem dX2_insert_81 : decode cX2_insert 81 = .ok (.getfield 18, 3) := by decide +kernel
theorem dX2_insert_84 : decode cX2_insert 84 = .ok (.iconst 1, 1) := by decide +kernel
theorem dX2_insert_85 : decode cX2_insert 85 = .ok (.iadd, 1) := by decide +kernel
theorem dX2_insert_86 : decode cX2_insert 86 = .ok (.putfield 18, 3) := by decide +kernel
theorem dX2_insert_89 : decode cX2_insert 89 = .ok (.return_, 1) := by decide +kernel
theorem dX2_comesBefore_0 : decode cX2_comesBefore 0 = .ok (.iload_n 2, 1) := by decide +kernel
theorem dX2_comesBefore_1 : decode cX2_comesBefore 1 = .ok (.aload_n 0, 1) := by decide +kernel
theorem dX2_comesBefore_2 : decode cX2_comesBefore 2 = .ok (.getfield 15, 3) := by decide +kernel
theorem dX2_comesBefore_5 : decode cX2_comesBefore 5 = .ok (.iload_n 3, 1) := by decide +kernel
theorem dX2_comesBefore_6 : decode cX2_comesBefore 6 = .ok (.iaload, 1) := by decide +kernel
theorem dX2_comesBefore_7 : decode cX2_comesBefore 7 = .ok (.if_icmp .lt 23, 3) := by decide +kernel
theorem dX2_comesBefore_10 : decode cX2_comesBefore 10 = .ok (.iload_n 2, 1) := by decide +kernel
theorem dX2_comesBefore_11 : decode cX2_comesBefore 11 = .ok (.aload_n 0, 1) := by decide +kernel
theorem dX2_comesBefore_12 : decode cX2_comesBefore 12 = .ok (.getfield 15, 3) := by decide +kernel
theorem dX2_comesBefore_15 : decode cX2_comesBefore 15 = .ok (.iload_n 3, 1) := by decide +kernel
theorem dX2_comesBefore_16 : decode cX2_comesBefore 16 = .ok (.iaload, 1) := by decide +kernel
theorem dX2_comesBefore_17 : decode cX2_comesBefore 17 = .ok (.if_icmp .ne 17, 3) := by decide +kernel
theorem dX2_comesBefore_20 : decode cX2_comesBefore 20 = .ok (.iload_n 1, 1) := by decide +kernel
theorem dX2_comesBefore_21 : decode cX2_comesBefore 21 = .ok (.aload_n 0, 1) := by decide +kernel
theorem dX2_comesBefore_22 : decode cX2_comesBefore 22 = .ok (.getfield 9, 3) := by decide +kernel
theorem dX2_comesBefore_25 : decode cX2_comesBefore 25 = .ok (.iload_n 3, 1) := by decide +kernel
theorem dX2_comesBefore_26 : decode cX2_comesBefore 26 = .ok (.iaload, 1) := by decide +kernel
theorem dX2_comesBefore_27 : decode cX2_comesBefore 27 = .ok (.if_icmp .ge 7, 3) := by decide +kernel
theorem dX2_comesBefore_30 : decode cX2_comesBefore 30 = .ok (.iconst 1, 1) := by decide +kernel
theorem dX2_comesBefore_31 : decode cX2_comesBefore 31 = .ok (.goto 4, 3) := by decide +kernel
theorem dX2_comesBefore_34 : decode cX2_comesBefore 34 = .ok (.iconst 0, 1) := by decide +kernel
theorem dX2_comesBefore_35 : decode cX2_comesBefore 35 = .ok (.ireturn, 1) := by decide +kernel
theorem dX2_removeAt_0 : decode cX2_removeAt 0 = .ok (.iload_n 1, 1) := by decide +kernel
theorem dX2_removeAt_1 : decode cX2_removeAt 1 = .ok (.ifCond .lt 11, 3) := by decide +kernel
theorem dX2_removeAt_4 : decode cX2_removeAt 4 = .ok (.iload_n 1, 1) := by decide +kernel
theorem dX2_removeAt_5 : decode cX2_removeAt 5 = .ok (.aload_n 0, 1) := by decide +kernel
theorem dX2_removeAt_6 : decode cX2_removeAt 6 = .ok (.getfield 18, 3) := by decide +kernel
theorem dX2_removeAt_9 : decode cX2_removeAt 9 = .ok (.if_icmp .lt 4, 3) := by decide +kernel
theorem dX2_removeAt_12 : decode cX2_removeAt 12 = .ok (.return_, 1) := by decide +kernel
theorem dX2_removeAt_13 : decode cX2_removeAt 13 = .ok (.aload_n 0, 1) := by decide +kernel
theorem dX2_removeAt_14 : decode cX2_removeAt 14 = .ok (.dup, 1) := by decide +kernel
theorem dX2_removeAt_15 : decode cX2_removeAt 15 = .ok (.getfield 18, 3) := by decide +kernel
theorem dX2_removeAt_18 : decode cX2_removeAt 18 = .ok (.iconst 1, 1) := by decide +kernel
theorem dX2_removeAt_19 : decode cX2_removeAt 19 = .ok (.isub, 1) := by decide +kernel
theorem dX2_removeAt_20 : decode cX2_removeAt 20 = .ok (.putfield 18, 3) := by decide +kernel
theorem dX2_removeAt_23 : decode cX2_removeAt 23 = .ok (.iload_n 1, 1) := by decide +kernel
theorem dX2_removeAt_24 : decode cX2_removeAt 24 = .ok (.istore_n 2, 1) := by decide +kernel
theorem dX2_removeAt_25 : decode cX2_removeAt 25 = .ok (.iload_n 2, 1) := by decide +kernel
theorem dX2_removeAt_26 : decode cX2_removeAt 26 = .ok (.aload_n 0, 1) := by decide +kernel
theorem dX2_removeAt_27 : decode cX2_removeAt 27 = .ok (.getfield 18, 3) := by decide +kernel
theorem dX2_removeAt_30 : decode cX2_removeAt 30 = .ok (.if_icmp .ge 37, 3) := by decide +kernel
theorem dX2_removeAt_33 : decode cX2_removeAt 33 = .ok (.aload_n 0, 1) := by decide +kernel
theorem dX2_removeAt_34 : decode cX2_removeAt 34 = .ok (.getfield 9, 3) := by decide +kernel
theorem dX2_removeAt_37 : decode cX2_removeAt 37 = .ok (.iload_n 2, 1) := by decide +kernel
theorem dX2_removeAt_38 : decode cX2_removeAt 38 = .ok (.aload_n 0, 1) := by decide +kernel
theorem dX2_removeAt_39 : decode cX2_removeAt 39 = .ok (.getfield 9, 3) := by decide +kernel
theorem dX2_removeAt_42 : decode cX2_removeAt 42 = .ok (.iload_n 2, 1) := by decide +kernel
theorem dX2_removeAt_43 : decode cX2_removeAt 43 = .ok (.iconst 1, 1) := by decide +kernel
theorem dX2_removeAt_44 : decode cX2_removeAt 44 = .ok (.iadd, 1) := by decide +kernel
theorem dX2_removeAt_45 : decode cX2_removeAt 45 = .ok (.iaload, 1) := by decide +kernel
theorem dX2_removeAt_46 : decode cX2_removeAt 46 = .ok (.iastore, 1) := by decide +kernel
theorem dX2_removeAt_47 : decode cX2_removeAt 47 = .ok (.aload_n 0, 1) := by decide +kernel
theorem dX2_removeAt_48 : decode cX2_removeAt 48 = .ok (.getfield 15, 3) := by decide +kernel
theorem dX2_removeAt_51 : decode cX2_removeAt 51 = .ok (.iload_n 2, 1) := by decide +kernel
theorem dX2_removeAt_52 : decode cX2_removeAt 52 = .ok (.aload_n 0, 1) := by decide +kernel
theorem dX2_removeAt_53 : decode cX2_removeAt 53 = .ok (.getfield 15, 3) := by decide +kernel
theorem dX2_removeAt_56 : decode cX2_removeAt 56 = .ok (.iload_n 2, 1) := by decide +kernel
theorem dX2_removeAt_57 : decode cX2_removeAt 57 = .ok (.iconst 1, 1) := by decide +kernel
theorem dX2_removeAt_58 : decode cX2_removeAt 58 = .ok (.iadd, 1) := by decide +kernel
theorem dX2_removeAt_59 : decode cX2_removeAt 59 = .ok (.iaload, 1) := by decide +kernel
theorem dX2_removeAt_60 : decode cX2_removeAt 60 = .ok (.iastore, 1) := by decide +kernel
theorem dX2_removeAt_61 : decode cX2_removeAt 61 = .ok (.iinc 2 1, 3) := by decide +kernel
theorem dX2_removeAt_64 : decode cX2_removeAt 64 = .ok (.goto (-39), 3) := by decide +kernel
theorem dX2_removeAt_67 : decode cX2_removeAt 67 = .ok (.return_, 1) := by decide +kernel
theorem dX4_init_0 : decode cX4_init 0 = .ok (.aload_n 0, 1) := by decide +kernel
theorem dX4_init_1 : decode cX4_init 1 = .ok (.invokespecial 3, 3) := by decide +kernel
theorem dX4_init_4 : decode cX4_init 4 = .ok (.aload_n 0, 1) := by decide +kernel
theorem dX4_init_5 : decode cX4_init 5 = .ok (.bipush 8, 2) := by decide +kernel
theorem dX4_init_7 : decode cX4_init 7 = .ok (.newarray .int, 2) := by decide +kernel
theorem dX4_init_9 : decode cX4_init 9 = .ok (.putfield 9, 3) := by decide +kernel
theorem dX4_init_12 : decode cX4_init 12 = .ok (.return_, 1) := by decide +kernel
theorem dX4_comeAs_0 : decode cX4_comeAs 0 = .ok (.aload_n 0, 1) := by decide +kernel
theorem dX4_comeAs_1 : decode cX4_comeAs 1 = .ok (.iload_n 1, 1) := by decide +kernel
theorem dX4_comeAs_2 : decode cX4_comeAs 2 = .ok (.putfield 15, 3) := by decide +kernel
theorem dX4_comeAs_5 : decode cX4_comeAs 5 = .ok (.aload_n 0, 1) := by decide +kernel
theorem dX4_comeAs_6 : decode cX4_comeAs 6 = .ok (.iload_n 2, 1) := by decide +kernel
theorem dX4_comeAs_7 : decode cX4_comeAs 7 = .ok (.putfield 19, 3) := by decide +kernel
theorem dX4_comeAs_10 : decode cX4_comeAs 10 = .ok (.aload_n 0, 1) := by decide +kernel
theorem dX4_comeAs_11 : decode cX4_comeAs 11 = .ok (.iload_n 3, 1) := by decide +kernel
theorem dX4_comeAs_12 : decode cX4_comeAs 12 = .ok (.putfield 22, 3) := by decide +kernel
theorem dX4_comeAs_15 : decode cX4_comeAs 15 = .ok (.aload_n 0, 1) := by decide +kernel
theorem dX4_comeAs_16 : decode cX4_comeAs 16 = .ok (.iload 4, 2) := by decide +kernel
theorem dX4_comeAs_18 : decode cX4_comeAs 18 = .ok (.putfield 25, 3) := by decide +kernel
theorem dX4_comeAs_21 : decode cX4_comeAs 21 = .ok (.aload_n 0, 1) := by decide +kernel
theorem dX4_comeAs_22 : decode cX4_comeAs 22 = .ok (.bipush (-6), 2) := by decide +kernel
theorem dX4_comeAs_24 : decode cX4_comeAs 24 = .ok (.putfield 28, 3) := by decide +kernel
theorem dX4_comeAs_27 : decode cX4_comeAs 27 = .ok (.aload_n 0, 1) := by decide +kernel
theorem dX4_comeAs_28 : decode cX4_comeAs 28 = .ok (.iconst 0, 1) := by decide +kernel
theorem dX4_comeAs_29 : decode cX4_comeAs 29 = .ok (.putfield 31, 3) := by decide +kernel
theorem dX4_comeAs_32 : decode cX4_comeAs 32 = .ok (.aload_n 0, 1) := by decide +kernel
theorem dX4_comeAs_33 : decode cX4_comeAs 33 = .ok (.bipush (-6), 2) := by decide +kernel
theorem dX4_comeAs_35 : decode cX4_comeAs 35 = .ok (.putfield 34, 3) := by decide +kernel
theorem dX4_comeAs_38 : decode cX4_comeAs 38 = .ok (.aload_n 0, 1) := by decide +kernel
theorem dX4_comeAs_39 : decode cX4_comeAs 39 = .ok (.getfield 9, 3) := by decide +kernel
theorem dX4_comeAs_42 : decode cX4_comeAs 42 = .ok (.iconst (-1), 1) := by decide +kernel
theorem dX4_comeAs_43 : decode cX4_comeAs 43 = .ok (.invokestatic 37, 3) := by decide +kernel
theorem dX4_comeAs_46 : decode cX4_comeAs 46 = .ok (.return_, 1) := by decide +kernel
theorem dX4_copyFrom_0 : decode cX4_copyFrom 0 = .ok (.aload_n 0, 1) := by decide +kernel
theorem dX4_copyFrom_1 : decode cX4_copyFrom 1 = .ok (.aload_n 1, 1) := by decide +kernel
theorem dX4_copyFrom_2 : decode cX4_copyFrom 2 = .ok (.getfield 15, 3) := by decide +kernel
theorem dX4_copyFrom_5 : decode cX4_copyFrom 5 = .ok (.putfield 15, 3) := by decide +kernel
theorem dX4_copyFrom_8 : decode cX4_copyFrom 8 = .ok (.aload_n 0, 1) := by decide +kernel
theorem dX4_copyFrom_9 : decode cX4_copyFrom 9 = .ok (.aload_n 1, 1) := by decide +kernel
theorem dX4_copyFrom_10 : decode cX4_copyFrom 10 = .ok (.getfield 19, 3) := by decide +kernel
theorem dX4_copyFrom_13 : decode cX4_copyFrom 13 = .ok (.putfield 19, 3) := by decide +kernel
theorem dX4_copyFrom_16 : decode cX4_copyFrom 16 = .ok (.aload_n 0, 1) := by decide +kernel
theorem dX4_copyFrom_17 : decode cX4_copyFrom 17 = .ok (.aload_n 1, 1) := by decide +kernel
theorem dX4_copyFrom_18 : decode cX4_copyFrom 18 = .ok (.getfield 22, 3) := by decide +kernel
theorem dX4_copyFrom_21 : decode cX4_copyFrom 21 = .ok (.putfield 22, 3) := by decide +kernel
theorem dX4_copyFrom_24 : decode cX4_copyFrom 24 = .ok (.aload_n 0, 1) := by decide +kernel
theorem dX4_copyFrom_25 : decode cX4_copyFrom 25 = .ok (.aload_n 1, 1) := by decide +kernel
theorem dX4_copyFrom_26 : decode cX4_copyFrom 26 = .ok (.getfield 25, 3) := by decide +kernel
theorem dX4_copyFrom_29 : decode cX4_copyFrom 29 = .ok (.putfield 25, 3) := by decide +kernel
theorem dX4_copyFrom_32 : decode cX4_copyFrom 32 = .ok (.aload_n 0, 1) := by decide +kernel
theorem dX4_copyFrom_33 : decode cX4_copyFrom 33 = .ok (.aload_n 1, 1) := by decide +kernel
theorem dX4_copyFrom_34 : decode cX4_copyFrom 34 = .ok (.getfield 28, 3) := by decide +kernel
theorem dX4_copyFrom_37 : decode cX4_copyFrom 37 = .ok (.putfield 28, 3) := by decide +kernel
theorem dX4_copyFrom_40 : decode cX4_copyFrom 40 = .ok (.aload_n 0, 1) := by decide +kernel
theorem dX4_copyFrom_41 : decode cX4_copyFrom 41 = .ok (.aload_n 1, 1) := by decide +kernel
theorem dX4_copyFrom_42 : decode cX4_copyFrom 42 = .ok (.getfield 31, 3) := by decide +kernel
theorem dX4_copyFrom_45 : decode cX4_copyFrom 45 = .ok (.putfield 31, 3) := by decide +kernel
theorem dX4_copyFrom_48 : decode cX4_copyFrom 48 = .ok (.aload_n 0, 1) := by decide +kernel
theorem dX4_copyFrom_49 : decode cX4_copyFrom 49 = .ok (.aload_n 1, 1) := by decide +kernel
theorem dX4_copyFrom_50 : decode cX4_copyFrom 50 = .ok (.getfield 34, 3) := by decide +kernel
theorem dX4_copyFrom_53 : decode cX4_copyFrom 53 = .ok (.putfield 34, 3) := by decide +kernel
theorem dX4_copyFrom_56 : decode cX4_copyFrom 56 = .ok (.aload_n 1, 1) := by decide +kernel
theorem dX4_copyFrom_57 : decode cX4_copyFrom 57 = .ok (.getfield 9, 3) := by decide +kernel
theorem dX4_copyFrom_60 : decode cX4_copyFrom 60 = .ok (.iconst 0, 1) := by decide +kernel
theorem dX4_copyFrom_61 : decode cX4_copyFrom 61 = .ok (.aload_n 0, 1) := by decide +kernel
theorem dX4_copyFrom_62 : decode cX4_copyFrom 62 = .ok (.getfield 9, 3) := by decide +kernel
theorem dX4_copyFrom_65 : decode cX4_copyFrom 65 = .ok (.iconst 0, 1) := by decide +kernel
theorem dX4_copyFrom_66 : decode cX4_copyFrom 66 = .ok (.bipush 8, 2) := by decide +kernel
theorem dX4_copyFrom_68 : decode cX4_copyFrom 68 = .ok (.invokestatic 43, 3) := by decide +kernel
theorem dX4_copyFrom_71 : decode cX4_copyFrom 71 = .ok (.return_, 1) := by decide +kernel
theorem dX4_holdersOn_0 : decode cX4_holdersOn 0 = .ok (.iconst 0, 1) := by decide +kernel
theorem dX4_holdersOn_1 : decode cX4_holdersOn 1 = .ok (.istore_n 2, 1) := by decide +kernel
theorem dX4_holdersOn_2 : decode cX4_holdersOn 2 = .ok (.iconst 0, 1) := by decide +kernel
theorem dX4_holdersOn_3 : decode cX4_holdersOn 3 = .ok (.istore_n 3, 1) := by decide +kernel
theorem dX4_holdersOn_4 : decode cX4_holdersOn 4 = .ok (.iload_n 3, 1) := by decide +kernel
theorem dX4_holdersOn_5 : decode cX4_holdersOn 5 = .ok (.bipush 8, 2) := by decide +kernel
theorem dX4_holdersOn_7 : decode cX4_holdersOn 7 = .ok (.if_icmp .ge 37, 3) := by decide +kernel
theorem dX4_holdersOn_10 : decode cX4_holdersOn 10 = .ok (.aload_n 0, 1) := by decide +kernel
theorem dX4_holdersOn_11 : decode cX4_holdersOn 11 = .ok (.getfield 9, 3) := by decide +kernel
theorem dX4_holdersOn_14 : decode cX4_holdersOn 14 = .ok (.iload_n 3, 1) := by decide +kernel
theorem dX4_holdersOn_15 : decode cX4_holdersOn 15 = .ok (.iaload, 1) := by decide +kernel
theorem dX4_holdersOn_16 : decode cX4_holdersOn 16 = .ok (.istore 4, 2) := by decide +kernel
theorem dX4_holdersOn_18 : decode cX4_holdersOn 18 = .ok (.iload 4, 2) := by decide +kernel
theorem dX4_holdersOn_20 : decode cX4_holdersOn 20 = .ok (.sipush 10000, 3) := by decide +kernel
theorem dX4_holdersOn_23 : decode cX4_holdersOn 23 = .ok (.if_icmp .eq 9, 3) := by decide +kernel
theorem dX4_holdersOn_26 : decode cX4_holdersOn 26 = .ok (.iload 4, 2) := by decide +kernel
theorem dX4_holdersOn_28 : decode cX4_holdersOn 28 = .ok (.iload_n 1, 1) := by decide +kernel
theorem dX4_holdersOn_29 : decode cX4_holdersOn 29 = .ok (.if_icmp .lt 9, 3) := by decide +kernel
theorem dX4_holdersOn_32 : decode cX4_holdersOn 32 = .ok (.iload_n 2, 1) := by decide +kernel
theorem dX4_holdersOn_33 : decode cX4_holdersOn 33 = .ok (.iconst 1, 1) := by decide +kernel
theorem dX4_holdersOn_34 : decode cX4_holdersOn 34 = .ok (.iload_n 3, 1) := by decide +kernel
theorem dX4_holdersOn_35 : decode cX4_holdersOn 35 = .ok (.ishl, 1) := by decide +kernel
theorem dX4_holdersOn_36 : decode cX4_holdersOn 36 = .ok (.ior, 1) := by decide +kernel
theorem dX4_holdersOn_37 : decode cX4_holdersOn 37 = .ok (.istore_n 2, 1) := by decide +kernel
theorem dX4_holdersOn_38 : decode cX4_holdersOn 38 = .ok (.iinc 3 1, 3) := by decide +kernel
theorem dX4_holdersOn_41 : decode cX4_holdersOn 41 = .ok (.goto (-37), 3) := by decide +kernel
theorem dX4_holdersOn_44 : decode cX4_holdersOn 44 = .ok (.iload_n 2, 1) := by decide +kernel
theorem dX4_holdersOn_45 : decode cX4_holdersOn 45 = .ok (.ireturn, 1) := by decide +kernel
theorem dX5_init_0 : decode cX5_init 0 = .ok (.aload_n 0, 1) := by decide +kernel
theorem dX5_init_1 : decode cX5_init 1 = .ok (.invokespecial 3, 3) := by decide +kernel
theorem dX5_init_4 : decode cX5_init 4 = .ok (.aload_n 0, 1) := by decide +kernel
theorem dX5_init_5 : decode cX5_init 5 = .ok (.bipush 60, 2) := by decide +kernel
theorem dX5_init_7 : decode cX5_init 7 = .ok (.newarray .int, 2) := by decide +kernel
theorem dX5_init_9 : decode cX5_init 9 = .ok (.putfield 9, 3) := by decide +kernel
theorem dX5_init_12 : decode cX5_init 12 = .ok (.return_, 1) := by decide +kernel
theorem dX5_copyFrom_0 : decode cX5_copyFrom 0 = .ok (.aload_n 0, 1) := by decide +kernel
theorem dX5_copyFrom_1 : decode cX5_copyFrom 1 = .ok (.aload_n 1, 1) := by decide +kernel
theorem dX5_copyFrom_2 : decode cX5_copyFrom 2 = .ok (.getfield 15, 3) := by decide +kernel
theorem dX5_copyFrom_5 : decode cX5_copyFrom 5 = .ok (.putfield 15, 3) := by decide +kernel
theorem dX5_copyFrom_8 : decode cX5_copyFrom 8 = .ok (.aload_n 1, 1) := by decide +kernel
theorem dX5_copyFrom_9 : decode cX5_copyFrom 9 = .ok (.getfield 9, 3) := by decide +kernel
theorem dX5_copyFrom_12 : decode cX5_copyFrom 12 = .ok (.iconst 0, 1) := by decide +kernel
theorem dX5_copyFrom_13 : decode cX5_copyFrom 13 = .ok (.aload_n 0, 1) := by decide +kernel
theorem dX5_copyFrom_14 : decode cX5_copyFrom 14 = .ok (.getfield 9, 3) := by decide +kernel
theorem dX5_copyFrom_17 : decode cX5_copyFrom 17 = .ok (.iconst 0, 1) := by decide +kernel
theorem dX5_copyFrom_18 : decode cX5_copyFrom 18 = .ok (.bipush 60, 2) := by decide +kernel
theorem dX5_copyFrom_20 : decode cX5_copyFrom 20 = .ok (.invokestatic 19, 3) := by decide +kernel
theorem dX5_copyFrom_23 : decode cX5_copyFrom 23 = .ok (.return_, 1) := by decide +kernel
theorem dX5_leave_0 : decode cX5_leave 0 = .ok (.aload_n 0, 1) := by decide +kernel
theorem dX5_leave_1 : decode cX5_leave 1 = .ok (.getfield 15, 3) := by decide +kernel
theorem dX5_leave_4 : decode cX5_leave 4 = .ok (.bipush 12, 2) := by decide +kernel
theorem dX5_leave_6 : decode cX5_leave 6 = .ok (.if_icmp .lt 28, 3) := by decide +kernel
theorem dX5_leave_9 : decode cX5_leave 9 = .ok (.aload_n 0, 1) := by decide +kernel
theorem dX5_leave_10 : decode cX5_leave 10 = .ok (.bipush 11, 2) := by decide +kernel
theorem dX5_leave_12 : decode cX5_leave 12 = .ok (.putfield 15, 3) := by decide +kernel
theorem dX5_leave_15 : decode cX5_leave 15 = .ok (.aload_n 0, 1) := by decide +kernel
theorem dX5_leave_16 : decode cX5_leave 16 = .ok (.getfield 9, 3) := by decide +kernel
theorem dX5_leave_19 : decode cX5_leave 19 = .ok (.iconst 5, 1) := by decide +kernel
theorem dX5_leave_20 : decode cX5_leave 20 = .ok (.aload_n 0, 1) := by decide +kernel
theorem dX5_leave_21 : decode cX5_leave 21 = .ok (.getfield 9, 3) := by decide +kernel
theorem dX5_leave_24 : decode cX5_leave 24 = .ok (.iconst 0, 1) := by decide +kernel
theorem dX5_leave_25 : decode cX5_leave 25 = .ok (.aload_n 0, 1) := by decide +kernel
theorem dX5_leave_26 : decode cX5_leave 26 = .ok (.getfield 15, 3) := by decide +kernel
theorem dX5_leave_29 : decode cX5_leave 29 = .ok (.iconst 5, 1) := by decide +kernel
theorem dX5_leave_30 : decode cX5_leave 30 = .ok (.imul, 1) := by decide +kernel
theorem dX5_leave_31 : decode cX5_leave 31 = .ok (.invokestatic 19, 3) := by decide +kernel
theorem dX5_leave_34 : decode cX5_leave 34 = .ok (.aload_n 0, 1) := by decide +kernel
theorem dX5_leave_35 : decode cX5_leave 35 = .ok (.getfield 15, 3) := by decide +kernel
theorem dX5_leave_38 : decode cX5_leave 38 = .ok (.iconst 5, 1) := by decide +kernel
theorem dX5_leave_39 : decode cX5_leave 39 = .ok (.imul, 1) := by decide +kernel
theorem dX5_leave_40 : decode cX5_leave 40 = .ok (.istore_n 3, 1) := by decide +kernel
theorem dX5_leave_41 : decode cX5_leave 41 = .ok (.aload_n 0, 1) := by decide +kernel
theorem dX5_leave_42 : decode cX5_leave 42 = .ok (.getfield 9, 3) := by decide +kernel
theorem dX5_leave_45 : decode cX5_leave 45 = .ok (.iload_n 3, 1) := by decide +kernel
theorem dX5_leave_46 : decode cX5_leave 46 = .ok (.aload_n 1, 1) := by decide +kernel
theorem dX5_leave_47 : decode cX5_leave 47 = .ok (.getfield 25, 3) := by decide +kernel
theorem dX5_leave_50 : decode cX5_leave 50 = .ok (.iastore, 1) := by decide +kernel
theorem dX5_leave_51 : decode cX5_leave 51 = .ok (.aload_n 0, 1) := by decide +kernel
theorem dX5_leave_52 : decode cX5_leave 52 = .ok (.getfield 9, 3) := by decide +kernel
theorem dX5_leave_55 : decode cX5_leave 55 = .ok (.iload_n 3, 1) := by decide +kernel
theorem dX5_leave_56 : decode cX5_leave 56 = .ok (.iconst 1, 1) := by decide +kernel
theorem dX5_leave_57 : decode cX5_leave 57 = .ok (.iadd, 1) := by decide +kernel
theorem dX5_leave_58 : decode cX5_leave 58 = .ok (.aload_n 1, 1) := by decide +kernel
theorem dX5_leave_59 : decode cX5_leave 59 = .ok (.getfield 30, 3) := by decide +kernel
theorem dX5_leave_62 : decode cX5_leave 62 = .ok (.iastore, 1) := by decide +kernel
theorem dX5_leave_63 : decode cX5_leave 63 = .ok (.aload_n 0, 1) := by decide +kernel
theorem dX5_leave_64 : decode cX5_leave 64 = .ok (.getfield 9, 3) := by decide +kernel
theorem dX5_leave_67 : decode cX5_leave 67 = .ok (.iload_n 3, 1) := by decide +kernel
theorem dX5_leave_68 : decode cX5_leave 68 = .ok (.iconst 2, 1) := by decide +kernel
theorem dX5_leave_69 : decode cX5_leave 69 = .ok (.iadd, 1) := by decide +kernel
theorem dX5_leave_70 : decode cX5_leave 70 = .ok (.aload_n 1, 1) := by decide +kernel
theorem dX5_leave_71 : decode cX5_leave 71 = .ok (.getfield 33, 3) := by decide +kernel
theorem dX5_leave_74 : decode cX5_leave 74 = .ok (.iastore, 1) := by decide +kernel
theorem dX5_leave_75 : decode cX5_leave 75 = .ok (.aload_n 0, 1) := by decide +kernel
theorem dX5_leave_76 : decode cX5_leave 76 = .ok (.getfield 9, 3) := by decide +kernel
theorem dX5_leave_79 : decode cX5_leave 79 = .ok (.iload_n 3, 1) := by decide +kernel
theorem dX5_leave_80 : decode cX5_leave 80 = .ok (.iconst 3, 1) := by decide +kernel
theorem dX5_leave_81 : decode cX5_leave 81 = .ok (.iadd, 1) := by decide +kernel
theorem dX5_leave_82 : decode cX5_leave 82 = .ok (.iload_n 2, 1) := by decide +kernel
theorem dX5_leave_83 : decode cX5_leave 83 = .ok (.iastore, 1) := by decide +kernel
theorem dX5_leave_84 : decode cX5_leave 84 = .ok (.aload_n 0, 1) := by decide +kernel
theorem dX5_leave_85 : decode cX5_leave 85 = .ok (.getfield 9, 3) := by decide +kernel
theorem dX5_leave_88 : decode cX5_leave 88 = .ok (.iload_n 3, 1) := by decide +kernel
theorem dX5_leave_89 : decode cX5_leave 89 = .ok (.iconst 4, 1) := by decide +kernel
theorem dX5_leave_90 : decode cX5_leave 90 = .ok (.iadd, 1) := by decide +kernel
theorem dX5_leave_91 : decode cX5_leave 91 = .ok (.aload_n 1, 1) := by decide +kernel
theorem dX5_leave_92 : decode cX5_leave 92 = .ok (.getfield 36, 3) := by decide +kernel
theorem dX5_leave_95 : decode cX5_leave 95 = .ok (.iastore, 1) := by decide +kernel
theorem dX5_leave_96 : decode cX5_leave 96 = .ok (.aload_n 0, 1) := by decide +kernel
theorem dX5_leave_97 : decode cX5_leave 97 = .ok (.dup, 1) := by decide +kernel
theorem dX5_leave_98 : decode cX5_leave 98 = .ok (.getfield 15, 3) := by decide +kernel
theorem dX5_leave_101 : decode cX5_leave 101 = .ok (.iconst 1, 1) := by decide +kernel
theorem dX5_leave_102 : decode cX5_leave 102 = .ok (.iadd, 1) := by decide +kernel
theorem dX5_leave_103 : decode cX5_leave 103 = .ok (.putfield 15, 3) := by decide +kernel
theorem dX5_leave_106 : decode cX5_leave 106 = .ok (.return_, 1) := by decide +kernel
theorem dX5_cellOf_0 : decode cX5_cellOf 0 = .ok (.iload_n 1, 1) := by decide +kernel
theorem dX5_cellOf_1 : decode cX5_cellOf 1 = .ok (.ifCond .lt 20, 3) := by decide +kernel
theorem dX5_cellOf_4 : decode cX5_cellOf 4 = .ok (.iload_n 1, 1) := by decide +kernel
theorem dX5_cellOf_5 : decode cX5_cellOf 5 = .ok (.aload_n 0, 1) := by decide +kernel
theorem dX5_cellOf_6 : decode cX5_cellOf 6 = .ok (.getfield 15, 3) := by decide +kernel
theorem dX5_cellOf_9 : decode cX5_cellOf 9 = .ok (.if_icmp .ge 12, 3) := by decide +kernel
theorem dX5_cellOf_12 : decode cX5_cellOf 12 = .ok (.iload_n 2, 1) := by decide +kernel
theorem dX5_cellOf_13 : decode cX5_cellOf 13 = .ok (.ifCond .lt 8, 3) := by decide +kernel
theorem dX5_cellOf_16 : decode cX5_cellOf 16 = .ok (.iload_n 2, 1) := by decide +kernel
theorem dX5_cellOf_17 : decode cX5_cellOf 17 = .ok (.iconst 5, 1) := by decide +kernel
theorem dX5_cellOf_18 : decode cX5_cellOf 18 = .ok (.if_icmp .lt 6, 3) := by decide +kernel
theorem dX5_cellOf_21 : decode cX5_cellOf 21 = .ok (.bipush (-6), 2) := by decide +kernel
theorem dX5_cellOf_23 : decode cX5_cellOf 23 = .ok (.ireturn, 1) := by decide +kernel
theorem dX5_cellOf_24 : decode cX5_cellOf 24 = .ok (.aload_n 0, 1) := by decide +kernel
theorem dX5_cellOf_25 : decode cX5_cellOf 25 = .ok (.getfield 9, 3) := by decide +kernel
theorem dX5_cellOf_28 : decode cX5_cellOf 28 = .ok (.aload_n 0, 1) := by decide +kernel
theorem dX5_cellOf_29 : decode cX5_cellOf 29 = .ok (.getfield 15, 3) := by decide +kernel
theorem dX5_cellOf_32 : decode cX5_cellOf 32 = .ok (.iconst 1, 1) := by decide +kernel
theorem dX5_cellOf_33 : decode cX5_cellOf 33 = .ok (.isub, 1) := by decide +kernel
theorem dX5_cellOf_34 : decode cX5_cellOf 34 = .ok (.iload_n 1, 1) := by decide +kernel
theorem dX5_cellOf_35 : decode cX5_cellOf 35 = .ok (.isub, 1) := by decide +kernel
theorem dX5_cellOf_36 : decode cX5_cellOf 36 = .ok (.iconst 5, 1) := by decide +kernel
theorem dX5_cellOf_37 : decode cX5_cellOf 37 = .ok (.imul, 1) := by decide +kernel
theorem dX5_cellOf_38 : decode cX5_cellOf 38 = .ok (.iload_n 2, 1) := by decide +kernel
theorem dX5_cellOf_39 : decode cX5_cellOf 39 = .ok (.iadd, 1) := by decide +kernel
theorem dX5_cellOf_40 : decode cX5_cellOf 40 = .ok (.iaload, 1) := by decide +kernel
theorem dX5_cellOf_41 : decode cX5_cellOf 41 = .ok (.ireturn, 1) := by decide +kernel
