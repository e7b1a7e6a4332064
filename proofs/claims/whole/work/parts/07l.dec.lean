theorem dd_D_takeData_0 : decode cc_D_takeData 0 = .ok (.aload_n 0, 1) := by decide +kernel
theorem dd_D_takeData_1 : decode cc_D_takeData 1 = .ok (.getfield 48, 3) := by decide +kernel
theorem dd_D_takeData_4 : decode cc_D_takeData 4 = .ok (.iconst 1, 1) := by decide +kernel
theorem dd_D_takeData_5 : decode cc_D_takeData 5 = .ok (.iadd, 1) := by decide +kernel
theorem dd_D_takeData_6 : decode cc_D_takeData 6 = .ok (.aload_n 1, 1) := by decide +kernel
theorem dd_D_takeData_7 : decode cc_D_takeData 7 = .ok (.invokevirtual 154, 3) := by decide +kernel
theorem dd_D_takeData_10 : decode cc_D_takeData 10 = .ok (.invokestatic 158, 3) := by decide +kernel
theorem dd_D_takeData_13 : decode cc_D_takeData 13 = .ok (.istore_n 2, 1) := by decide +kernel
theorem dd_D_takeData_14 : decode cc_D_takeData 14 = .ok (.aload_n 1, 1) := by decide +kernel
theorem dd_D_takeData_15 : decode cc_D_takeData 15 = .ok (.invokevirtual 162, 3) := by decide +kernel
theorem dd_D_takeData_18 : decode cc_D_takeData 18 = .ok (.aload_n 0, 1) := by decide +kernel
theorem dd_D_takeData_19 : decode cc_D_takeData 19 = .ok (.getfield 12, 3) := by decide +kernel
theorem dd_D_takeData_22 : decode cc_D_takeData 22 = .ok (.getfield 165, 3) := by decide +kernel
theorem dd_D_takeData_25 : decode cc_D_takeData 25 = .ok (.if_icmp .ne 16, 3) := by decide +kernel
theorem dd_D_takeData_28 : decode cc_D_takeData 28 = .ok (.aload_n 0, 1) := by decide +kernel
theorem dd_D_takeData_29 : decode cc_D_takeData 29 = .ok (.getfield 12, 3) := by decide +kernel
theorem dd_D_takeData_32 : decode cc_D_takeData 32 = .ok (.aload_n 1, 1) := by decide +kernel
theorem dd_D_takeData_33 : decode cc_D_takeData 33 = .ok (.iconst 1, 1) := by decide +kernel
theorem dd_D_takeData_34 : decode cc_D_takeData 34 = .ok (.iload_n 2, 1) := by decide +kernel
theorem dd_D_takeData_35 : decode cc_D_takeData 35 = .ok (.invokevirtual 167, 3) := by decide +kernel
theorem dd_D_takeData_38 : decode cc_D_takeData 38 = .ok (.ifCond .ne 4, 3) := by decide +kernel
theorem dd_D_takeData_41 : decode cc_D_takeData 41 = .ok (.return_, 1) := by decide +kernel
theorem dd_D_takeData_42 : decode cc_D_takeData 42 = .ok (.aload_n 0, 1) := by decide +kernel
theorem dd_D_takeData_43 : decode cc_D_takeData 43 = .ok (.iload_n 2, 1) := by decide +kernel
theorem dd_D_takeData_44 : decode cc_D_takeData 44 = .ok (.putfield 48, 3) := by decide +kernel
theorem dd_D_takeData_47 : decode cc_D_takeData 47 = .ok (.aload_n 1, 1) := by decide +kernel
theorem dd_D_takeData_48 : decode cc_D_takeData 48 = .ok (.invokevirtual 171, 3) := by decide +kernel
theorem dd_D_takeData_51 : decode cc_D_takeData 51 = .ok (.ifCond .le 20, 3) := by decide +kernel
theorem dd_D_takeData_54 : decode cc_D_takeData 54 = .ok (.aload_n 0, 1) := by decide +kernel
theorem dd_D_takeData_55 : decode cc_D_takeData 55 = .ok (.getfield 21, 3) := by decide +kernel
theorem dd_D_takeData_58 : decode cc_D_takeData 58 = .ok (.aload_n 0, 1) := by decide +kernel
theorem dd_D_takeData_59 : decode cc_D_takeData 59 = .ok (.getfield 12, 3) := by decide +kernel
theorem dd_D_takeData_62 : decode cc_D_takeData 62 = .ok (.aload_n 1, 1) := by decide +kernel
theorem dd_D_takeData_63 : decode cc_D_takeData 63 = .ok (.iconst 1, 1) := by decide +kernel
theorem dd_D_takeData_64 : decode cc_D_takeData 64 = .ok (.iload_n 2, 1) := by decide +kernel
theorem dd_D_takeData_65 : decode cc_D_takeData 65 = .ok (.invokevirtual 174, 3) := by decide +kernel
theorem dd_D_takeData_68 : decode cc_D_takeData 68 = .ok (.invokevirtual 178, 3) := by decide +kernel
theorem dd_D_takeData_71 : decode cc_D_takeData 71 = .ok (.aload_n 1, 1) := by decide +kernel
theorem dd_D_takeData_72 : decode cc_D_takeData 72 = .ok (.invokevirtual 182, 3) := by decide +kernel
theorem dd_D_takeData_75 : decode cc_D_takeData 75 = .ok (.iconst 3, 1) := by decide +kernel
theorem dd_D_takeData_76 : decode cc_D_takeData 76 = .ok (.if_icmp .ne 21, 3) := by decide +kernel
theorem dd_D_takeData_79 : decode cc_D_takeData 79 = .ok (.aload_n 1, 1) := by decide +kernel
theorem dd_D_takeData_80 : decode cc_D_takeData 80 = .ok (.iconst 0, 1) := by decide +kernel
theorem dd_D_takeData_81 : decode cc_D_takeData 81 = .ok (.invokevirtual 185, 3) := by decide +kernel
theorem dd_D_takeData_84 : decode cc_D_takeData 84 = .ok (.iconst 2, 1) := by decide +kernel
theorem dd_D_takeData_85 : decode cc_D_takeData 85 = .ok (.if_icmp .ne 12, 3) := by decide +kernel
theorem dd_D_takeData_88 : decode cc_D_takeData 88 = .ok (.aload_n 0, 1) := by decide +kernel
theorem dd_D_takeData_89 : decode cc_D_takeData 89 = .ok (.aload_n 1, 1) := by decide +kernel
theorem dd_D_takeData_90 : decode cc_D_takeData 90 = .ok (.iconst 2, 1) := by decide +kernel
theorem dd_D_takeData_91 : decode cc_D_takeData 91 = .ok (.invokevirtual 185, 3) := by decide +kernel
theorem dd_D_takeData_94 : decode cc_D_takeData 94 = .ok (.putfield 70, 3) := by decide +kernel
theorem dd_D_takeData_97 : decode cc_D_takeData 97 = .ok (.aload_n 1, 1) := by decide +kernel
theorem dd_D_takeData_98 : decode cc_D_takeData 98 = .ok (.invokevirtual 189, 3) := by decide +kernel
theorem dd_D_takeData_101 : decode cc_D_takeData 101 = .ok (.bipush 32, 2) := by decide +kernel
theorem dd_D_takeData_103 : decode cc_D_takeData 103 = .ok (.iand, 1) := by decide +kernel
theorem dd_D_takeData_104 : decode cc_D_takeData 104 = .ok (.ifCond .eq 7, 3) := by decide +kernel
theorem dd_D_takeData_107 : decode cc_D_takeData 107 = .ok (.iconst 1, 1) := by decide +kernel
theorem dd_D_takeData_108 : decode cc_D_takeData 108 = .ok (.goto 4, 3) := by decide +kernel
theorem dd_D_takeData_111 : decode cc_D_takeData 111 = .ok (.iconst 0, 1) := by decide +kernel
theorem dd_D_takeData_112 : decode cc_D_takeData 112 = .ok (.istore_n 3, 1) := by decide +kernel
theorem dd_D_takeData_113 : decode cc_D_takeData 113 = .ok (.aload_n 0, 1) := by decide +kernel
theorem dd_D_takeData_114 : decode cc_D_takeData 114 = .ok (.getfield 61, 3) := by decide +kernel
theorem dd_D_takeData_117 : decode cc_D_takeData 117 = .ok (.ifCond .eq 17, 3) := by decide +kernel
theorem dd_D_takeData_120 : decode cc_D_takeData 120 = .ok (.iload_n 3, 1) := by decide +kernel
theorem dd_D_takeData_121 : decode cc_D_takeData 121 = .ok (.ifCond .eq 13, 3) := by decide +kernel
theorem dd_D_takeData_124 : decode cc_D_takeData 124 = .ok (.aload_n 0, 1) := by decide +kernel
theorem dd_D_takeData_125 : decode cc_D_takeData 125 = .ok (.dup, 1) := by decide +kernel
theorem dd_D_takeData_126 : decode cc_D_takeData 126 = .ok (.getfield 64, 3) := by decide +kernel
theorem dd_D_takeData_129 : decode cc_D_takeData 129 = .ok (.iconst 1, 1) := by decide +kernel
theorem dd_D_takeData_130 : decode cc_D_takeData 130 = .ok (.iadd, 1) := by decide +kernel
theorem dd_D_takeData_131 : decode cc_D_takeData 131 = .ok (.putfield 64, 3) := by decide +kernel
theorem dd_D_takeData_134 : decode cc_D_takeData 134 = .ok (.aload_n 0, 1) := by decide +kernel
theorem dd_D_takeData_135 : decode cc_D_takeData 135 = .ok (.aload_n 0, 1) := by decide +kernel
theorem dd_D_takeData_136 : decode cc_D_takeData 136 = .ok (.getfield 61, 3) := by decide +kernel
theorem dd_D_takeData_139 : decode cc_D_takeData 139 = .ok (.ifCond .eq 11, 3) := by decide +kernel
theorem dd_D_takeData_142 : decode cc_D_takeData 142 = .ok (.iload_n 3, 1) := by decide +kernel
theorem dd_D_takeData_143 : decode cc_D_takeData 143 = .ok (.ifCond .ne 7, 3) := by decide +kernel
theorem dd_D_takeData_146 : decode cc_D_takeData 146 = .ok (.iconst 1, 1) := by decide +kernel
theorem dd_D_takeData_147 : decode cc_D_takeData 147 = .ok (.goto 4, 3) := by decide +kernel
theorem dd_D_takeData_150 : decode cc_D_takeData 150 = .ok (.iconst 0, 1) := by decide +kernel
theorem dd_D_takeData_151 : decode cc_D_takeData 151 = .ok (.putfield 51, 3) := by decide +kernel
theorem dd_D_takeData_154 : decode cc_D_takeData 154 = .ok (.return_, 1) := by decide +kernel
theorem dd_F_init_0 : decode cc_F_init 0 = .ok (.aload_n 0, 1) := by decide +kernel
theorem dd_F_init_1 : decode cc_F_init 1 = .ok (.invokespecial 3, 3) := by decide +kernel
theorem dd_F_init_4 : decode cc_F_init 4 = .ok (.aload_n 0, 1) := by decide +kernel
theorem dd_F_init_5 : decode cc_F_init 5 = .ok (.bipush 24, 2) := by decide +kernel
theorem dd_F_init_7 : decode cc_F_init 7 = .ok (.newarray .int, 2) := by decide +kernel
theorem dd_F_init_9 : decode cc_F_init 9 = .ok (.putfield 11, 3) := by decide +kernel
theorem dd_F_init_12 : decode cc_F_init 12 = .ok (.aload_n 0, 1) := by decide +kernel
theorem dd_F_init_13 : decode cc_F_init 13 = .ok (.iconst 0, 1) := by decide +kernel
theorem dd_F_init_14 : decode cc_F_init 14 = .ok (.putfield 15, 3) := by decide +kernel
theorem dd_F_init_17 : decode cc_F_init 17 = .ok (.aload_n 0, 1) := by decide +kernel
theorem dd_F_init_18 : decode cc_F_init 18 = .ok (.iconst 3, 1) := by decide +kernel
theorem dd_F_init_19 : decode cc_F_init 19 = .ok (.putfield 19, 3) := by decide +kernel
theorem dd_F_init_22 : decode cc_F_init 22 = .ok (.return_, 1) := by decide +kernel
theorem dd_F_begin_0 : decode cc_F_begin 0 = .ok (.aload_n 0, 1) := by decide +kernel
theorem dd_F_begin_1 : decode cc_F_begin 1 = .ok (.iconst 0, 1) := by decide +kernel
theorem dd_F_begin_2 : decode cc_F_begin 2 = .ok (.putfield 15, 3) := by decide +kernel
theorem dd_F_begin_5 : decode cc_F_begin 5 = .ok (.aload_n 0, 1) := by decide +kernel
theorem dd_F_begin_6 : decode cc_F_begin 6 = .ok (.iload_n 2, 1) := by decide +kernel
theorem dd_F_begin_7 : decode cc_F_begin 7 = .ok (.putfield 19, 3) := by decide +kernel
theorem dd_F_begin_10 : decode cc_F_begin 10 = .ok (.aload_n 0, 1) := by decide +kernel
theorem dd_F_begin_11 : decode cc_F_begin 11 = .ok (.iload_n 1, 1) := by decide +kernel
theorem dd_F_begin_12 : decode cc_F_begin 12 = .ok (.iconst 1, 1) := by decide +kernel
theorem dd_F_begin_13 : decode cc_F_begin 13 = .ok (.invokevirtual 22, 3) := by decide +kernel
theorem dd_F_begin_16 : decode cc_F_begin 16 = .ok (.return_, 1) := by decide +kernel
theorem dd_F_append_0 : decode cc_F_append 0 = .ok (.aload_n 0, 1) := by decide +kernel
theorem dd_F_append_1 : decode cc_F_append 1 = .ok (.getfield 15, 3) := by decide +kernel
theorem dd_F_append_4 : decode cc_F_append 4 = .ok (.iload_n 2, 1) := by decide +kernel
theorem dd_F_append_5 : decode cc_F_append 5 = .ok (.iadd, 1) := by decide +kernel
theorem dd_F_append_6 : decode cc_F_append 6 = .ok (.bipush 24, 2) := by decide +kernel
theorem dd_F_append_8 : decode cc_F_append 8 = .ok (.if_icmp .gt 26, 3) := by decide +kernel
theorem dd_F_append_11 : decode cc_F_append 11 = .ok (.aload_n 0, 1) := by decide +kernel
theorem dd_F_append_12 : decode cc_F_append 12 = .ok (.getfield 11, 3) := by decide +kernel
theorem dd_F_append_15 : decode cc_F_append 15 = .ok (.aload_n 0, 1) := by decide +kernel
theorem dd_F_append_16 : decode cc_F_append 16 = .ok (.getfield 15, 3) := by decide +kernel
theorem dd_F_append_19 : decode cc_F_append 19 = .ok (.iload_n 1, 1) := by decide +kernel
theorem dd_F_append_20 : decode cc_F_append 20 = .ok (.iload_n 2, 1) := by decide +kernel
theorem dd_F_append_21 : decode cc_F_append 21 = .ok (.invokestatic 26, 3) := by decide +kernel
theorem dd_F_append_24 : decode cc_F_append 24 = .ok (.aload_n 0, 1) := by decide +kernel
theorem dd_F_append_25 : decode cc_F_append 25 = .ok (.dup, 1) := by decide +kernel
theorem dd_F_append_26 : decode cc_F_append 26 = .ok (.getfield 15, 3) := by decide +kernel
theorem dd_F_append_29 : decode cc_F_append 29 = .ok (.iload_n 2, 1) := by decide +kernel
theorem dd_F_append_30 : decode cc_F_append 30 = .ok (.iadd, 1) := by decide +kernel
theorem dd_F_append_31 : decode cc_F_append 31 = .ok (.putfield 15, 3) := by decide +kernel
theorem dd_F_append_34 : decode cc_F_append 34 = .ok (.return_, 1) := by decide +kernel
theorem dd_F_appendZeros_0 : decode cc_F_appendZeros 0 = .ok (.iconst 0, 1) := by decide +kernel
theorem dd_F_appendZeros_1 : decode cc_F_appendZeros 1 = .ok (.istore_n 2, 1) := by decide +kernel
theorem dd_F_appendZeros_2 : decode cc_F_appendZeros 2 = .ok (.iload_n 2, 1) := by decide +kernel
theorem dd_F_appendZeros_3 : decode cc_F_appendZeros 3 = .ok (.iload_n 1, 1) := by decide +kernel
theorem dd_F_appendZeros_4 : decode cc_F_appendZeros 4 = .ok (.if_icmp .ge 15, 3) := by decide +kernel
theorem dd_F_appendZeros_7 : decode cc_F_appendZeros 7 = .ok (.aload_n 0, 1) := by decide +kernel
theorem dd_F_appendZeros_8 : decode cc_F_appendZeros 8 = .ok (.iconst 0, 1) := by decide +kernel
theorem dd_F_appendZeros_9 : decode cc_F_appendZeros 9 = .ok (.iconst 1, 1) := by decide +kernel
theorem dd_F_appendZeros_10 : decode cc_F_appendZeros 10 = .ok (.invokevirtual 22, 3) := by decide +kernel
theorem dd_F_appendZeros_13 : decode cc_F_appendZeros 13 = .ok (.iinc 2 1, 3) := by decide +kernel
theorem dd_F_appendZeros_16 : decode cc_F_appendZeros 16 = .ok (.goto (-14), 3) := by decide +kernel
theorem dd_F_appendZeros_19 : decode cc_F_appendZeros 19 = .ok (.return_, 1) := by decide +kernel
theorem dd_F_copy_0 : decode cc_F_copy 0 = .ok (.aload_n 1, 1) := by decide +kernel
theorem dd_F_copy_1 : decode cc_F_copy 1 = .ok (.getfield 11, 3) := by decide +kernel
theorem dd_F_copy_4 : decode cc_F_copy 4 = .ok (.iconst 0, 1) := by decide +kernel
theorem dd_F_copy_5 : decode cc_F_copy 5 = .ok (.aload_n 0, 1) := by decide +kernel
theorem dd_F_copy_6 : decode cc_F_copy 6 = .ok (.getfield 11, 3) := by decide +kernel
theorem dd_F_copy_9 : decode cc_F_copy 9 = .ok (.iconst 0, 1) := by decide +kernel
theorem dd_F_copy_10 : decode cc_F_copy 10 = .ok (.bipush 24, 2) := by decide +kernel
theorem dd_F_copy_12 : decode cc_F_copy 12 = .ok (.invokestatic 30, 3) := by decide +kernel
theorem dd_F_copy_15 : decode cc_F_copy 15 = .ok (.aload_n 0, 1) := by decide +kernel
theorem dd_F_copy_16 : decode cc_F_copy 16 = .ok (.aload_n 1, 1) := by decide +kernel
theorem dd_F_copy_17 : decode cc_F_copy 17 = .ok (.getfield 15, 3) := by decide +kernel
theorem dd_F_copy_20 : decode cc_F_copy 20 = .ok (.putfield 15, 3) := by decide +kernel
theorem dd_F_copy_23 : decode cc_F_copy 23 = .ok (.aload_n 0, 1) := by decide +kernel
theorem dd_F_copy_24 : decode cc_F_copy 24 = .ok (.aload_n 1, 1) := by decide +kernel
theorem dd_F_copy_25 : decode cc_F_copy 25 = .ok (.getfield 19, 3) := by decide +kernel
theorem dd_F_copy_28 : decode cc_F_copy 28 = .ok (.putfield 19, 3) := by decide +kernel
theorem dd_F_copy_31 : decode cc_F_copy 31 = .ok (.return_, 1) := by decide +kernel
theorem dd_F_holds_0 : decode cc_F_holds 0 = .ok (.iload_n 1, 1) := by decide +kernel
theorem dd_F_holds_1 : decode cc_F_holds 1 = .ok (.ifCond .lt 15, 3) := by decide +kernel
theorem dd_F_holds_4 : decode cc_F_holds 4 = .ok (.iload_n 1, 1) := by decide +kernel
theorem dd_F_holds_5 : decode cc_F_holds 5 = .ok (.aload_n 0, 1) := by decide +kernel
theorem dd_F_holds_6 : decode cc_F_holds 6 = .ok (.getfield 15, 3) := by decide +kernel
theorem dd_F_holds_9 : decode cc_F_holds 9 = .ok (.if_icmp .ge 7, 3) := by decide +kernel
theorem dd_F_holds_12 : decode cc_F_holds 12 = .ok (.iconst 1, 1) := by decide +kernel
theorem dd_F_holds_13 : decode cc_F_holds 13 = .ok (.goto 4, 3) := by decide +kernel
theorem dd_F_holds_16 : decode cc_F_holds 16 = .ok (.iconst 0, 1) := by decide +kernel
theorem dd_F_holds_17 : decode cc_F_holds 17 = .ok (.ireturn, 1) := by decide +kernel
theorem dd_F_hasJoinForm_0 : decode cc_F_hasJoinForm 0 = .ok (.aload_n 0, 1) := by decide +kernel
theorem dd_F_hasJoinForm_1 : decode cc_F_hasJoinForm 1 = .ok (.getfield 15, 3) := by decide +kernel
theorem dd_F_hasJoinForm_4 : decode cc_F_hasJoinForm 4 = .ok (.bipush 23, 2) := by decide +kernel
theorem dd_F_hasJoinForm_6 : decode cc_F_hasJoinForm 6 = .ok (.if_icmp .ne 23, 3) := by decide +kernel
theorem dd_F_hasJoinForm_9 : decode cc_F_hasJoinForm 9 = .ok (.aload_n 0, 1) := by decide +kernel
theorem dd_F_hasJoinForm_10 : decode cc_F_hasJoinForm 10 = .ok (.getfield 11, 3) := by decide +kernel
theorem dd_F_hasJoinForm_13 : decode cc_F_hasJoinForm 13 = .ok (.iconst 0, 1) := by decide +kernel
theorem dd_F_hasJoinForm_14 : decode cc_F_hasJoinForm 14 = .ok (.iaload, 1) := by decide +kernel
theorem dd_F_hasJoinForm_15 : decode cc_F_hasJoinForm 15 = .ok (.ifCond .ne 14, 3) := by decide +kernel
theorem dd_F_hasJoinForm_18 : decode cc_F_hasJoinForm 18 = .ok (.aload_n 0, 1) := by decide +kernel
theorem dd_F_hasJoinForm_19 : decode cc_F_hasJoinForm 19 = .ok (.getfield 11, 3) := by decide +kernel
theorem dd_F_hasJoinForm_22 : decode cc_F_hasJoinForm 22 = .ok (.bipush 9, 2) := by decide +kernel
theorem dd_F_hasJoinForm_24 : decode cc_F_hasJoinForm 24 = .ok (.iaload, 1) := by decide +kernel
theorem dd_F_hasJoinForm_25 : decode cc_F_hasJoinForm 25 = .ok (.iconst 3, 1) := by decide +kernel
theorem dd_F_hasJoinForm_26 : decode cc_F_hasJoinForm 26 = .ok (.if_icmp .lt 5, 3) := by decide +kernel
theorem dd_F_hasJoinForm_29 : decode cc_F_hasJoinForm 29 = .ok (.iconst 0, 1) := by decide +kernel
theorem dd_F_hasJoinForm_30 : decode cc_F_hasJoinForm 30 = .ok (.ireturn, 1) := by decide +kernel
theorem dd_F_hasJoinForm_31 : decode cc_F_hasJoinForm 31 = .ok (.iconst 1, 1) := by decide +kernel
theorem dd_F_hasJoinForm_32 : decode cc_F_hasJoinForm 32 = .ok (.istore_n 1, 1) := by decide +kernel
theorem dd_F_hasJoinForm_33 : decode cc_F_hasJoinForm 33 = .ok (.iload_n 1, 1) := by decide +kernel
theorem dd_F_hasJoinForm_34 : decode cc_F_hasJoinForm 34 = .ok (.bipush 17, 2) := by decide +kernel
theorem dd_F_hasJoinForm_36 : decode cc_F_hasJoinForm 36 = .ok (.if_icmp .ge 26, 3) := by decide +kernel
theorem dd_F_hasJoinForm_39 : decode cc_F_hasJoinForm 39 = .ok (.iload_n 1, 1) := by decide +kernel
theorem dd_F_hasJoinForm_40 : decode cc_F_hasJoinForm 40 = .ok (.bipush 9, 2) := by decide +kernel
theorem dd_F_hasJoinForm_42 : decode cc_F_hasJoinForm 42 = .ok (.if_icmp .eq 14, 3) := by decide +kernel
theorem dd_F_hasJoinForm_45 : decode cc_F_hasJoinForm 45 = .ok (.aload_n 0, 1) := by decide +kernel
theorem dd_F_hasJoinForm_46 : decode cc_F_hasJoinForm 46 = .ok (.getfield 11, 3) := by decide +kernel
theorem dd_F_hasJoinForm_49 : decode cc_F_hasJoinForm 49 = .ok (.iload_n 1, 1) := by decide +kernel
theorem dd_F_hasJoinForm_50 : decode cc_F_hasJoinForm 50 = .ok (.iaload, 1) := by decide +kernel
theorem dd_F_hasJoinForm_51 : decode cc_F_hasJoinForm 51 = .ok (.ifCond .eq 5, 3) := by decide +kernel
theorem dd_F_hasJoinForm_54 : decode cc_F_hasJoinForm 54 = .ok (.iconst 0, 1) := by decide +kernel
theorem dd_F_hasJoinForm_55 : decode cc_F_hasJoinForm 55 = .ok (.ireturn, 1) := by decide +kernel
theorem dd_F_hasJoinForm_56 : decode cc_F_hasJoinForm 56 = .ok (.iinc 1 1, 3) := by decide +kernel
theorem dd_F_hasJoinForm_59 : decode cc_F_hasJoinForm 59 = .ok (.goto (-26), 3) := by decide +kernel
theorem dd_F_hasJoinForm_62 : decode cc_F_hasJoinForm 62 = .ok (.iconst 1, 1) := by decide +kernel
theorem dd_F_hasJoinForm_63 : decode cc_F_hasJoinForm 63 = .ok (.ireturn, 1) := by decide +kernel
theorem dd_F_hasAcceptForm_0 : decode cc_F_hasAcceptForm 0 = .ok (.aload_n 0, 1) := by decide +kernel
theorem dd_F_hasAcceptForm_1 : decode cc_F_hasAcceptForm 1 = .ok (.getfield 15, 3) := by decide +kernel
theorem dd_F_hasAcceptForm_4 : decode cc_F_hasAcceptForm 4 = .ok (.bipush 17, 2) := by decide +kernel
theorem dd_F_hasAcceptForm_6 : decode cc_F_hasAcceptForm 6 = .ok (.if_icmp .ne 18, 3) := by decide +kernel
theorem dd_F_hasAcceptForm_9 : decode cc_F_hasAcceptForm 9 = .ok (.aload_n 0, 1) := by decide +kernel
theorem dd_F_hasAcceptForm_10 : decode cc_F_hasAcceptForm 10 = .ok (.getfield 11, 3) := by decide +kernel
theorem dd_F_hasAcceptForm_13 : decode cc_F_hasAcceptForm 13 = .ok (.iconst 0, 1) := by decide +kernel
theorem dd_F_hasAcceptForm_14 : decode cc_F_hasAcceptForm 14 = .ok (.iaload, 1) := by decide +kernel
theorem dd_F_hasAcceptForm_15 : decode cc_F_hasAcceptForm 15 = .ok (.bipush 32, 2) := by decide +kernel
theorem dd_F_hasAcceptForm_17 : decode cc_F_hasAcceptForm 17 = .ok (.if_icmp .ne 7, 3) := by decide +kernel
theorem dd_F_hasAcceptForm_20 : decode cc_F_hasAcceptForm 20 = .ok (.iconst 1, 1) := by decide +kernel
theorem dd_F_hasAcceptForm_21 : decode cc_F_hasAcceptForm 21 = .ok (.goto 4, 3) := by decide +kernel
theorem dd_F_hasAcceptForm_24 : decode cc_F_hasAcceptForm 24 = .ok (.iconst 0, 1) := by decide +kernel
theorem dd_F_hasAcceptForm_25 : decode cc_F_hasAcceptForm 25 = .ok (.ireturn, 1) := by decide +kernel
theorem dd_F_hasDataForm_0 : decode cc_F_hasDataForm 0 = .ok (.aload_n 0, 1) := by decide +kernel
theorem dd_F_hasDataForm_1 : decode cc_F_hasDataForm 1 = .ok (.getfield 11, 3) := by decide +kernel
theorem dd_F_hasDataForm_4 : decode cc_F_hasDataForm 4 = .ok (.iconst 0, 1) := by decide +kernel
theorem dd_F_hasDataForm_5 : decode cc_F_hasDataForm 5 = .ok (.iaload, 1) := by decide +kernel
theorem dd_F_hasDataForm_6 : decode cc_F_hasDataForm 6 = .ok (.istore_n 1, 1) := by decide +kernel
theorem dd_F_hasDataForm_7 : decode cc_F_hasDataForm 7 = .ok (.iload_n 1, 1) := by decide +kernel
theorem dd_F_hasDataForm_8 : decode cc_F_hasDataForm 8 = .ok (.bipush 64, 2) := by decide +kernel
theorem dd_F_hasDataForm_10 : decode cc_F_hasDataForm 10 = .ok (.if_icmp .eq 18, 3) := by decide +kernel
theorem dd_F_hasDataForm_13 : decode cc_F_hasDataForm 13 = .ok (.iload_n 1, 1) := by decide +kernel
theorem dd_F_hasDataForm_14 : decode cc_F_hasDataForm 14 = .ok (.sipush 128, 3) := by decide +kernel
theorem dd_F_hasDataForm_17 : decode cc_F_hasDataForm 17 = .ok (.if_icmp .eq 11, 3) := by decide +kernel
theorem dd_F_hasDataForm_20 : decode cc_F_hasDataForm 20 = .ok (.iload_n 1, 1) := by decide +kernel
theorem dd_F_hasDataForm_21 : decode cc_F_hasDataForm 21 = .ok (.bipush 96, 2) := by decide +kernel
theorem dd_F_hasDataForm_23 : decode cc_F_hasDataForm 23 = .ok (.if_icmp .eq 5, 3) := by decide +kernel
theorem dd_F_hasDataForm_26 : decode cc_F_hasDataForm 26 = .ok (.iconst 0, 1) := by decide +kernel
theorem dd_F_hasDataForm_27 : decode cc_F_hasDataForm 27 = .ok (.ireturn, 1) := by decide +kernel
theorem dd_F_hasDataForm_28 : decode cc_F_hasDataForm 28 = .ok (.aload_n 0, 1) := by decide +kernel
theorem dd_F_hasDataForm_29 : decode cc_F_hasDataForm 29 = .ok (.getfield 15, 3) := by decide +kernel
theorem dd_F_hasDataForm_32 : decode cc_F_hasDataForm 32 = .ok (.bipush 12, 2) := by decide +kernel
theorem dd_F_hasDataForm_34 : decode cc_F_hasDataForm 34 = .ok (.isub, 1) := by decide +kernel
theorem dd_F_hasDataForm_35 : decode cc_F_hasDataForm 35 = .ok (.aload_n 0, 1) := by decide +kernel
theorem dd_F_hasDataForm_36 : decode cc_F_hasDataForm 36 = .ok (.invokevirtual 36, 3) := by decide +kernel
theorem dd_F_hasDataForm_39 : decode cc_F_hasDataForm 39 = .ok (.isub, 1) := by decide +kernel
theorem dd_F_hasDataForm_40 : decode cc_F_hasDataForm 40 = .ok (.istore_n 2, 1) := by decide +kernel
theorem dd_F_hasDataForm_41 : decode cc_F_hasDataForm 41 = .ok (.iload_n 2, 1) := by decide +kernel
theorem dd_F_hasDataForm_42 : decode cc_F_hasDataForm 42 = .ok (.ifCond .eq 14, 3) := by decide +kernel
theorem dd_F_hasDataForm_45 : decode cc_F_hasDataForm 45 = .ok (.iload_n 2, 1) := by decide +kernel
theorem dd_F_hasDataForm_46 : decode cc_F_hasDataForm 46 = .ok (.iconst 2, 1) := by decide +kernel
theorem dd_F_hasDataForm_47 : decode cc_F_hasDataForm 47 = .ok (.if_icmp .lt 13, 3) := by decide +kernel
theorem dd_F_hasDataForm_50 : decode cc_F_hasDataForm 50 = .ok (.iload_n 2, 1) := by decide +kernel
theorem dd_F_hasDataForm_51 : decode cc_F_hasDataForm 51 = .ok (.bipush 9, 2) := by decide +kernel
theorem dd_F_hasDataForm_53 : decode cc_F_hasDataForm 53 = .ok (.if_icmp .gt 7, 3) := by decide +kernel
theorem dd_F_hasDataForm_56 : decode cc_F_hasDataForm 56 = .ok (.iconst 1, 1) := by decide +kernel
theorem dd_F_hasDataForm_57 : decode cc_F_hasDataForm 57 = .ok (.goto 4, 3) := by decide +kernel
theorem dd_F_hasDataForm_60 : decode cc_F_hasDataForm 60 = .ok (.iconst 0, 1) := by decide +kernel
theorem dd_F_hasDataForm_61 : decode cc_F_hasDataForm 61 = .ok (.ireturn, 1) := by decide +kernel
theorem dd_F_address_0 : decode cc_F_address 0 = .ok (.aload_n 0, 1) := by decide +kernel
theorem dd_F_address_1 : decode cc_F_address 1 = .ok (.getfield 11, 3) := by decide +kernel
theorem dd_F_address_4 : decode cc_F_address 4 = .ok (.iconst 1, 1) := by decide +kernel
theorem dd_F_address_5 : decode cc_F_address 5 = .ok (.iconst 4, 1) := by decide +kernel
theorem dd_F_address_6 : decode cc_F_address 6 = .ok (.invokestatic 40, 3) := by decide +kernel
theorem dd_F_address_9 : decode cc_F_address 9 = .ok (.ireturn, 1) := by decide +kernel
theorem dd_F_control_0 : decode cc_F_control 0 = .ok (.aload_n 0, 1) := by decide +kernel
theorem dd_F_control_1 : decode cc_F_control 1 = .ok (.getfield 11, 3) := by decide +kernel
theorem dd_F_control_4 : decode cc_F_control 4 = .ok (.iconst 5, 1) := by decide +kernel
theorem dd_F_control_5 : decode cc_F_control 5 = .ok (.iaload, 1) := by decide +kernel
theorem dd_F_control_6 : decode cc_F_control 6 = .ok (.ireturn, 1) := by decide +kernel
theorem dd_F_countEnd_0 : decode cc_F_countEnd 0 = .ok (.aload_n 0, 1) := by decide +kernel
theorem dd_F_countEnd_1 : decode cc_F_countEnd 1 = .ok (.getfield 11, 3) := by decide +kernel
theorem dd_F_countEnd_4 : decode cc_F_countEnd 4 = .ok (.bipush 6, 2) := by decide +kernel
theorem dd_F_countEnd_6 : decode cc_F_countEnd 6 = .ok (.iconst 2, 1) := by decide +kernel
theorem dd_F_countEnd_7 : decode cc_F_countEnd 7 = .ok (.invokestatic 40, 3) := by decide +kernel
theorem dd_F_countEnd_10 : decode cc_F_countEnd 10 = .ok (.ireturn, 1) := by decide +kernel
theorem dd_F_optionCount_0 : decode cc_F_optionCount 0 = .ok (.aload_n 0, 1) := by decide +kernel
theorem dd_F_optionCount_1 : decode cc_F_optionCount 1 = .ok (.invokevirtual 44, 3) := by decide +kernel
theorem dd_F_optionCount_4 : decode cc_F_optionCount 4 = .ok (.bipush 15, 2) := by decide +kernel
theorem dd_F_optionCount_6 : decode cc_F_optionCount 6 = .ok (.iand, 1) := by decide +kernel
theorem dd_F_optionCount_7 : decode cc_F_optionCount 7 = .ok (.ireturn, 1) := by decide +kernel
theorem dd_F_option_0 : decode cc_F_option 0 = .ok (.aload_n 0, 1) := by decide +kernel
theorem dd_F_option_1 : decode cc_F_option 1 = .ok (.getfield 11, 3) := by decide +kernel
theorem dd_F_option_4 : decode cc_F_option 4 = .ok (.bipush 8, 2) := by decide +kernel
theorem dd_F_option_6 : decode cc_F_option 6 = .ok (.iload_n 1, 1) := by decide +kernel
theorem dd_F_option_7 : decode cc_F_option 7 = .ok (.iadd, 1) := by decide +kernel
theorem dd_F_option_8 : decode cc_F_option 8 = .ok (.iaload, 1) := by decide +kernel
theorem dd_F_option_9 : decode cc_F_option 9 = .ok (.ireturn, 1) := by decide +kernel
theorem dd_F_payloadStart_0 : decode cc_F_payloadStart 0 = .ok (.bipush 9, 2) := by decide +kernel
theorem dd_F_payloadStart_2 : decode cc_F_payloadStart 2 = .ok (.aload_n 0, 1) := by decide +kernel
theorem dd_F_payloadStart_3 : decode cc_F_payloadStart 3 = .ok (.invokevirtual 36, 3) := by decide +kernel
theorem dd_F_payloadStart_6 : decode cc_F_payloadStart 6 = .ok (.iadd, 1) := by decide +kernel
theorem dd_F_payloadStart_7 : decode cc_F_payloadStart 7 = .ok (.ireturn, 1) := by decide +kernel
theorem dd_F_payloadBytes_0 : decode cc_F_payloadBytes 0 = .ok (.iconst 0, 1) := by decide +kernel
theorem dd_F_payloadBytes_1 : decode cc_F_payloadBytes 1 = .ok (.aload_n 0, 1) := by decide +kernel
theorem dd_F_payloadBytes_2 : decode cc_F_payloadBytes 2 = .ok (.getfield 15, 3) := by decide +kernel
theorem dd_F_payloadBytes_5 : decode cc_F_payloadBytes 5 = .ok (.iconst 4, 1) := by decide +kernel
theorem dd_F_payloadBytes_6 : decode cc_F_payloadBytes 6 = .ok (.isub, 1) := by decide +kernel
theorem dd_F_payloadBytes_7 : decode cc_F_payloadBytes 7 = .ok (.aload_n 0, 1) := by decide +kernel
theorem dd_F_payloadBytes_8 : decode cc_F_payloadBytes 8 = .ok (.invokevirtual 47, 3) := by decide +kernel
theorem dd_F_payloadBytes_11 : decode cc_F_payloadBytes 11 = .ok (.isub, 1) := by decide +kernel
theorem dd_F_payloadBytes_12 : decode cc_F_payloadBytes 12 = .ok (.invokestatic 50, 3) := by decide +kernel
theorem dd_F_payloadBytes_15 : decode cc_F_payloadBytes 15 = .ok (.ireturn, 1) := by decide +kernel
theorem dd_I_init_0 : decode cc_I_init 0 = .ok (.aload_n 0, 1) := by decide +kernel
theorem dd_I_init_1 : decode cc_I_init 1 = .ok (.invokespecial 3, 3) := by decide +kernel
theorem dd_I_init_4 : decode cc_I_init 4 = .ok (.aload_n 0, 1) := by decide +kernel
theorem dd_I_init_5 : decode cc_I_init 5 = .ok (.iconst 4, 1) := by decide +kernel
theorem dd_I_init_6 : decode cc_I_init 6 = .ok (.newarray .long, 2) := by decide +kernel
theorem dd_I_init_8 : decode cc_I_init 8 = .ok (.putfield 11, 3) := by decide +kernel
theorem dd_I_init_11 : decode cc_I_init 11 = .ok (.aload_n 0, 1) := by decide +kernel
theorem dd_I_init_12 : decode cc_I_init 12 = .ok (.iconst 0, 1) := by decide +kernel
theorem dd_I_init_13 : decode cc_I_init 13 = .ok (.putfield 15, 3) := by decide +kernel
theorem dd_I_init_16 : decode cc_I_init 16 = .ok (.return_, 1) := by decide +kernel
theorem dd_I_add_0 : decode cc_I_add 0 = .ok (.aload_n 0, 1) := by decide +kernel
theorem dd_I_add_1 : decode cc_I_add 1 = .ok (.getfield 11, 3) := by decide +kernel
theorem dd_I_add_4 : decode cc_I_add 4 = .ok (.aload_n 0, 1) := by decide +kernel
theorem dd_I_add_5 : decode cc_I_add 5 = .ok (.getfield 15, 3) := by decide +kernel
theorem dd_I_add_8 : decode cc_I_add 8 = .ok (.iconst 4, 1) := by decide +kernel
theorem dd_I_add_9 : decode cc_I_add 9 = .ok (.irem, 1) := by decide +kernel
theorem dd_I_add_10 : decode cc_I_add 10 = .ok (.lload_n 1, 1) := by decide +kernel
theorem dd_I_add_11 : decode cc_I_add 11 = .ok (.lastore, 1) := by decide +kernel
theorem dd_I_add_12 : decode cc_I_add 12 = .ok (.aload_n 0, 1) := by decide +kernel
theorem dd_I_add_13 : decode cc_I_add 13 = .ok (.dup, 1) := by decide +kernel
theorem dd_I_add_14 : decode cc_I_add 14 = .ok (.getfield 15, 3) := by decide +kernel
theorem dd_I_add_17 : decode cc_I_add 17 = .ok (.iconst 1, 1) := by decide +kernel
theorem dd_I_add_18 : decode cc_I_add 18 = .ok (.iadd, 1) := by decide +kernel
theorem dd_I_add_19 : decode cc_I_add 19 = .ok (.putfield 15, 3) := by decide +kernel
theorem dd_I_add_22 : decode cc_I_add 22 = .ok (.return_, 1) := by decide +kernel
theorem dd_I_get_0 : decode cc_I_get 0 = .ok (.iload_n 1, 1) := by decide +kernel
theorem dd_I_get_1 : decode cc_I_get 1 = .ok (.ifCond .lt 32, 3) := by decide +kernel
theorem dd_I_get_4 : decode cc_I_get 4 = .ok (.iload_n 1, 1) := by decide +kernel
theorem dd_I_get_5 : decode cc_I_get 5 = .ok (.aload_n 0, 1) := by decide +kernel
theorem dd_I_get_6 : decode cc_I_get 6 = .ok (.getfield 15, 3) := by decide +kernel
theorem dd_I_get_9 : decode cc_I_get 9 = .ok (.if_icmp .ge 24, 3) := by decide +kernel
theorem dd_I_get_12 : decode cc_I_get 12 = .ok (.iload_n 1, 1) := by decide +kernel
theorem dd_I_get_13 : decode cc_I_get 13 = .ok (.aload_n 0, 1) := by decide +kernel
theorem dd_I_get_14 : decode cc_I_get 14 = .ok (.getfield 15, 3) := by decide +kernel
theorem dd_I_get_17 : decode cc_I_get 17 = .ok (.iconst 4, 1) := by decide +kernel
theorem dd_I_get_18 : decode cc_I_get 18 = .ok (.isub, 1) := by decide +kernel
theorem dd_I_get_19 : decode cc_I_get 19 = .ok (.if_icmp .lt 14, 3) := by decide +kernel
theorem dd_I_get_22 : decode cc_I_get 22 = .ok (.aload_n 0, 1) := by decide +kernel
theorem dd_I_get_23 : decode cc_I_get 23 = .ok (.getfield 11, 3) := by decide +kernel
theorem dd_I_get_26 : decode cc_I_get 26 = .ok (.iload_n 1, 1) := by decide +kernel
theorem dd_I_get_27 : decode cc_I_get 27 = .ok (.iconst 4, 1) := by decide +kernel
theorem dd_I_get_28 : decode cc_I_get 28 = .ok (.irem, 1) := by decide +kernel
theorem dd_I_get_29 : decode cc_I_get 29 = .ok (.laload, 1) := by decide +kernel
theorem dd_I_get_30 : decode cc_I_get 30 = .ok (.goto 6, 3) := by decide +kernel
theorem dd_I_get_33 : decode cc_I_get 33 = .ok (.ldc2_w 19, 3) := by decide +kernel
theorem dd_I_get_36 : decode cc_I_get 36 = .ok (.lreturn, 1) := by decide +kernel
theorem dd_M_init_0 : decode cc_M_init 0 = .ok (.aload_n 0, 1) := by decide +kernel
theorem dd_M_init_1 : decode cc_M_init 1 = .ok (.invokespecial 3, 3) := by decide +kernel
theorem dd_M_init_4 : decode cc_M_init 4 = .ok (.aload_n 0, 1) := by decide +kernel
theorem dd_M_init_5 : decode cc_M_init 5 = .ok (.new 9, 3) := by decide +kernel
theorem dd_M_init_8 : decode cc_M_init 8 = .ok (.dup, 1) := by decide +kernel
theorem dd_M_init_9 : decode cc_M_init 9 = .ok (.invokespecial 11, 3) := by decide +kernel
theorem dd_M_init_12 : decode cc_M_init 12 = .ok (.putfield 12, 3) := by decide +kernel
theorem dd_M_init_15 : decode cc_M_init 15 = .ok (.aload_n 0, 1) := by decide +kernel
theorem dd_M_init_16 : decode cc_M_init 16 = .ok (.bipush 16, 2) := by decide +kernel
theorem dd_M_init_18 : decode cc_M_init 18 = .ok (.newarray .int, 2) := by decide +kernel
theorem dd_M_init_20 : decode cc_M_init 20 = .ok (.putfield 18, 3) := by decide +kernel
theorem dd_M_init_23 : decode cc_M_init 23 = .ok (.aload_n 0, 1) := by decide +kernel
theorem dd_M_init_24 : decode cc_M_init 24 = .ok (.bipush 16, 2) := by decide +kernel
theorem dd_M_init_26 : decode cc_M_init 26 = .ok (.newarray .int, 2) := by decide +kernel
theorem dd_M_init_28 : decode cc_M_init 28 = .ok (.putfield 22, 3) := by decide +kernel
theorem dd_M_init_31 : decode cc_M_init 31 = .ok (.aload_n 0, 1) := by decide +kernel
theorem dd_M_init_32 : decode cc_M_init 32 = .ok (.bipush 16, 2) := by decide +kernel
theorem dd_M_init_34 : decode cc_M_init 34 = .ok (.newarray .int, 2) := by decide +kernel
theorem dd_M_init_36 : decode cc_M_init 36 = .ok (.putfield 25, 3) := by decide +kernel
theorem dd_M_init_39 : decode cc_M_init 39 = .ok (.return_, 1) := by decide +kernel
theorem dd_M_takeKey_0 : decode cc_M_takeKey 0 = .ok (.aload_n 0, 1) := by decide +kernel
theorem dd_M_takeKey_1 : decode cc_M_takeKey 1 = .ok (.getfield 12, 3) := by decide +kernel
theorem dd_M_takeKey_4 : decode cc_M_takeKey 4 = .ok (.aload_n 1, 1) := by decide +kernel
theorem dd_M_takeKey_5 : decode cc_M_takeKey 5 = .ok (.invokevirtual 28, 3) := by decide +kernel
theorem dd_M_takeKey_8 : decode cc_M_takeKey 8 = .ok (.aload_n 0, 1) := by decide +kernel
theorem dd_M_takeKey_9 : decode cc_M_takeKey 9 = .ok (.getfield 18, 3) := by decide +kernel
theorem dd_M_takeKey_12 : decode cc_M_takeKey 12 = .ok (.iconst 0, 1) := by decide +kernel
theorem dd_M_takeKey_13 : decode cc_M_takeKey 13 = .ok (.invokestatic 32, 3) := by decide +kernel
theorem dd_M_takeKey_16 : decode cc_M_takeKey 16 = .ok (.aload_n 0, 1) := by decide +kernel
theorem dd_M_takeKey_17 : decode cc_M_takeKey 17 = .ok (.getfield 12, 3) := by decide +kernel
theorem dd_M_takeKey_20 : decode cc_M_takeKey 20 = .ok (.aload_n 0, 1) := by decide +kernel
theorem dd_M_takeKey_21 : decode cc_M_takeKey 21 = .ok (.getfield 18, 3) := by decide +kernel
theorem dd_M_takeKey_24 : decode cc_M_takeKey 24 = .ok (.iconst 0, 1) := by decide +kernel
theorem dd_M_takeKey_25 : decode cc_M_takeKey 25 = .ok (.invokevirtual 38, 3) := by decide +kernel
theorem dd_M_takeKey_28 : decode cc_M_takeKey 28 = .ok (.aload_n 0, 1) := by decide +kernel
theorem dd_M_takeKey_29 : decode cc_M_takeKey 29 = .ok (.getfield 18, 3) := by decide +kernel
theorem dd_M_takeKey_32 : decode cc_M_takeKey 32 = .ok (.invokestatic 41, 3) := by decide +kernel
theorem dd_M_takeKey_35 : decode cc_M_takeKey 35 = .ok (.aload_n 0, 1) := by decide +kernel
theorem dd_M_takeKey_36 : decode cc_M_takeKey 36 = .ok (.getfield 18, 3) := by decide +kernel
theorem dd_M_takeKey_39 : decode cc_M_takeKey 39 = .ok (.iconst 0, 1) := by decide +kernel
theorem dd_M_takeKey_40 : decode cc_M_takeKey 40 = .ok (.aload_n 0, 1) := by decide +kernel
theorem dd_M_takeKey_41 : decode cc_M_takeKey 41 = .ok (.getfield 22, 3) := by decide +kernel
theorem dd_M_takeKey_44 : decode cc_M_takeKey 44 = .ok (.iconst 0, 1) := by decide +kernel
theorem dd_M_takeKey_45 : decode cc_M_takeKey 45 = .ok (.bipush 16, 2) := by decide +kernel
theorem dd_M_takeKey_47 : decode cc_M_takeKey 47 = .ok (.invokestatic 44, 3) := by decide +kernel
theorem dd_M_takeKey_50 : decode cc_M_takeKey 50 = .ok (.aload_n 0, 1) := by decide +kernel
theorem dd_M_takeKey_51 : decode cc_M_takeKey 51 = .ok (.getfield 22, 3) := by decide +kernel
theorem dd_M_takeKey_54 : decode cc_M_takeKey 54 = .ok (.invokestatic 41, 3) := by decide +kernel
theorem dd_M_takeKey_57 : decode cc_M_takeKey 57 = .ok (.return_, 1) := by decide +kernel
theorem dd_M_codeOf_0 : decode cc_M_codeOf 0 = .ok (.aload_n 0, 1) := by decide +kernel
theorem dd_M_codeOf_1 : decode cc_M_codeOf 1 = .ok (.getfield 25, 3) := by decide +kernel
theorem dd_M_codeOf_4 : decode cc_M_codeOf 4 = .ok (.iconst 0, 1) := by decide +kernel
theorem dd_M_codeOf_5 : decode cc_M_codeOf 5 = .ok (.invokestatic 32, 3) := by decide +kernel
theorem dd_M_codeOf_8 : decode cc_M_codeOf 8 = .ok (.iconst 0, 1) := by decide +kernel
theorem dd_M_codeOf_9 : decode cc_M_codeOf 9 = .ok (.istore_n 3, 1) := by decide +kernel
theorem dd_M_codeOf_10 : decode cc_M_codeOf 10 = .ok (.iload_n 2, 1) := by decide +kernel
theorem dd_M_codeOf_11 : decode cc_M_codeOf 11 = .ok (.iload_n 3, 1) := by decide +kernel
theorem dd_M_codeOf_12 : decode cc_M_codeOf 12 = .ok (.isub, 1) := by decide +kernel
theorem dd_M_codeOf_13 : decode cc_M_codeOf 13 = .ok (.bipush 16, 2) := by decide +kernel
theorem dd_M_codeOf_15 : decode cc_M_codeOf 15 = .ok (.if_icmp .le 29, 3) := by decide +kernel
theorem dd_M_codeOf_18 : decode cc_M_codeOf 18 = .ok (.aload_n 0, 1) := by decide +kernel
theorem dd_M_codeOf_19 : decode cc_M_codeOf 19 = .ok (.aload_n 1, 1) := by decide +kernel
theorem dd_M_codeOf_20 : decode cc_M_codeOf 20 = .ok (.iload_n 3, 1) := by decide +kernel
theorem dd_M_codeOf_21 : decode cc_M_codeOf 21 = .ok (.bipush 16, 2) := by decide +kernel
theorem dd_M_codeOf_23 : decode cc_M_codeOf 23 = .ok (.invokevirtual 50, 3) := by decide +kernel
theorem dd_M_codeOf_26 : decode cc_M_codeOf 26 = .ok (.aload_n 0, 1) := by decide +kernel
theorem dd_M_codeOf_27 : decode cc_M_codeOf 27 = .ok (.getfield 12, 3) := by decide +kernel
theorem dd_M_codeOf_30 : decode cc_M_codeOf 30 = .ok (.aload_n 0, 1) := by decide +kernel
theorem dd_M_codeOf_31 : decode cc_M_codeOf 31 = .ok (.getfield 25, 3) := by decide +kernel
theorem dd_M_codeOf_34 : decode cc_M_codeOf 34 = .ok (.iconst 0, 1) := by decide +kernel
theorem dd_M_codeOf_35 : decode cc_M_codeOf 35 = .ok (.invokevirtual 38, 3) := by decide +kernel
theorem dd_M_codeOf_38 : decode cc_M_codeOf 38 = .ok (.iinc 3 16, 3) := by decide +kernel
theorem dd_M_codeOf_41 : decode cc_M_codeOf 41 = .ok (.goto (-31), 3) := by decide +kernel
theorem dd_M_codeOf_44 : decode cc_M_codeOf 44 = .ok (.iload_n 2, 1) := by decide +kernel
theorem dd_M_codeOf_45 : decode cc_M_codeOf 45 = .ok (.iload_n 3, 1) := by decide +kernel
theorem dd_M_codeOf_46 : decode cc_M_codeOf 46 = .ok (.isub, 1) := by decide +kernel
theorem dd_M_codeOf_47 : decode cc_M_codeOf 47 = .ok (.istore 4, 2) := by decide +kernel
theorem dd_M_codeOf_49 : decode cc_M_codeOf 49 = .ok (.aload_n 0, 1) := by decide +kernel
theorem dd_M_codeOf_50 : decode cc_M_codeOf 50 = .ok (.aload_n 1, 1) := by decide +kernel
theorem dd_M_codeOf_51 : decode cc_M_codeOf 51 = .ok (.iload_n 3, 1) := by decide +kernel
theorem dd_M_codeOf_52 : decode cc_M_codeOf 52 = .ok (.iload 4, 2) := by decide +kernel
theorem dd_M_codeOf_54 : decode cc_M_codeOf 54 = .ok (.invokevirtual 50, 3) := by decide +kernel
theorem dd_M_codeOf_57 : decode cc_M_codeOf 57 = .ok (.iload 4, 2) := by decide +kernel
theorem dd_M_codeOf_59 : decode cc_M_codeOf 59 = .ok (.bipush 16, 2) := by decide +kernel
theorem dd_M_codeOf_61 : decode cc_M_codeOf 61 = .ok (.if_icmp .ge 16, 3) := by decide +kernel
theorem dd_M_codeOf_64 : decode cc_M_codeOf 64 = .ok (.aload_n 0, 1) := by decide +kernel
theorem dd_M_codeOf_65 : decode cc_M_codeOf 65 = .ok (.getfield 25, 3) := by decide +kernel
theorem dd_M_codeOf_68 : decode cc_M_codeOf 68 = .ok (.iload 4, 2) := by decide +kernel
theorem dd_M_codeOf_70 : decode cc_M_codeOf 70 = .ok (.dup2, 1) := by decide +kernel
theorem dd_M_codeOf_71 : decode cc_M_codeOf 71 = .ok (.iaload, 1) := by decide +kernel
theorem dd_M_codeOf_72 : decode cc_M_codeOf 72 = .ok (.sipush 128, 3) := by decide +kernel
theorem dd_M_codeOf_75 : decode cc_M_codeOf 75 = .ok (.ixor, 1) := by decide +kernel
theorem dd_M_codeOf_76 : decode cc_M_codeOf 76 = .ok (.iastore, 1) := by decide +kernel
theorem dd_M_codeOf_77 : decode cc_M_codeOf 77 = .ok (.aload_n 0, 1) := by decide +kernel
theorem dd_M_codeOf_78 : decode cc_M_codeOf 78 = .ok (.iload 4, 2) := by decide +kernel
theorem dd_M_codeOf_80 : decode cc_M_codeOf 80 = .ok (.bipush 16, 2) := by decide +kernel
theorem dd_M_codeOf_82 : decode cc_M_codeOf 82 = .ok (.if_icmp .ge 10, 3) := by decide +kernel
theorem dd_M_codeOf_85 : decode cc_M_codeOf 85 = .ok (.aload_n 0, 1) := by decide +kernel
theorem dd_M_codeOf_86 : decode cc_M_codeOf 86 = .ok (.getfield 22, 3) := by decide +kernel
theorem dd_M_codeOf_89 : decode cc_M_codeOf 89 = .ok (.goto 7, 3) := by decide +kernel
theorem dd_M_codeOf_92 : decode cc_M_codeOf 92 = .ok (.aload_n 0, 1) := by decide +kernel
theorem dd_M_codeOf_93 : decode cc_M_codeOf 93 = .ok (.getfield 18, 3) := by decide +kernel
theorem dd_M_codeOf_96 : decode cc_M_codeOf 96 = .ok (.iconst 0, 1) := by decide +kernel
theorem dd_M_codeOf_97 : decode cc_M_codeOf 97 = .ok (.bipush 16, 2) := by decide +kernel
theorem dd_M_codeOf_99 : decode cc_M_codeOf 99 = .ok (.invokevirtual 50, 3) := by decide +kernel
theorem dd_M_codeOf_102 : decode cc_M_codeOf 102 = .ok (.aload_n 0, 1) := by decide +kernel
theorem dd_M_codeOf_103 : decode cc_M_codeOf 103 = .ok (.getfield 12, 3) := by decide +kernel
theorem dd_M_codeOf_106 : decode cc_M_codeOf 106 = .ok (.aload_n 0, 1) := by decide +kernel
theorem dd_M_codeOf_107 : decode cc_M_codeOf 107 = .ok (.getfield 25, 3) := by decide +kernel
theorem dd_M_codeOf_110 : decode cc_M_codeOf 110 = .ok (.iconst 0, 1) := by decide +kernel
theorem dd_M_codeOf_111 : decode cc_M_codeOf 111 = .ok (.invokevirtual 38, 3) := by decide +kernel
theorem dd_M_codeOf_114 : decode cc_M_codeOf 114 = .ok (.aload_n 0, 1) := by decide +kernel
theorem dd_M_codeOf_115 : decode cc_M_codeOf 115 = .ok (.getfield 25, 3) := by decide +kernel
theorem dd_M_codeOf_118 : decode cc_M_codeOf 118 = .ok (.iconst 0, 1) := by decide +kernel
theorem dd_M_codeOf_119 : decode cc_M_codeOf 119 = .ok (.iconst 4, 1) := by decide +kernel
theorem dd_M_codeOf_120 : decode cc_M_codeOf 120 = .ok (.invokestatic 54, 3) := by decide +kernel
theorem dd_M_codeOf_123 : decode cc_M_codeOf 123 = .ok (.ireturn, 1) := by decide +kernel
