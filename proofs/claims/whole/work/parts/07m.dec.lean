theorem dd_M_combine_0 : decode cc_M_combine 0 = .ok (.iconst 0, 1) := by decide +kernel
theorem dd_M_combine_1 : decode cc_M_combine 1 = .ok (.istore 4, 2) := by decide +kernel
theorem dd_M_combine_3 : decode cc_M_combine 3 = .ok (.iload 4, 2) := by decide +kernel
theorem dd_M_combine_5 : decode cc_M_combine 5 = .ok (.iload_n 3, 1) := by decide +kernel
theorem dd_M_combine_6 : decode cc_M_combine 6 = .ok (.if_icmp .ge 25, 3) := by decide +kernel
theorem dd_M_combine_9 : decode cc_M_combine 9 = .ok (.aload_n 0, 1) := by decide +kernel
theorem dd_M_combine_10 : decode cc_M_combine 10 = .ok (.getfield 25, 3) := by decide +kernel
theorem dd_M_combine_13 : decode cc_M_combine 13 = .ok (.iload 4, 2) := by decide +kernel
theorem dd_M_combine_15 : decode cc_M_combine 15 = .ok (.dup2, 1) := by decide +kernel
theorem dd_M_combine_16 : decode cc_M_combine 16 = .ok (.iaload, 1) := by decide +kernel
theorem dd_M_combine_17 : decode cc_M_combine 17 = .ok (.aload_n 1, 1) := by decide +kernel
theorem dd_M_combine_18 : decode cc_M_combine 18 = .ok (.iload_n 2, 1) := by decide +kernel
theorem dd_M_combine_19 : decode cc_M_combine 19 = .ok (.iload 4, 2) := by decide +kernel
theorem dd_M_combine_21 : decode cc_M_combine 21 = .ok (.iadd, 1) := by decide +kernel
theorem dd_M_combine_22 : decode cc_M_combine 22 = .ok (.iaload, 1) := by decide +kernel
theorem dd_M_combine_23 : decode cc_M_combine 23 = .ok (.ixor, 1) := by decide +kernel
theorem dd_M_combine_24 : decode cc_M_combine 24 = .ok (.iastore, 1) := by decide +kernel
theorem dd_M_combine_25 : decode cc_M_combine 25 = .ok (.iinc 4 1, 3) := by decide +kernel
theorem dd_M_combine_28 : decode cc_M_combine 28 = .ok (.goto (-25), 3) := by decide +kernel
theorem dd_M_combine_31 : decode cc_M_combine 31 = .ok (.return_, 1) := by decide +kernel
theorem dd_M_moveUp_0 : decode cc_M_moveUp 0 = .ok (.aload_n 0, 1) := by decide +kernel
theorem dd_M_moveUp_1 : decode cc_M_moveUp 1 = .ok (.iconst 0, 1) := by decide +kernel
theorem dd_M_moveUp_2 : decode cc_M_moveUp 2 = .ok (.iaload, 1) := by decide +kernel
theorem dd_M_moveUp_3 : decode cc_M_moveUp 3 = .ok (.bipush 7, 2) := by decide +kernel
theorem dd_M_moveUp_5 : decode cc_M_moveUp 5 = .ok (.iushr, 1) := by decide +kernel
theorem dd_M_moveUp_6 : decode cc_M_moveUp 6 = .ok (.istore_n 1, 1) := by decide +kernel
theorem dd_M_moveUp_7 : decode cc_M_moveUp 7 = .ok (.iconst 0, 1) := by decide +kernel
theorem dd_M_moveUp_8 : decode cc_M_moveUp 8 = .ok (.istore_n 2, 1) := by decide +kernel
theorem dd_M_moveUp_9 : decode cc_M_moveUp 9 = .ok (.iload_n 2, 1) := by decide +kernel
theorem dd_M_moveUp_10 : decode cc_M_moveUp 10 = .ok (.bipush 16, 2) := by decide +kernel
theorem dd_M_moveUp_12 : decode cc_M_moveUp 12 = .ok (.if_icmp .ge 44, 3) := by decide +kernel
theorem dd_M_moveUp_15 : decode cc_M_moveUp 15 = .ok (.iload_n 2, 1) := by decide +kernel
theorem dd_M_moveUp_16 : decode cc_M_moveUp 16 = .ok (.iconst 1, 1) := by decide +kernel
theorem dd_M_moveUp_17 : decode cc_M_moveUp 17 = .ok (.iadd, 1) := by decide +kernel
theorem dd_M_moveUp_18 : decode cc_M_moveUp 18 = .ok (.bipush 16, 2) := by decide +kernel
theorem dd_M_moveUp_20 : decode cc_M_moveUp 20 = .ok (.if_icmp .ge 11, 3) := by decide +kernel
theorem dd_M_moveUp_23 : decode cc_M_moveUp 23 = .ok (.aload_n 0, 1) := by decide +kernel
theorem dd_M_moveUp_24 : decode cc_M_moveUp 24 = .ok (.iload_n 2, 1) := by decide +kernel
theorem dd_M_moveUp_25 : decode cc_M_moveUp 25 = .ok (.iconst 1, 1) := by decide +kernel
theorem dd_M_moveUp_26 : decode cc_M_moveUp 26 = .ok (.iadd, 1) := by decide +kernel
theorem dd_M_moveUp_27 : decode cc_M_moveUp 27 = .ok (.iaload, 1) := by decide +kernel
theorem dd_M_moveUp_28 : decode cc_M_moveUp 28 = .ok (.goto 4, 3) := by decide +kernel
theorem dd_M_moveUp_31 : decode cc_M_moveUp 31 = .ok (.iconst 0, 1) := by decide +kernel
theorem dd_M_moveUp_32 : decode cc_M_moveUp 32 = .ok (.istore_n 3, 1) := by decide +kernel
theorem dd_M_moveUp_33 : decode cc_M_moveUp 33 = .ok (.aload_n 0, 1) := by decide +kernel
theorem dd_M_moveUp_34 : decode cc_M_moveUp 34 = .ok (.iload_n 2, 1) := by decide +kernel
theorem dd_M_moveUp_35 : decode cc_M_moveUp 35 = .ok (.aload_n 0, 1) := by decide +kernel
theorem dd_M_moveUp_36 : decode cc_M_moveUp 36 = .ok (.iload_n 2, 1) := by decide +kernel
theorem dd_M_moveUp_37 : decode cc_M_moveUp 37 = .ok (.iaload, 1) := by decide +kernel
theorem dd_M_moveUp_38 : decode cc_M_moveUp 38 = .ok (.iconst 1, 1) := by decide +kernel
theorem dd_M_moveUp_39 : decode cc_M_moveUp 39 = .ok (.ishl, 1) := by decide +kernel
theorem dd_M_moveUp_40 : decode cc_M_moveUp 40 = .ok (.iload_n 3, 1) := by decide +kernel
theorem dd_M_moveUp_41 : decode cc_M_moveUp 41 = .ok (.bipush 7, 2) := by decide +kernel
theorem dd_M_moveUp_43 : decode cc_M_moveUp 43 = .ok (.iushr, 1) := by decide +kernel
theorem dd_M_moveUp_44 : decode cc_M_moveUp 44 = .ok (.ior, 1) := by decide +kernel
theorem dd_M_moveUp_45 : decode cc_M_moveUp 45 = .ok (.sipush 255, 3) := by decide +kernel
theorem dd_M_moveUp_48 : decode cc_M_moveUp 48 = .ok (.iand, 1) := by decide +kernel
theorem dd_M_moveUp_49 : decode cc_M_moveUp 49 = .ok (.iastore, 1) := by decide +kernel
theorem dd_M_moveUp_50 : decode cc_M_moveUp 50 = .ok (.iinc 2 1, 3) := by decide +kernel
theorem dd_M_moveUp_53 : decode cc_M_moveUp 53 = .ok (.goto (-44), 3) := by decide +kernel
theorem dd_M_moveUp_56 : decode cc_M_moveUp 56 = .ok (.aload_n 0, 1) := by decide +kernel
theorem dd_M_moveUp_57 : decode cc_M_moveUp 57 = .ok (.bipush 15, 2) := by decide +kernel
theorem dd_M_moveUp_59 : decode cc_M_moveUp 59 = .ok (.dup2, 1) := by decide +kernel
theorem dd_M_moveUp_60 : decode cc_M_moveUp 60 = .ok (.iaload, 1) := by decide +kernel
theorem dd_M_moveUp_61 : decode cc_M_moveUp 61 = .ok (.iload_n 1, 1) := by decide +kernel
theorem dd_M_moveUp_62 : decode cc_M_moveUp 62 = .ok (.sipush 135, 3) := by decide +kernel
theorem dd_M_moveUp_65 : decode cc_M_moveUp 65 = .ok (.imul, 1) := by decide +kernel
theorem dd_M_moveUp_66 : decode cc_M_moveUp 66 = .ok (.ixor, 1) := by decide +kernel
theorem dd_M_moveUp_67 : decode cc_M_moveUp 67 = .ok (.iastore, 1) := by decide +kernel
theorem dd_M_moveUp_68 : decode cc_M_moveUp 68 = .ok (.return_, 1) := by decide +kernel
theorem dd_V_init_0 : decode cc_V_init 0 = .ok (.aload_n 0, 1) := by decide +kernel
theorem dd_V_init_1 : decode cc_V_init 1 = .ok (.invokespecial 3, 3) := by decide +kernel
theorem dd_V_init_4 : decode cc_V_init 4 = .ok (.aload_n 0, 1) := by decide +kernel
theorem dd_V_init_5 : decode cc_V_init 5 = .ok (.iconst 3, 1) := by decide +kernel
theorem dd_V_init_6 : decode cc_V_init 6 = .ok (.anewarray 9, 3) := by decide +kernel
theorem dd_V_init_9 : decode cc_V_init 9 = .ok (.putfield 11, 3) := by decide +kernel
theorem dd_V_init_12 : decode cc_V_init 12 = .ok (.aload_n 0, 1) := by decide +kernel
theorem dd_V_init_13 : decode cc_V_init 13 = .ok (.new 17, 3) := by decide +kernel
theorem dd_V_init_16 : decode cc_V_init 16 = .ok (.dup, 1) := by decide +kernel
theorem dd_V_init_17 : decode cc_V_init 17 = .ok (.invokespecial 19, 3) := by decide +kernel
theorem dd_V_init_20 : decode cc_V_init 20 = .ok (.putfield 20, 3) := by decide +kernel
theorem dd_V_init_23 : decode cc_V_init 23 = .ok (.aload_n 0, 1) := by decide +kernel
theorem dd_V_init_24 : decode cc_V_init 24 = .ok (.iconst 0, 1) := by decide +kernel
theorem dd_V_init_25 : decode cc_V_init 25 = .ok (.putfield 24, 3) := by decide +kernel
theorem dd_V_init_28 : decode cc_V_init 28 = .ok (.iconst 0, 1) := by decide +kernel
theorem dd_V_init_29 : decode cc_V_init 29 = .ok (.istore_n 2, 1) := by decide +kernel
theorem dd_V_init_30 : decode cc_V_init 30 = .ok (.iload_n 2, 1) := by decide +kernel
theorem dd_V_init_31 : decode cc_V_init 31 = .ok (.iconst 3, 1) := by decide +kernel
theorem dd_V_init_32 : decode cc_V_init 32 = .ok (.if_icmp .ge 26, 3) := by decide +kernel
theorem dd_V_init_35 : decode cc_V_init 35 = .ok (.aload_n 0, 1) := by decide +kernel
theorem dd_V_init_36 : decode cc_V_init 36 = .ok (.getfield 11, 3) := by decide +kernel
theorem dd_V_init_39 : decode cc_V_init 39 = .ok (.iload_n 2, 1) := by decide +kernel
theorem dd_V_init_40 : decode cc_V_init 40 = .ok (.new 9, 3) := by decide +kernel
theorem dd_V_init_43 : decode cc_V_init 43 = .ok (.dup, 1) := by decide +kernel
theorem dd_V_init_44 : decode cc_V_init 44 = .ok (.iload_n 2, 1) := by decide +kernel
theorem dd_V_init_45 : decode cc_V_init 45 = .ok (.aload_n 1, 1) := by decide +kernel
theorem dd_V_init_46 : decode cc_V_init 46 = .ok (.iload_n 2, 1) := by decide +kernel
theorem dd_V_init_47 : decode cc_V_init 47 = .ok (.aaload, 1) := by decide +kernel
theorem dd_V_init_48 : decode cc_V_init 48 = .ok (.invokespecial 28, 3) := by decide +kernel
theorem dd_V_init_51 : decode cc_V_init 51 = .ok (.aastore, 1) := by decide +kernel
theorem dd_V_init_52 : decode cc_V_init 52 = .ok (.iinc 2 1, 3) := by decide +kernel
theorem dd_V_init_55 : decode cc_V_init 55 = .ok (.goto (-25), 3) := by decide +kernel
theorem dd_V_init_58 : decode cc_V_init 58 = .ok (.return_, 1) := by decide +kernel
theorem dd_V_takeJoin_0 : decode cc_V_takeJoin 0 = .ok (.aload_n 0, 1) := by decide +kernel
theorem dd_V_takeJoin_1 : decode cc_V_takeJoin 1 = .ok (.getfield 11, 3) := by decide +kernel
theorem dd_V_takeJoin_4 : decode cc_V_takeJoin 4 = .ok (.aload_n 1, 1) := by decide +kernel
theorem dd_V_takeJoin_5 : decode cc_V_takeJoin 5 = .ok (.getfield 31, 3) := by decide +kernel
theorem dd_V_takeJoin_8 : decode cc_V_takeJoin 8 = .ok (.bipush 9, 2) := by decide +kernel
theorem dd_V_takeJoin_10 : decode cc_V_takeJoin 10 = .ok (.iaload, 1) := by decide +kernel
theorem dd_V_takeJoin_11 : decode cc_V_takeJoin 11 = .ok (.aaload, 1) := by decide +kernel
theorem dd_V_takeJoin_12 : decode cc_V_takeJoin 12 = .ok (.astore_n 2, 1) := by decide +kernel
theorem dd_V_takeJoin_13 : decode cc_V_takeJoin 13 = .ok (.aload_n 1, 1) := by decide +kernel
theorem dd_V_takeJoin_14 : decode cc_V_takeJoin 14 = .ok (.getfield 31, 3) := by decide +kernel
theorem dd_V_takeJoin_17 : decode cc_V_takeJoin 17 = .ok (.bipush 17, 2) := by decide +kernel
theorem dd_V_takeJoin_19 : decode cc_V_takeJoin 19 = .ok (.iconst 2, 1) := by decide +kernel
theorem dd_V_takeJoin_20 : decode cc_V_takeJoin 20 = .ok (.invokestatic 35, 3) := by decide +kernel
theorem dd_V_takeJoin_23 : decode cc_V_takeJoin 23 = .ok (.istore_n 3, 1) := by decide +kernel
theorem dd_V_takeJoin_24 : decode cc_V_takeJoin 24 = .ok (.aload_n 1, 1) := by decide +kernel
theorem dd_V_takeJoin_25 : decode cc_V_takeJoin 25 = .ok (.getfield 31, 3) := by decide +kernel
theorem dd_V_takeJoin_28 : decode cc_V_takeJoin 28 = .ok (.bipush 19, 2) := by decide +kernel
theorem dd_V_takeJoin_30 : decode cc_V_takeJoin 30 = .ok (.iconst 4, 1) := by decide +kernel
theorem dd_V_takeJoin_31 : decode cc_V_takeJoin 31 = .ok (.invokestatic 35, 3) := by decide +kernel
theorem dd_V_takeJoin_34 : decode cc_V_takeJoin 34 = .ok (.istore 4, 2) := by decide +kernel
theorem dd_V_takeJoin_36 : decode cc_V_takeJoin 36 = .ok (.iload_n 3, 1) := by decide +kernel
theorem dd_V_takeJoin_37 : decode cc_V_takeJoin 37 = .ok (.aload_n 2, 1) := by decide +kernel
theorem dd_V_takeJoin_38 : decode cc_V_takeJoin 38 = .ok (.getfield 39, 3) := by decide +kernel
theorem dd_V_takeJoin_41 : decode cc_V_takeJoin 41 = .ok (.if_icmp .le 40, 3) := by decide +kernel
theorem dd_V_takeJoin_44 : decode cc_V_takeJoin 44 = .ok (.aload_n 2, 1) := by decide +kernel
theorem dd_V_takeJoin_45 : decode cc_V_takeJoin 45 = .ok (.getfield 42, 3) := by decide +kernel
theorem dd_V_takeJoin_48 : decode cc_V_takeJoin 48 = .ok (.aload_n 1, 1) := by decide +kernel
theorem dd_V_takeJoin_49 : decode cc_V_takeJoin 49 = .ok (.getfield 31, 3) := by decide +kernel
theorem dd_V_takeJoin_52 : decode cc_V_takeJoin 52 = .ok (.bipush 19, 2) := by decide +kernel
theorem dd_V_takeJoin_54 : decode cc_V_takeJoin 54 = .ok (.invokevirtual 46, 3) := by decide +kernel
theorem dd_V_takeJoin_57 : decode cc_V_takeJoin 57 = .ok (.iload 4, 2) := by decide +kernel
theorem dd_V_takeJoin_59 : decode cc_V_takeJoin 59 = .ok (.if_icmp .ne 22, 3) := by decide +kernel
theorem dd_V_takeJoin_62 : decode cc_V_takeJoin 62 = .ok (.aload_n 0, 1) := by decide +kernel
theorem dd_V_takeJoin_63 : decode cc_V_takeJoin 63 = .ok (.dup, 1) := by decide +kernel
theorem dd_V_takeJoin_64 : decode cc_V_takeJoin 64 = .ok (.getfield 24, 3) := by decide +kernel
theorem dd_V_takeJoin_67 : decode cc_V_takeJoin 67 = .ok (.iconst 1, 1) := by decide +kernel
theorem dd_V_takeJoin_68 : decode cc_V_takeJoin 68 = .ok (.iadd, 1) := by decide +kernel
theorem dd_V_takeJoin_69 : decode cc_V_takeJoin 69 = .ok (.putfield 24, 3) := by decide +kernel
theorem dd_V_takeJoin_72 : decode cc_V_takeJoin 72 = .ok (.aload_n 2, 1) := by decide +kernel
theorem dd_V_takeJoin_73 : decode cc_V_takeJoin 73 = .ok (.aload_n 0, 1) := by decide +kernel
theorem dd_V_takeJoin_74 : decode cc_V_takeJoin 74 = .ok (.getfield 24, 3) := by decide +kernel
theorem dd_V_takeJoin_77 : decode cc_V_takeJoin 77 = .ok (.iload_n 3, 1) := by decide +kernel
theorem dd_V_takeJoin_78 : decode cc_V_takeJoin 78 = .ok (.invokevirtual 52, 3) := by decide +kernel
theorem dd_V_takeJoin_81 : decode cc_V_takeJoin 81 = .ok (.return_, 1) := by decide +kernel
theorem dd_V_takeData_0 : decode cc_V_takeData 0 = .ok (.iconst 0, 1) := by decide +kernel
theorem dd_V_takeData_1 : decode cc_V_takeData 1 = .ok (.istore_n 3, 1) := by decide +kernel
theorem dd_V_takeData_2 : decode cc_V_takeData 2 = .ok (.iload_n 3, 1) := by decide +kernel
theorem dd_V_takeData_3 : decode cc_V_takeData 3 = .ok (.iconst 3, 1) := by decide +kernel
theorem dd_V_takeData_4 : decode cc_V_takeData 4 = .ok (.if_icmp .ge 51, 3) := by decide +kernel
theorem dd_V_takeData_7 : decode cc_V_takeData 7 = .ok (.aload_n 0, 1) := by decide +kernel
theorem dd_V_takeData_8 : decode cc_V_takeData 8 = .ok (.getfield 11, 3) := by decide +kernel
theorem dd_V_takeData_11 : decode cc_V_takeData 11 = .ok (.iload_n 3, 1) := by decide +kernel
theorem dd_V_takeData_12 : decode cc_V_takeData 12 = .ok (.aaload, 1) := by decide +kernel
theorem dd_V_takeData_13 : decode cc_V_takeData 13 = .ok (.getfield 56, 3) := by decide +kernel
theorem dd_V_takeData_16 : decode cc_V_takeData 16 = .ok (.ifCond .le 33, 3) := by decide +kernel
theorem dd_V_takeData_19 : decode cc_V_takeData 19 = .ok (.aload_n 0, 1) := by decide +kernel
theorem dd_V_takeData_20 : decode cc_V_takeData 20 = .ok (.getfield 11, 3) := by decide +kernel
theorem dd_V_takeData_23 : decode cc_V_takeData 23 = .ok (.iload_n 3, 1) := by decide +kernel
theorem dd_V_takeData_24 : decode cc_V_takeData 24 = .ok (.aaload, 1) := by decide +kernel
theorem dd_V_takeData_25 : decode cc_V_takeData 25 = .ok (.getfield 59, 3) := by decide +kernel
theorem dd_V_takeData_28 : decode cc_V_takeData 28 = .ok (.getfield 63, 3) := by decide +kernel
theorem dd_V_takeData_31 : decode cc_V_takeData 31 = .ok (.aload_n 1, 1) := by decide +kernel
theorem dd_V_takeData_32 : decode cc_V_takeData 32 = .ok (.invokevirtual 68, 3) := by decide +kernel
theorem dd_V_takeData_35 : decode cc_V_takeData 35 = .ok (.if_icmp .ne 14, 3) := by decide +kernel
theorem dd_V_takeData_38 : decode cc_V_takeData 38 = .ok (.aload_n 0, 1) := by decide +kernel
theorem dd_V_takeData_39 : decode cc_V_takeData 39 = .ok (.getfield 11, 3) := by decide +kernel
theorem dd_V_takeData_42 : decode cc_V_takeData 42 = .ok (.iload_n 3, 1) := by decide +kernel
theorem dd_V_takeData_43 : decode cc_V_takeData 43 = .ok (.aaload, 1) := by decide +kernel
theorem dd_V_takeData_44 : decode cc_V_takeData 44 = .ok (.aload_n 1, 1) := by decide +kernel
theorem dd_V_takeData_45 : decode cc_V_takeData 45 = .ok (.iload_n 2, 1) := by decide +kernel
theorem dd_V_takeData_46 : decode cc_V_takeData 46 = .ok (.invokevirtual 71, 3) := by decide +kernel
theorem dd_V_takeData_49 : decode cc_V_takeData 49 = .ok (.iinc 3 1, 3) := by decide +kernel
theorem dd_V_takeData_52 : decode cc_V_takeData 52 = .ok (.goto (-50), 3) := by decide +kernel
theorem dd_V_takeData_55 : decode cc_V_takeData 55 = .ok (.return_, 1) := by decide +kernel
theorem dd_V_sendWhatIsDue_0 : decode cc_V_sendWhatIsDue 0 = .ok (.iconst 0, 1) := by decide +kernel
theorem dd_V_sendWhatIsDue_1 : decode cc_V_sendWhatIsDue 1 = .ok (.istore_n 2, 1) := by decide +kernel
theorem dd_V_sendWhatIsDue_2 : decode cc_V_sendWhatIsDue 2 = .ok (.iload_n 2, 1) := by decide +kernel
theorem dd_V_sendWhatIsDue_3 : decode cc_V_sendWhatIsDue 3 = .ok (.iconst 3, 1) := by decide +kernel
theorem dd_V_sendWhatIsDue_4 : decode cc_V_sendWhatIsDue 4 = .ok (.if_icmp .ge 74, 3) := by decide +kernel
theorem dd_V_sendWhatIsDue_7 : decode cc_V_sendWhatIsDue 7 = .ok (.aload_n 0, 1) := by decide +kernel
theorem dd_V_sendWhatIsDue_8 : decode cc_V_sendWhatIsDue 8 = .ok (.getfield 11, 3) := by decide +kernel
theorem dd_V_sendWhatIsDue_11 : decode cc_V_sendWhatIsDue 11 = .ok (.iload_n 2, 1) := by decide +kernel
theorem dd_V_sendWhatIsDue_12 : decode cc_V_sendWhatIsDue 12 = .ok (.aaload, 1) := by decide +kernel
theorem dd_V_sendWhatIsDue_13 : decode cc_V_sendWhatIsDue 13 = .ok (.astore_n 3, 1) := by decide +kernel
theorem dd_V_sendWhatIsDue_14 : decode cc_V_sendWhatIsDue 14 = .ok (.aload_n 3, 1) := by decide +kernel
theorem dd_V_sendWhatIsDue_15 : decode cc_V_sendWhatIsDue 15 = .ok (.getfield 75, 3) := by decide +kernel
theorem dd_V_sendWhatIsDue_18 : decode cc_V_sendWhatIsDue 18 = .ok (.iconst 1, 1) := by decide +kernel
theorem dd_V_sendWhatIsDue_19 : decode cc_V_sendWhatIsDue 19 = .ok (.if_icmp .ne 22, 3) := by decide +kernel
theorem dd_V_sendWhatIsDue_22 : decode cc_V_sendWhatIsDue 22 = .ok (.aload_n 3, 1) := by decide +kernel
theorem dd_V_sendWhatIsDue_23 : decode cc_V_sendWhatIsDue 23 = .ok (.aload_n 0, 1) := by decide +kernel
theorem dd_V_sendWhatIsDue_24 : decode cc_V_sendWhatIsDue 24 = .ok (.getfield 20, 3) := by decide +kernel
theorem dd_V_sendWhatIsDue_27 : decode cc_V_sendWhatIsDue 27 = .ok (.invokevirtual 78, 3) := by decide +kernel
theorem dd_V_sendWhatIsDue_30 : decode cc_V_sendWhatIsDue 30 = .ok (.aload_n 1, 1) := by decide +kernel
theorem dd_V_sendWhatIsDue_31 : decode cc_V_sendWhatIsDue 31 = .ok (.aload_n 0, 1) := by decide +kernel
theorem dd_V_sendWhatIsDue_32 : decode cc_V_sendWhatIsDue 32 = .ok (.getfield 20, 3) := by decide +kernel
theorem dd_V_sendWhatIsDue_35 : decode cc_V_sendWhatIsDue 35 = .ok (.invokevirtual 82, 3) := by decide +kernel
theorem dd_V_sendWhatIsDue_38 : decode cc_V_sendWhatIsDue 38 = .ok (.goto 27, 3) := by decide +kernel
theorem dd_V_sendWhatIsDue_41 : decode cc_V_sendWhatIsDue 41 = .ok (.aload_n 3, 1) := by decide +kernel
theorem dd_V_sendWhatIsDue_42 : decode cc_V_sendWhatIsDue 42 = .ok (.getfield 75, 3) := by decide +kernel
theorem dd_V_sendWhatIsDue_45 : decode cc_V_sendWhatIsDue 45 = .ok (.iconst 2, 1) := by decide +kernel
theorem dd_V_sendWhatIsDue_46 : decode cc_V_sendWhatIsDue 46 = .ok (.if_icmp .ne 19, 3) := by decide +kernel
theorem dd_V_sendWhatIsDue_49 : decode cc_V_sendWhatIsDue 49 = .ok (.aload_n 3, 1) := by decide +kernel
theorem dd_V_sendWhatIsDue_50 : decode cc_V_sendWhatIsDue 50 = .ok (.aload_n 0, 1) := by decide +kernel
theorem dd_V_sendWhatIsDue_51 : decode cc_V_sendWhatIsDue 51 = .ok (.getfield 20, 3) := by decide +kernel
theorem dd_V_sendWhatIsDue_54 : decode cc_V_sendWhatIsDue 54 = .ok (.invokevirtual 87, 3) := by decide +kernel
theorem dd_V_sendWhatIsDue_57 : decode cc_V_sendWhatIsDue 57 = .ok (.aload_n 1, 1) := by decide +kernel
theorem dd_V_sendWhatIsDue_58 : decode cc_V_sendWhatIsDue 58 = .ok (.aload_n 0, 1) := by decide +kernel
theorem dd_V_sendWhatIsDue_59 : decode cc_V_sendWhatIsDue 59 = .ok (.getfield 20, 3) := by decide +kernel
theorem dd_V_sendWhatIsDue_62 : decode cc_V_sendWhatIsDue 62 = .ok (.invokevirtual 82, 3) := by decide +kernel
theorem dd_V_sendWhatIsDue_65 : decode cc_V_sendWhatIsDue 65 = .ok (.aload_n 3, 1) := by decide +kernel
theorem dd_V_sendWhatIsDue_66 : decode cc_V_sendWhatIsDue 66 = .ok (.iconst 0, 1) := by decide +kernel
theorem dd_V_sendWhatIsDue_67 : decode cc_V_sendWhatIsDue 67 = .ok (.iconst 0, 1) := by decide +kernel
theorem dd_V_sendWhatIsDue_68 : decode cc_V_sendWhatIsDue 68 = .ok (.iconst 0, 1) := by decide +kernel
theorem dd_V_sendWhatIsDue_69 : decode cc_V_sendWhatIsDue 69 = .ok (.invokevirtual 90, 3) := by decide +kernel
theorem dd_V_sendWhatIsDue_72 : decode cc_V_sendWhatIsDue 72 = .ok (.iinc 2 1, 3) := by decide +kernel
theorem dd_V_sendWhatIsDue_75 : decode cc_V_sendWhatIsDue 75 = .ok (.goto (-73), 3) := by decide +kernel
theorem dd_V_sendWhatIsDue_78 : decode cc_V_sendWhatIsDue 78 = .ok (.return_, 1) := by decide +kernel
theorem dd_S_init_0 : decode cc_S_init 0 = .ok (.aload_n 0, 1) := by decide +kernel
theorem dd_S_init_1 : decode cc_S_init 1 = .ok (.invokespecial 3, 3) := by decide +kernel
theorem dd_S_init_4 : decode cc_S_init 4 = .ok (.aload_n 0, 1) := by decide +kernel
theorem dd_S_init_5 : decode cc_S_init 5 = .ok (.new 9, 3) := by decide +kernel
theorem dd_S_init_8 : decode cc_S_init 8 = .ok (.dup, 1) := by decide +kernel
theorem dd_S_init_9 : decode cc_S_init 9 = .ok (.invokespecial 11, 3) := by decide +kernel
theorem dd_S_init_12 : decode cc_S_init 12 = .ok (.putfield 12, 3) := by decide +kernel
theorem dd_S_init_15 : decode cc_S_init 15 = .ok (.aload_n 0, 1) := by decide +kernel
theorem dd_S_init_16 : decode cc_S_init 16 = .ok (.new 18, 3) := by decide +kernel
theorem dd_S_init_19 : decode cc_S_init 19 = .ok (.dup, 1) := by decide +kernel
theorem dd_S_init_20 : decode cc_S_init 20 = .ok (.invokespecial 20, 3) := by decide +kernel
theorem dd_S_init_23 : decode cc_S_init 23 = .ok (.putfield 21, 3) := by decide +kernel
theorem dd_S_init_26 : decode cc_S_init 26 = .ok (.aload_n 0, 1) := by decide +kernel
theorem dd_S_init_27 : decode cc_S_init 27 = .ok (.bipush 40, 2) := by decide +kernel
theorem dd_S_init_29 : decode cc_S_init 29 = .ok (.newarray .int, 2) := by decide +kernel
theorem dd_S_init_31 : decode cc_S_init 31 = .ok (.putfield 27, 3) := by decide +kernel
theorem dd_S_init_34 : decode cc_S_init 34 = .ok (.aload_n 0, 1) := by decide +kernel
theorem dd_S_init_35 : decode cc_S_init 35 = .ok (.bipush 16, 2) := by decide +kernel
theorem dd_S_init_37 : decode cc_S_init 37 = .ok (.newarray .int, 2) := by decide +kernel
theorem dd_S_init_39 : decode cc_S_init 39 = .ok (.putfield 31, 3) := by decide +kernel
theorem dd_S_init_42 : decode cc_S_init 42 = .ok (.aload_n 0, 1) := by decide +kernel
theorem dd_S_init_43 : decode cc_S_init 43 = .ok (.iconst 0, 1) := by decide +kernel
theorem dd_S_init_44 : decode cc_S_init 44 = .ok (.putfield 34, 3) := by decide +kernel
theorem dd_S_init_47 : decode cc_S_init 47 = .ok (.return_, 1) := by decide +kernel
theorem dd_S_open_0 : decode cc_S_open 0 = .ok (.aload_n 0, 1) := by decide +kernel
theorem dd_S_open_1 : decode cc_S_open 1 = .ok (.iload_n 3, 1) := by decide +kernel
theorem dd_S_open_2 : decode cc_S_open 2 = .ok (.putfield 34, 3) := by decide +kernel
theorem dd_S_open_5 : decode cc_S_open 5 = .ok (.aload_n 0, 1) := by decide +kernel
theorem dd_S_open_6 : decode cc_S_open 6 = .ok (.aload_n 1, 1) := by decide +kernel
theorem dd_S_open_7 : decode cc_S_open 7 = .ok (.iconst 1, 1) := by decide +kernel
theorem dd_S_open_8 : decode cc_S_open 8 = .ok (.iload_n 2, 1) := by decide +kernel
theorem dd_S_open_9 : decode cc_S_open 9 = .ok (.iload 4, 2) := by decide +kernel
theorem dd_S_open_11 : decode cc_S_open 11 = .ok (.invokevirtual 38, 3) := by decide +kernel
theorem dd_S_open_14 : decode cc_S_open 14 = .ok (.aload_n 0, 1) := by decide +kernel
theorem dd_S_open_15 : decode cc_S_open 15 = .ok (.getfield 12, 3) := by decide +kernel
theorem dd_S_open_18 : decode cc_S_open 18 = .ok (.aload_n 0, 1) := by decide +kernel
theorem dd_S_open_19 : decode cc_S_open 19 = .ok (.getfield 31, 3) := by decide +kernel
theorem dd_S_open_22 : decode cc_S_open 22 = .ok (.invokevirtual 42, 3) := by decide +kernel
theorem dd_S_open_25 : decode cc_S_open 25 = .ok (.aload_n 0, 1) := by decide +kernel
theorem dd_S_open_26 : decode cc_S_open 26 = .ok (.aload_n 1, 1) := by decide +kernel
theorem dd_S_open_27 : decode cc_S_open 27 = .ok (.iconst 2, 1) := by decide +kernel
theorem dd_S_open_28 : decode cc_S_open 28 = .ok (.iload_n 2, 1) := by decide +kernel
theorem dd_S_open_29 : decode cc_S_open 29 = .ok (.iload 4, 2) := by decide +kernel
theorem dd_S_open_31 : decode cc_S_open 31 = .ok (.invokevirtual 38, 3) := by decide +kernel
theorem dd_S_open_34 : decode cc_S_open 34 = .ok (.aload_n 0, 1) := by decide +kernel
theorem dd_S_open_35 : decode cc_S_open 35 = .ok (.getfield 21, 3) := by decide +kernel
theorem dd_S_open_38 : decode cc_S_open 38 = .ok (.aload_n 0, 1) := by decide +kernel
theorem dd_S_open_39 : decode cc_S_open 39 = .ok (.getfield 31, 3) := by decide +kernel
theorem dd_S_open_42 : decode cc_S_open 42 = .ok (.invokevirtual 46, 3) := by decide +kernel
theorem dd_S_open_45 : decode cc_S_open 45 = .ok (.return_, 1) := by decide +kernel
theorem dd_S_begin_0 : decode cc_S_begin 0 = .ok (.aload_n 1, 1) := by decide +kernel
theorem dd_S_begin_1 : decode cc_S_begin 1 = .ok (.iload_n 2, 1) := by decide +kernel
theorem dd_S_begin_2 : decode cc_S_begin 2 = .ok (.iload_n 3, 1) := by decide +kernel
theorem dd_S_begin_3 : decode cc_S_begin 3 = .ok (.invokevirtual 47, 3) := by decide +kernel
theorem dd_S_begin_6 : decode cc_S_begin 6 = .ok (.aload_n 1, 1) := by decide +kernel
theorem dd_S_begin_7 : decode cc_S_begin 7 = .ok (.aload_n 0, 1) := by decide +kernel
theorem dd_S_begin_8 : decode cc_S_begin 8 = .ok (.getfield 34, 3) := by decide +kernel
theorem dd_S_begin_11 : decode cc_S_begin 11 = .ok (.iconst 4, 1) := by decide +kernel
theorem dd_S_begin_12 : decode cc_S_begin 12 = .ok (.invokevirtual 51, 3) := by decide +kernel
theorem dd_S_begin_15 : decode cc_S_begin 15 = .ok (.aload_n 1, 1) := by decide +kernel
theorem dd_S_begin_16 : decode cc_S_begin 16 = .ok (.iload 4, 2) := by decide +kernel
theorem dd_S_begin_18 : decode cc_S_begin 18 = .ok (.iconst 1, 1) := by decide +kernel
theorem dd_S_begin_19 : decode cc_S_begin 19 = .ok (.invokevirtual 51, 3) := by decide +kernel
theorem dd_S_begin_22 : decode cc_S_begin 22 = .ok (.aload_n 1, 1) := by decide +kernel
theorem dd_S_begin_23 : decode cc_S_begin 23 = .ok (.iload 5, 2) := by decide +kernel
theorem dd_S_begin_25 : decode cc_S_begin 25 = .ok (.iconst 2, 1) := by decide +kernel
theorem dd_S_begin_26 : decode cc_S_begin 26 = .ok (.invokevirtual 51, 3) := by decide +kernel
theorem dd_S_begin_29 : decode cc_S_begin 29 = .ok (.return_, 1) := by decide +kernel
theorem dd_S_finish_0 : decode cc_S_finish 0 = .ok (.iload 6, 2) := by decide +kernel
theorem dd_S_finish_2 : decode cc_S_finish 2 = .ok (.ifCond .le 50, 3) := by decide +kernel
theorem dd_S_finish_5 : decode cc_S_finish 5 = .ok (.aload_n 1, 1) := by decide +kernel
theorem dd_S_finish_6 : decode cc_S_finish 6 = .ok (.iconst 1, 1) := by decide +kernel
theorem dd_S_finish_7 : decode cc_S_finish 7 = .ok (.iconst 1, 1) := by decide +kernel
theorem dd_S_finish_8 : decode cc_S_finish 8 = .ok (.invokevirtual 51, 3) := by decide +kernel
theorem dd_S_finish_11 : decode cc_S_finish 11 = .ok (.lload 4, 2) := by decide +kernel
theorem dd_S_finish_13 : decode cc_S_finish 13 = .ok (.aload_n 0, 1) := by decide +kernel
theorem dd_S_finish_14 : decode cc_S_finish 14 = .ok (.iload_n 2, 1) := by decide +kernel
theorem dd_S_finish_15 : decode cc_S_finish 15 = .ok (.iload_n 3, 1) := by decide +kernel
theorem dd_S_finish_16 : decode cc_S_finish 16 = .ok (.invokevirtual 54, 3) := by decide +kernel
theorem dd_S_finish_19 : decode cc_S_finish 19 = .ok (.lxor, 1) := by decide +kernel
theorem dd_S_finish_20 : decode cc_S_finish 20 = .ok (.lstore 7, 2) := by decide +kernel
theorem dd_S_finish_22 : decode cc_S_finish 22 = .ok (.iconst 0, 1) := by decide +kernel
theorem dd_S_finish_23 : decode cc_S_finish 23 = .ok (.istore 9, 2) := by decide +kernel
theorem dd_S_finish_25 : decode cc_S_finish 25 = .ok (.iload 9, 2) := by decide +kernel
theorem dd_S_finish_27 : decode cc_S_finish 27 = .ok (.iload 6, 2) := by decide +kernel
theorem dd_S_finish_29 : decode cc_S_finish 29 = .ok (.if_icmp .ge 23, 3) := by decide +kernel
theorem dd_S_finish_32 : decode cc_S_finish 32 = .ok (.aload_n 1, 1) := by decide +kernel
theorem dd_S_finish_33 : decode cc_S_finish 33 = .ok (.lload 7, 2) := by decide +kernel
theorem dd_S_finish_35 : decode cc_S_finish 35 = .ok (.bipush 8, 2) := by decide +kernel
theorem dd_S_finish_37 : decode cc_S_finish 37 = .ok (.iload 9, 2) := by decide +kernel
theorem dd_S_finish_39 : decode cc_S_finish 39 = .ok (.imul, 1) := by decide +kernel
theorem dd_S_finish_40 : decode cc_S_finish 40 = .ok (.lushr, 1) := by decide +kernel
theorem dd_S_finish_41 : decode cc_S_finish 41 = .ok (.l2i, 1) := by decide +kernel
theorem dd_S_finish_42 : decode cc_S_finish 42 = .ok (.iconst 1, 1) := by decide +kernel
theorem dd_S_finish_43 : decode cc_S_finish 43 = .ok (.invokevirtual 51, 3) := by decide +kernel
theorem dd_S_finish_46 : decode cc_S_finish 46 = .ok (.iinc 9 1, 3) := by decide +kernel
theorem dd_S_finish_49 : decode cc_S_finish 49 = .ok (.goto (-24), 3) := by decide +kernel
theorem dd_S_finish_52 : decode cc_S_finish 52 = .ok (.aload_n 1, 1) := by decide +kernel
theorem dd_S_finish_53 : decode cc_S_finish 53 = .ok (.getfield 58, 3) := by decide +kernel
theorem dd_S_finish_56 : decode cc_S_finish 56 = .ok (.istore 7, 2) := by decide +kernel
theorem dd_S_finish_58 : decode cc_S_finish 58 = .ok (.aload_n 0, 1) := by decide +kernel
theorem dd_S_finish_59 : decode cc_S_finish 59 = .ok (.aload_n 1, 1) := by decide +kernel
theorem dd_S_finish_60 : decode cc_S_finish 60 = .ok (.iload 7, 2) := by decide +kernel
theorem dd_S_finish_62 : decode cc_S_finish 62 = .ok (.iload_n 2, 1) := by decide +kernel
theorem dd_S_finish_63 : decode cc_S_finish 63 = .ok (.iload_n 3, 1) := by decide +kernel
theorem dd_S_finish_64 : decode cc_S_finish 64 = .ok (.invokevirtual 61, 3) := by decide +kernel
theorem dd_S_finish_67 : decode cc_S_finish 67 = .ok (.aload_n 1, 1) := by decide +kernel
theorem dd_S_finish_68 : decode cc_S_finish 68 = .ok (.aload_n 0, 1) := by decide +kernel
theorem dd_S_finish_69 : decode cc_S_finish 69 = .ok (.getfield 12, 3) := by decide +kernel
theorem dd_S_finish_72 : decode cc_S_finish 72 = .ok (.aload_n 0, 1) := by decide +kernel
theorem dd_S_finish_73 : decode cc_S_finish 73 = .ok (.getfield 27, 3) := by decide +kernel
theorem dd_S_finish_76 : decode cc_S_finish 76 = .ok (.bipush 16, 2) := by decide +kernel
theorem dd_S_finish_78 : decode cc_S_finish 78 = .ok (.iload 7, 2) := by decide +kernel
theorem dd_S_finish_80 : decode cc_S_finish 80 = .ok (.iadd, 1) := by decide +kernel
theorem dd_S_finish_81 : decode cc_S_finish 81 = .ok (.invokevirtual 65, 3) := by decide +kernel
theorem dd_S_finish_84 : decode cc_S_finish 84 = .ok (.iconst 4, 1) := by decide +kernel
theorem dd_S_finish_85 : decode cc_S_finish 85 = .ok (.invokevirtual 51, 3) := by decide +kernel
theorem dd_S_finish_88 : decode cc_S_finish 88 = .ok (.return_, 1) := by decide +kernel
theorem dd_S_isCodeRight_0 : decode cc_S_isCodeRight 0 = .ok (.aload_n 1, 1) := by decide +kernel
theorem dd_S_isCodeRight_1 : decode cc_S_isCodeRight 1 = .ok (.getfield 58, 3) := by decide +kernel
theorem dd_S_isCodeRight_4 : decode cc_S_isCodeRight 4 = .ok (.iconst 4, 1) := by decide +kernel
theorem dd_S_isCodeRight_5 : decode cc_S_isCodeRight 5 = .ok (.isub, 1) := by decide +kernel
theorem dd_S_isCodeRight_6 : decode cc_S_isCodeRight 6 = .ok (.istore 4, 2) := by decide +kernel
theorem dd_S_isCodeRight_8 : decode cc_S_isCodeRight 8 = .ok (.aload_n 0, 1) := by decide +kernel
theorem dd_S_isCodeRight_9 : decode cc_S_isCodeRight 9 = .ok (.aload_n 1, 1) := by decide +kernel
theorem dd_S_isCodeRight_10 : decode cc_S_isCodeRight 10 = .ok (.iload 4, 2) := by decide +kernel
theorem dd_S_isCodeRight_12 : decode cc_S_isCodeRight 12 = .ok (.iload_n 2, 1) := by decide +kernel
theorem dd_S_isCodeRight_13 : decode cc_S_isCodeRight 13 = .ok (.iload_n 3, 1) := by decide +kernel
theorem dd_S_isCodeRight_14 : decode cc_S_isCodeRight 14 = .ok (.invokevirtual 61, 3) := by decide +kernel
theorem dd_S_isCodeRight_17 : decode cc_S_isCodeRight 17 = .ok (.aload_n 0, 1) := by decide +kernel
theorem dd_S_isCodeRight_18 : decode cc_S_isCodeRight 18 = .ok (.getfield 12, 3) := by decide +kernel
theorem dd_S_isCodeRight_21 : decode cc_S_isCodeRight 21 = .ok (.aload_n 0, 1) := by decide +kernel
theorem dd_S_isCodeRight_22 : decode cc_S_isCodeRight 22 = .ok (.getfield 27, 3) := by decide +kernel
theorem dd_S_isCodeRight_25 : decode cc_S_isCodeRight 25 = .ok (.bipush 16, 2) := by decide +kernel
theorem dd_S_isCodeRight_27 : decode cc_S_isCodeRight 27 = .ok (.iload 4, 2) := by decide +kernel
theorem dd_S_isCodeRight_29 : decode cc_S_isCodeRight 29 = .ok (.iadd, 1) := by decide +kernel
theorem dd_S_isCodeRight_30 : decode cc_S_isCodeRight 30 = .ok (.invokevirtual 65, 3) := by decide +kernel
theorem dd_S_isCodeRight_33 : decode cc_S_isCodeRight 33 = .ok (.aload_n 1, 1) := by decide +kernel
theorem dd_S_isCodeRight_34 : decode cc_S_isCodeRight 34 = .ok (.getfield 69, 3) := by decide +kernel
theorem dd_S_isCodeRight_37 : decode cc_S_isCodeRight 37 = .ok (.iload 4, 2) := by decide +kernel
theorem dd_S_isCodeRight_39 : decode cc_S_isCodeRight 39 = .ok (.iconst 4, 1) := by decide +kernel
theorem dd_S_isCodeRight_40 : decode cc_S_isCodeRight 40 = .ok (.invokestatic 72, 3) := by decide +kernel
theorem dd_S_isCodeRight_43 : decode cc_S_isCodeRight 43 = .ok (.if_icmp .ne 7, 3) := by decide +kernel
theorem dd_S_isCodeRight_46 : decode cc_S_isCodeRight 46 = .ok (.iconst 1, 1) := by decide +kernel
theorem dd_S_isCodeRight_47 : decode cc_S_isCodeRight 47 = .ok (.goto 4, 3) := by decide +kernel
theorem dd_S_isCodeRight_50 : decode cc_S_isCodeRight 50 = .ok (.iconst 0, 1) := by decide +kernel
theorem dd_S_isCodeRight_51 : decode cc_S_isCodeRight 51 = .ok (.ireturn, 1) := by decide +kernel
theorem dd_S_readPayload_0 : decode cc_S_readPayload 0 = .ok (.aload_n 1, 1) := by decide +kernel
theorem dd_S_readPayload_1 : decode cc_S_readPayload 1 = .ok (.invokevirtual 76, 3) := by decide +kernel
theorem dd_S_readPayload_4 : decode cc_S_readPayload 4 = .ok (.istore 4, 2) := by decide +kernel
theorem dd_S_readPayload_6 : decode cc_S_readPayload 6 = .ok (.aload_n 1, 1) := by decide +kernel
theorem dd_S_readPayload_7 : decode cc_S_readPayload 7 = .ok (.invokevirtual 80, 3) := by decide +kernel
theorem dd_S_readPayload_10 : decode cc_S_readPayload 10 = .ok (.istore 5, 2) := by decide +kernel
theorem dd_S_readPayload_12 : decode cc_S_readPayload 12 = .ok (.lconst 0, 1) := by decide +kernel
theorem dd_S_readPayload_13 : decode cc_S_readPayload 13 = .ok (.lstore 6, 2) := by decide +kernel
theorem dd_S_readPayload_15 : decode cc_S_readPayload 15 = .ok (.iconst 0, 1) := by decide +kernel
theorem dd_S_readPayload_16 : decode cc_S_readPayload 16 = .ok (.istore 8, 2) := by decide +kernel
theorem dd_S_readPayload_18 : decode cc_S_readPayload 18 = .ok (.iload 8, 2) := by decide +kernel
theorem dd_S_readPayload_20 : decode cc_S_readPayload 20 = .ok (.iload 4, 2) := by decide +kernel
theorem dd_S_readPayload_22 : decode cc_S_readPayload 22 = .ok (.if_icmp .ge 31, 3) := by decide +kernel
theorem dd_S_readPayload_25 : decode cc_S_readPayload 25 = .ok (.lload 6, 2) := by decide +kernel
theorem dd_S_readPayload_27 : decode cc_S_readPayload 27 = .ok (.aload_n 1, 1) := by decide +kernel
theorem dd_S_readPayload_28 : decode cc_S_readPayload 28 = .ok (.getfield 69, 3) := by decide +kernel
theorem dd_S_readPayload_31 : decode cc_S_readPayload 31 = .ok (.iload 5, 2) := by decide +kernel
theorem dd_S_readPayload_33 : decode cc_S_readPayload 33 = .ok (.iload 8, 2) := by decide +kernel
theorem dd_S_readPayload_35 : decode cc_S_readPayload 35 = .ok (.iadd, 1) := by decide +kernel
theorem dd_S_readPayload_36 : decode cc_S_readPayload 36 = .ok (.iaload, 1) := by decide +kernel
theorem dd_S_readPayload_37 : decode cc_S_readPayload 37 = .ok (.i2l, 1) := by decide +kernel
theorem dd_S_readPayload_38 : decode cc_S_readPayload 38 = .ok (.bipush 8, 2) := by decide +kernel
theorem dd_S_readPayload_40 : decode cc_S_readPayload 40 = .ok (.iload 8, 2) := by decide +kernel
theorem dd_S_readPayload_42 : decode cc_S_readPayload 42 = .ok (.imul, 1) := by decide +kernel
theorem dd_S_readPayload_43 : decode cc_S_readPayload 43 = .ok (.lshl, 1) := by decide +kernel
theorem dd_S_readPayload_44 : decode cc_S_readPayload 44 = .ok (.lor, 1) := by decide +kernel
theorem dd_S_readPayload_45 : decode cc_S_readPayload 45 = .ok (.lstore 6, 2) := by decide +kernel
theorem dd_S_readPayload_47 : decode cc_S_readPayload 47 = .ok (.iinc 8 1, 3) := by decide +kernel
theorem dd_S_readPayload_50 : decode cc_S_readPayload 50 = .ok (.goto (-32), 3) := by decide +kernel
theorem dd_S_readPayload_53 : decode cc_S_readPayload 53 = .ok (.lload 6, 2) := by decide +kernel
theorem dd_S_readPayload_55 : decode cc_S_readPayload 55 = .ok (.aload_n 0, 1) := by decide +kernel
theorem dd_S_readPayload_56 : decode cc_S_readPayload 56 = .ok (.iload_n 2, 1) := by decide +kernel
theorem dd_S_readPayload_57 : decode cc_S_readPayload 57 = .ok (.iload_n 3, 1) := by decide +kernel
theorem dd_S_readPayload_58 : decode cc_S_readPayload 58 = .ok (.invokevirtual 54, 3) := by decide +kernel
theorem dd_S_readPayload_61 : decode cc_S_readPayload 61 = .ok (.lxor, 1) := by decide +kernel
theorem dd_S_readPayload_62 : decode cc_S_readPayload 62 = .ok (.iload 4, 2) := by decide +kernel
theorem dd_S_readPayload_64 : decode cc_S_readPayload 64 = .ok (.invokestatic 83, 3) := by decide +kernel
theorem dd_S_readPayload_67 : decode cc_S_readPayload 67 = .ok (.lreturn, 1) := by decide +kernel
theorem dd_S_deriveKey_0 : decode cc_S_deriveKey 0 = .ok (.aload_n 0, 1) := by decide +kernel
theorem dd_S_deriveKey_1 : decode cc_S_deriveKey 1 = .ok (.getfield 31, 3) := by decide +kernel
theorem dd_S_deriveKey_4 : decode cc_S_deriveKey 4 = .ok (.iconst 0, 1) := by decide +kernel
theorem dd_S_deriveKey_5 : decode cc_S_deriveKey 5 = .ok (.invokestatic 87, 3) := by decide +kernel
theorem dd_S_deriveKey_8 : decode cc_S_deriveKey 8 = .ok (.aload_n 0, 1) := by decide +kernel
theorem dd_S_deriveKey_9 : decode cc_S_deriveKey 9 = .ok (.getfield 31, 3) := by decide +kernel
theorem dd_S_deriveKey_12 : decode cc_S_deriveKey 12 = .ok (.iconst 0, 1) := by decide +kernel
theorem dd_S_deriveKey_13 : decode cc_S_deriveKey 13 = .ok (.iload_n 2, 1) := by decide +kernel
theorem dd_S_deriveKey_14 : decode cc_S_deriveKey 14 = .ok (.iastore, 1) := by decide +kernel
theorem dd_S_deriveKey_15 : decode cc_S_deriveKey 15 = .ok (.aload_n 0, 1) := by decide +kernel
theorem dd_S_deriveKey_16 : decode cc_S_deriveKey 16 = .ok (.getfield 31, 3) := by decide +kernel
theorem dd_S_deriveKey_19 : decode cc_S_deriveKey 19 = .ok (.iconst 1, 1) := by decide +kernel
theorem dd_S_deriveKey_20 : decode cc_S_deriveKey 20 = .ok (.iload_n 3, 1) := by decide +kernel
theorem dd_S_deriveKey_21 : decode cc_S_deriveKey 21 = .ok (.iconst 3, 1) := by decide +kernel
theorem dd_S_deriveKey_22 : decode cc_S_deriveKey 22 = .ok (.invokestatic 93, 3) := by decide +kernel
theorem dd_S_deriveKey_25 : decode cc_S_deriveKey 25 = .ok (.aload_n 0, 1) := by decide +kernel
theorem dd_S_deriveKey_26 : decode cc_S_deriveKey 26 = .ok (.getfield 31, 3) := by decide +kernel
theorem dd_S_deriveKey_29 : decode cc_S_deriveKey 29 = .ok (.iconst 4, 1) := by decide +kernel
theorem dd_S_deriveKey_30 : decode cc_S_deriveKey 30 = .ok (.bipush 19, 2) := by decide +kernel
theorem dd_S_deriveKey_32 : decode cc_S_deriveKey 32 = .ok (.iastore, 1) := by decide +kernel
theorem dd_S_deriveKey_33 : decode cc_S_deriveKey 33 = .ok (.aload_n 0, 1) := by decide +kernel
theorem dd_S_deriveKey_34 : decode cc_S_deriveKey 34 = .ok (.getfield 31, 3) := by decide +kernel
theorem dd_S_deriveKey_37 : decode cc_S_deriveKey 37 = .ok (.bipush 7, 2) := by decide +kernel
theorem dd_S_deriveKey_39 : decode cc_S_deriveKey 39 = .ok (.iload 4, 2) := by decide +kernel
theorem dd_S_deriveKey_41 : decode cc_S_deriveKey 41 = .ok (.iconst 2, 1) := by decide +kernel
theorem dd_S_deriveKey_42 : decode cc_S_deriveKey 42 = .ok (.invokestatic 93, 3) := by decide +kernel
theorem dd_S_deriveKey_45 : decode cc_S_deriveKey 45 = .ok (.aload_n 1, 1) := by decide +kernel
theorem dd_S_deriveKey_46 : decode cc_S_deriveKey 46 = .ok (.aload_n 0, 1) := by decide +kernel
theorem dd_S_deriveKey_47 : decode cc_S_deriveKey 47 = .ok (.getfield 31, 3) := by decide +kernel
theorem dd_S_deriveKey_50 : decode cc_S_deriveKey 50 = .ok (.iconst 0, 1) := by decide +kernel
theorem dd_S_deriveKey_51 : decode cc_S_deriveKey 51 = .ok (.invokevirtual 97, 3) := by decide +kernel
theorem dd_S_deriveKey_54 : decode cc_S_deriveKey 54 = .ok (.return_, 1) := by decide +kernel
theorem dd_S_layRow_0 : decode cc_S_layRow 0 = .ok (.aload_n 0, 1) := by decide +kernel
theorem dd_S_layRow_1 : decode cc_S_layRow 1 = .ok (.bipush 73, 2) := by decide +kernel
theorem dd_S_layRow_3 : decode cc_S_layRow 3 = .ok (.iload_n 3, 1) := by decide +kernel
theorem dd_S_layRow_4 : decode cc_S_layRow 4 = .ok (.iload 4, 2) := by decide +kernel
theorem dd_S_layRow_6 : decode cc_S_layRow 6 = .ok (.iload_n 2, 1) := by decide +kernel
theorem dd_S_layRow_7 : decode cc_S_layRow 7 = .ok (.invokevirtual 100, 3) := by decide +kernel
theorem dd_S_layRow_10 : decode cc_S_layRow 10 = .ok (.aload_n 1, 1) := by decide +kernel
theorem dd_S_layRow_11 : decode cc_S_layRow 11 = .ok (.getfield 69, 3) := by decide +kernel
theorem dd_S_layRow_14 : decode cc_S_layRow 14 = .ok (.iconst 0, 1) := by decide +kernel
theorem dd_S_layRow_15 : decode cc_S_layRow 15 = .ok (.aload_n 0, 1) := by decide +kernel
theorem dd_S_layRow_16 : decode cc_S_layRow 16 = .ok (.getfield 27, 3) := by decide +kernel
theorem dd_S_layRow_19 : decode cc_S_layRow 19 = .ok (.bipush 16, 2) := by decide +kernel
theorem dd_S_layRow_21 : decode cc_S_layRow 21 = .ok (.iload_n 2, 1) := by decide +kernel
theorem dd_S_layRow_22 : decode cc_S_layRow 22 = .ok (.invokestatic 104, 3) := by decide +kernel
theorem dd_S_layRow_25 : decode cc_S_layRow 25 = .ok (.return_, 1) := by decide +kernel
