theorem dd_R_tally_0 : decode cc_R_tally 0 = .ok (.iload_n 1, 1) := by decide +kernel
theorem dd_R_tally_1 : decode cc_R_tally 1 = .ok (.iconst 3, 1) := by decide +kernel
theorem dd_R_tally_2 : decode cc_R_tally 2 = .ok (.invokestatic 197, 3) := by decide +kernel
theorem dd_R_tally_5 : decode cc_R_tally 5 = .ok (.ifCond .eq 11, 3) := by decide +kernel
theorem dd_R_tally_8 : decode cc_R_tally 8 = .ok (.iload_n 2, 1) := by decide +kernel
theorem dd_R_tally_9 : decode cc_R_tally 9 = .ok (.iconst 4, 1) := by decide +kernel
theorem dd_R_tally_10 : decode cc_R_tally 10 = .ok (.invokestatic 197, 3) := by decide +kernel
theorem dd_R_tally_13 : decode cc_R_tally 13 = .ok (.ifCond .ne 7, 3) := by decide +kernel
theorem dd_R_tally_16 : decode cc_R_tally 16 = .ok (.iconst (-1), 1) := by decide +kernel
theorem dd_R_tally_17 : decode cc_R_tally 17 = .ok (.goto 27, 3) := by decide +kernel
theorem dd_R_tally_20 : decode cc_R_tally 20 = .ok (.iload_n 2, 1) := by decide +kernel
theorem dd_R_tally_21 : decode cc_R_tally 21 = .ok (.iconst 3, 1) := by decide +kernel
theorem dd_R_tally_22 : decode cc_R_tally 22 = .ok (.if_icmp .ne 12, 3) := by decide +kernel
theorem dd_R_tally_25 : decode cc_R_tally 25 = .ok (.aload_n 0, 1) := by decide +kernel
theorem dd_R_tally_26 : decode cc_R_tally 26 = .ok (.getfield 71, 3) := by decide +kernel
theorem dd_R_tally_29 : decode cc_R_tally 29 = .ok (.iload_n 1, 1) := by decide +kernel
theorem dd_R_tally_30 : decode cc_R_tally 30 = .ok (.iaload, 1) := by decide +kernel
theorem dd_R_tally_31 : decode cc_R_tally 31 = .ok (.goto 13, 3) := by decide +kernel
theorem dd_R_tally_34 : decode cc_R_tally 34 = .ok (.aload_n 0, 1) := by decide +kernel
theorem dd_R_tally_35 : decode cc_R_tally 35 = .ok (.getfield 117, 3) := by decide +kernel
theorem dd_R_tally_38 : decode cc_R_tally 38 = .ok (.iconst 3, 1) := by decide +kernel
theorem dd_R_tally_39 : decode cc_R_tally 39 = .ok (.iload_n 1, 1) := by decide +kernel
theorem dd_R_tally_40 : decode cc_R_tally 40 = .ok (.imul, 1) := by decide +kernel
theorem dd_R_tally_41 : decode cc_R_tally 41 = .ok (.iload_n 2, 1) := by decide +kernel
theorem dd_R_tally_42 : decode cc_R_tally 42 = .ok (.iadd, 1) := by decide +kernel
theorem dd_R_tally_43 : decode cc_R_tally 43 = .ok (.iaload, 1) := by decide +kernel
theorem dd_R_tally_44 : decode cc_R_tally 44 = .ok (.ireturn, 1) := by decide +kernel
theorem dd_K_init_0 : decode cc_K_init 0 = .ok (.aload_n 0, 1) := by decide +kernel
theorem dd_K_init_1 : decode cc_K_init 1 = .ok (.invokespecial 3, 3) := by decide +kernel
theorem dd_K_init_4 : decode cc_K_init 4 = .ok (.aload_n 0, 1) := by decide +kernel
theorem dd_K_init_5 : decode cc_K_init 5 = .ok (.new 9, 3) := by decide +kernel
theorem dd_K_init_8 : decode cc_K_init 8 = .ok (.dup, 1) := by decide +kernel
theorem dd_K_init_9 : decode cc_K_init 9 = .ok (.invokespecial 11, 3) := by decide +kernel
theorem dd_K_init_12 : decode cc_K_init 12 = .ok (.putfield 12, 3) := by decide +kernel
theorem dd_K_init_15 : decode cc_K_init 15 = .ok (.aload_n 0, 1) := by decide +kernel
theorem dd_K_init_16 : decode cc_K_init 16 = .ok (.new 18, 3) := by decide +kernel
theorem dd_K_init_19 : decode cc_K_init 19 = .ok (.dup, 1) := by decide +kernel
theorem dd_K_init_20 : decode cc_K_init 20 = .ok (.invokespecial 20, 3) := by decide +kernel
theorem dd_K_init_23 : decode cc_K_init 23 = .ok (.putfield 21, 3) := by decide +kernel
theorem dd_K_init_26 : decode cc_K_init 26 = .ok (.aload_n 0, 1) := by decide +kernel
theorem dd_K_init_27 : decode cc_K_init 27 = .ok (.iconst 4, 1) := by decide +kernel
theorem dd_K_init_28 : decode cc_K_init 28 = .ok (.newarray .long, 2) := by decide +kernel
theorem dd_K_init_30 : decode cc_K_init 30 = .ok (.putfield 25, 3) := by decide +kernel
theorem dd_K_init_33 : decode cc_K_init 33 = .ok (.aload_n 0, 1) := by decide +kernel
theorem dd_K_init_34 : decode cc_K_init 34 = .ok (.iconst 4, 1) := by decide +kernel
theorem dd_K_init_35 : decode cc_K_init 35 = .ok (.newarray .int, 2) := by decide +kernel
theorem dd_K_init_37 : decode cc_K_init 37 = .ok (.putfield 29, 3) := by decide +kernel
theorem dd_K_init_40 : decode cc_K_init 40 = .ok (.aload_n 0, 1) := by decide +kernel
theorem dd_K_init_41 : decode cc_K_init 41 = .ok (.iconst 0, 1) := by decide +kernel
theorem dd_K_init_42 : decode cc_K_init 42 = .ok (.putfield 33, 3) := by decide +kernel
theorem dd_K_init_45 : decode cc_K_init 45 = .ok (.aload_n 0, 1) := by decide +kernel
theorem dd_K_init_46 : decode cc_K_init 46 = .ok (.iconst 0, 1) := by decide +kernel
theorem dd_K_init_47 : decode cc_K_init 47 = .ok (.putfield 37, 3) := by decide +kernel
theorem dd_K_init_50 : decode cc_K_init 50 = .ok (.aload_n 0, 1) := by decide +kernel
theorem dd_K_init_51 : decode cc_K_init 51 = .ok (.iconst 0, 1) := by decide +kernel
theorem dd_K_init_52 : decode cc_K_init 52 = .ok (.putfield 40, 3) := by decide +kernel
theorem dd_K_init_55 : decode cc_K_init 55 = .ok (.aload_n 0, 1) := by decide +kernel
theorem dd_K_init_56 : decode cc_K_init 56 = .ok (.iconst (-1), 1) := by decide +kernel
theorem dd_K_init_57 : decode cc_K_init 57 = .ok (.putfield 43, 3) := by decide +kernel
theorem dd_K_init_60 : decode cc_K_init 60 = .ok (.aload_n 0, 1) := by decide +kernel
theorem dd_K_init_61 : decode cc_K_init 61 = .ok (.iconst (-1), 1) := by decide +kernel
theorem dd_K_init_62 : decode cc_K_init 62 = .ok (.putfield 46, 3) := by decide +kernel
theorem dd_K_init_65 : decode cc_K_init 65 = .ok (.aload_n 0, 1) := by decide +kernel
theorem dd_K_init_66 : decode cc_K_init 66 = .ok (.iconst 0, 1) := by decide +kernel
theorem dd_K_init_67 : decode cc_K_init 67 = .ok (.putfield 49, 3) := by decide +kernel
theorem dd_K_init_70 : decode cc_K_init 70 = .ok (.aload_n 0, 1) := by decide +kernel
theorem dd_K_init_71 : decode cc_K_init 71 = .ok (.iconst 0, 1) := by decide +kernel
theorem dd_K_init_72 : decode cc_K_init 72 = .ok (.putfield 52, 3) := by decide +kernel
theorem dd_K_init_75 : decode cc_K_init 75 = .ok (.aload_n 0, 1) := by decide +kernel
theorem dd_K_init_76 : decode cc_K_init 76 = .ok (.iconst 0, 1) := by decide +kernel
theorem dd_K_init_77 : decode cc_K_init 77 = .ok (.putfield 55, 3) := by decide +kernel
theorem dd_K_init_80 : decode cc_K_init 80 = .ok (.aload_n 0, 1) := by decide +kernel
theorem dd_K_init_81 : decode cc_K_init 81 = .ok (.iconst 0, 1) := by decide +kernel
theorem dd_K_init_82 : decode cc_K_init 82 = .ok (.putfield 58, 3) := by decide +kernel
theorem dd_K_init_85 : decode cc_K_init 85 = .ok (.aload_n 0, 1) := by decide +kernel
theorem dd_K_init_86 : decode cc_K_init 86 = .ok (.iconst 0, 1) := by decide +kernel
theorem dd_K_init_87 : decode cc_K_init 87 = .ok (.putfield 62, 3) := by decide +kernel
theorem dd_K_init_90 : decode cc_K_init 90 = .ok (.aload_n 0, 1) := by decide +kernel
theorem dd_K_init_91 : decode cc_K_init 91 = .ok (.iload_n 1, 1) := by decide +kernel
theorem dd_K_init_92 : decode cc_K_init 92 = .ok (.putfield 65, 3) := by decide +kernel
theorem dd_K_init_95 : decode cc_K_init 95 = .ok (.aload_n 0, 1) := by decide +kernel
theorem dd_K_init_96 : decode cc_K_init 96 = .ok (.aload_n 2, 1) := by decide +kernel
theorem dd_K_init_97 : decode cc_K_init 97 = .ok (.putfield 68, 3) := by decide +kernel
theorem dd_K_init_100 : decode cc_K_init 100 = .ok (.return_, 1) := by decide +kernel
theorem dd_K_enqueue_0 : decode cc_K_enqueue 0 = .ok (.aload_n 0, 1) := by decide +kernel
theorem dd_K_enqueue_1 : decode cc_K_enqueue 1 = .ok (.getfield 33, 3) := by decide +kernel
theorem dd_K_enqueue_4 : decode cc_K_enqueue 4 = .ok (.iconst 4, 1) := by decide +kernel
theorem dd_K_enqueue_5 : decode cc_K_enqueue 5 = .ok (.if_icmp .ne 5, 3) := by decide +kernel
theorem dd_K_enqueue_8 : decode cc_K_enqueue 8 = .ok (.iconst (-1), 1) := by decide +kernel
theorem dd_K_enqueue_9 : decode cc_K_enqueue 9 = .ok (.ireturn, 1) := by decide +kernel
theorem dd_K_enqueue_10 : decode cc_K_enqueue 10 = .ok (.aload_n 0, 1) := by decide +kernel
theorem dd_K_enqueue_11 : decode cc_K_enqueue 11 = .ok (.getfield 25, 3) := by decide +kernel
theorem dd_K_enqueue_14 : decode cc_K_enqueue 14 = .ok (.aload_n 0, 1) := by decide +kernel
theorem dd_K_enqueue_15 : decode cc_K_enqueue 15 = .ok (.getfield 33, 3) := by decide +kernel
theorem dd_K_enqueue_18 : decode cc_K_enqueue 18 = .ok (.lload_n 1, 1) := by decide +kernel
theorem dd_K_enqueue_19 : decode cc_K_enqueue 19 = .ok (.lastore, 1) := by decide +kernel
theorem dd_K_enqueue_20 : decode cc_K_enqueue 20 = .ok (.aload_n 0, 1) := by decide +kernel
theorem dd_K_enqueue_21 : decode cc_K_enqueue 21 = .ok (.getfield 29, 3) := by decide +kernel
theorem dd_K_enqueue_24 : decode cc_K_enqueue 24 = .ok (.aload_n 0, 1) := by decide +kernel
theorem dd_K_enqueue_25 : decode cc_K_enqueue 25 = .ok (.getfield 33, 3) := by decide +kernel
theorem dd_K_enqueue_28 : decode cc_K_enqueue 28 = .ok (.iload_n 3, 1) := by decide +kernel
theorem dd_K_enqueue_29 : decode cc_K_enqueue 29 = .ok (.iastore, 1) := by decide +kernel
theorem dd_K_enqueue_30 : decode cc_K_enqueue 30 = .ok (.aload_n 0, 1) := by decide +kernel
theorem dd_K_enqueue_31 : decode cc_K_enqueue 31 = .ok (.dup, 1) := by decide +kernel
theorem dd_K_enqueue_32 : decode cc_K_enqueue 32 = .ok (.getfield 33, 3) := by decide +kernel
theorem dd_K_enqueue_35 : decode cc_K_enqueue 35 = .ok (.iconst 1, 1) := by decide +kernel
theorem dd_K_enqueue_36 : decode cc_K_enqueue 36 = .ok (.iadd, 1) := by decide +kernel
theorem dd_K_enqueue_37 : decode cc_K_enqueue 37 = .ok (.putfield 33, 3) := by decide +kernel
theorem dd_K_enqueue_40 : decode cc_K_enqueue 40 = .ok (.aload_n 0, 1) := by decide +kernel
theorem dd_K_enqueue_41 : decode cc_K_enqueue 41 = .ok (.getfield 33, 3) := by decide +kernel
theorem dd_K_enqueue_44 : decode cc_K_enqueue 44 = .ok (.ireturn, 1) := by decide +kernel
theorem dd_K_openSession_0 : decode cc_K_openSession 0 = .ok (.aload_n 0, 1) := by decide +kernel
theorem dd_K_openSession_1 : decode cc_K_openSession 1 = .ok (.iload_n 2, 1) := by decide +kernel
theorem dd_K_openSession_2 : decode cc_K_openSession 2 = .ok (.putfield 43, 3) := by decide +kernel
theorem dd_K_openSession_5 : decode cc_K_openSession 5 = .ok (.aload_n 0, 1) := by decide +kernel
theorem dd_K_openSession_6 : decode cc_K_openSession 6 = .ok (.iload_n 1, 1) := by decide +kernel
theorem dd_K_openSession_7 : decode cc_K_openSession 7 = .ok (.putfield 40, 3) := by decide +kernel
theorem dd_K_openSession_10 : decode cc_K_openSession 10 = .ok (.aload_n 0, 1) := by decide +kernel
theorem dd_K_openSession_11 : decode cc_K_openSession 11 = .ok (.dup, 1) := by decide +kernel
theorem dd_K_openSession_12 : decode cc_K_openSession 12 = .ok (.getfield 37, 3) := by decide +kernel
theorem dd_K_openSession_15 : decode cc_K_openSession 15 = .ok (.iconst 1, 1) := by decide +kernel
theorem dd_K_openSession_16 : decode cc_K_openSession 16 = .ok (.iadd, 1) := by decide +kernel
theorem dd_K_openSession_17 : decode cc_K_openSession 17 = .ok (.putfield 37, 3) := by decide +kernel
theorem dd_K_openSession_20 : decode cc_K_openSession 20 = .ok (.aload_n 0, 1) := by decide +kernel
theorem dd_K_openSession_21 : decode cc_K_openSession 21 = .ok (.getfield 65, 3) := by decide +kernel
theorem dd_K_openSession_24 : decode cc_K_openSession 24 = .ok (.iconst 1, 1) := by decide +kernel
theorem dd_K_openSession_25 : decode cc_K_openSession 25 = .ok (.iadd, 1) := by decide +kernel
theorem dd_K_openSession_26 : decode cc_K_openSession 26 = .ok (.aload_n 0, 1) := by decide +kernel
theorem dd_K_openSession_27 : decode cc_K_openSession 27 = .ok (.getfield 37, 3) := by decide +kernel
theorem dd_K_openSession_30 : decode cc_K_openSession 30 = .ok (.sipush 255, 3) := by decide +kernel
theorem dd_K_openSession_33 : decode cc_K_openSession 33 = .ok (.iand, 1) := by decide +kernel
theorem dd_K_openSession_34 : decode cc_K_openSession 34 = .ok (.bipush 8, 2) := by decide +kernel
theorem dd_K_openSession_36 : decode cc_K_openSession 36 = .ok (.ishl, 1) := by decide +kernel
theorem dd_K_openSession_37 : decode cc_K_openSession 37 = .ok (.ior, 1) := by decide +kernel
theorem dd_K_openSession_38 : decode cc_K_openSession 38 = .ok (.ldc 72, 2) := by decide +kernel
theorem dd_K_openSession_40 : decode cc_K_openSession 40 = .ok (.ior, 1) := by decide +kernel
theorem dd_K_openSession_41 : decode cc_K_openSession 41 = .ok (.istore_n 3, 1) := by decide +kernel
theorem dd_K_openSession_42 : decode cc_K_openSession 42 = .ok (.aload_n 0, 1) := by decide +kernel
theorem dd_K_openSession_43 : decode cc_K_openSession 43 = .ok (.getfield 12, 3) := by decide +kernel
theorem dd_K_openSession_46 : decode cc_K_openSession 46 = .ok (.aload_n 0, 1) := by decide +kernel
theorem dd_K_openSession_47 : decode cc_K_openSession 47 = .ok (.getfield 68, 3) := by decide +kernel
theorem dd_K_openSession_50 : decode cc_K_openSession 50 = .ok (.getfield 73, 3) := by decide +kernel
theorem dd_K_openSession_53 : decode cc_K_openSession 53 = .ok (.aload_n 0, 1) := by decide +kernel
theorem dd_K_openSession_54 : decode cc_K_openSession 54 = .ok (.getfield 40, 3) := by decide +kernel
theorem dd_K_openSession_57 : decode cc_K_openSession 57 = .ok (.iload_n 3, 1) := by decide +kernel
theorem dd_K_openSession_58 : decode cc_K_openSession 58 = .ok (.iload_n 2, 1) := by decide +kernel
theorem dd_K_openSession_59 : decode cc_K_openSession 59 = .ok (.invokevirtual 79, 3) := by decide +kernel
theorem dd_K_openSession_62 : decode cc_K_openSession 62 = .ok (.aload_n 0, 1) := by decide +kernel
theorem dd_K_openSession_63 : decode cc_K_openSession 63 = .ok (.iconst (-1), 1) := by decide +kernel
theorem dd_K_openSession_64 : decode cc_K_openSession 64 = .ok (.putfield 46, 3) := by decide +kernel
theorem dd_K_openSession_67 : decode cc_K_openSession 67 = .ok (.aload_n 0, 1) := by decide +kernel
theorem dd_K_openSession_68 : decode cc_K_openSession 68 = .ok (.iconst 0, 1) := by decide +kernel
theorem dd_K_openSession_69 : decode cc_K_openSession 69 = .ok (.putfield 49, 3) := by decide +kernel
theorem dd_K_openSession_72 : decode cc_K_openSession 72 = .ok (.aload_n 0, 1) := by decide +kernel
theorem dd_K_openSession_73 : decode cc_K_openSession 73 = .ok (.iconst 1, 1) := by decide +kernel
theorem dd_K_openSession_74 : decode cc_K_openSession 74 = .ok (.iconst 0, 1) := by decide +kernel
theorem dd_K_openSession_75 : decode cc_K_openSession 75 = .ok (.iconst 0, 1) := by decide +kernel
theorem dd_K_openSession_76 : decode cc_K_openSession 76 = .ok (.invokevirtual 83, 3) := by decide +kernel
theorem dd_K_openSession_79 : decode cc_K_openSession 79 = .ok (.return_, 1) := by decide +kernel
theorem dd_K_takeData_0 : decode cc_K_takeData 0 = .ok (.aload_n 0, 1) := by decide +kernel
theorem dd_K_takeData_1 : decode cc_K_takeData 1 = .ok (.getfield 46, 3) := by decide +kernel
theorem dd_K_takeData_4 : decode cc_K_takeData 4 = .ok (.iconst 0, 1) := by decide +kernel
theorem dd_K_takeData_5 : decode cc_K_takeData 5 = .ok (.invokestatic 87, 3) := by decide +kernel
theorem dd_K_takeData_8 : decode cc_K_takeData 8 = .ok (.aload_n 1, 1) := by decide +kernel
theorem dd_K_takeData_9 : decode cc_K_takeData 9 = .ok (.invokevirtual 93, 3) := by decide +kernel
theorem dd_K_takeData_12 : decode cc_K_takeData 12 = .ok (.invokestatic 99, 3) := by decide +kernel
theorem dd_K_takeData_15 : decode cc_K_takeData 15 = .ok (.istore_n 3, 1) := by decide +kernel
theorem dd_K_takeData_16 : decode cc_K_takeData 16 = .ok (.aload_n 0, 1) := by decide +kernel
theorem dd_K_takeData_17 : decode cc_K_takeData 17 = .ok (.getfield 12, 3) := by decide +kernel
theorem dd_K_takeData_20 : decode cc_K_takeData 20 = .ok (.aload_n 1, 1) := by decide +kernel
theorem dd_K_takeData_21 : decode cc_K_takeData 21 = .ok (.iconst 0, 1) := by decide +kernel
theorem dd_K_takeData_22 : decode cc_K_takeData 22 = .ok (.iload_n 3, 1) := by decide +kernel
theorem dd_K_takeData_23 : decode cc_K_takeData 23 = .ok (.invokevirtual 102, 3) := by decide +kernel
theorem dd_K_takeData_26 : decode cc_K_takeData 26 = .ok (.ifCond .ne 4, 3) := by decide +kernel
theorem dd_K_takeData_29 : decode cc_K_takeData 29 = .ok (.return_, 1) := by decide +kernel
theorem dd_K_takeData_30 : decode cc_K_takeData 30 = .ok (.aload_n 1, 1) := by decide +kernel
theorem dd_K_takeData_31 : decode cc_K_takeData 31 = .ok (.getfield 106, 3) := by decide +kernel
theorem dd_K_takeData_34 : decode cc_K_takeData 34 = .ok (.iconst 0, 1) := by decide +kernel
theorem dd_K_takeData_35 : decode cc_K_takeData 35 = .ok (.iaload, 1) := by decide +kernel
theorem dd_K_takeData_36 : decode cc_K_takeData 36 = .ok (.sipush 128, 3) := by decide +kernel
theorem dd_K_takeData_39 : decode cc_K_takeData 39 = .ok (.if_icmp .ne 7, 3) := by decide +kernel
theorem dd_K_takeData_42 : decode cc_K_takeData 42 = .ok (.iconst 1, 1) := by decide +kernel
theorem dd_K_takeData_43 : decode cc_K_takeData 43 = .ok (.goto 4, 3) := by decide +kernel
theorem dd_K_takeData_46 : decode cc_K_takeData 46 = .ok (.iconst 0, 1) := by decide +kernel
theorem dd_K_takeData_47 : decode cc_K_takeData 47 = .ok (.istore 4, 2) := by decide +kernel
theorem dd_K_takeData_49 : decode cc_K_takeData 49 = .ok (.iload_n 3, 1) := by decide +kernel
theorem dd_K_takeData_50 : decode cc_K_takeData 50 = .ok (.aload_n 0, 1) := by decide +kernel
theorem dd_K_takeData_51 : decode cc_K_takeData 51 = .ok (.getfield 46, 3) := by decide +kernel
theorem dd_K_takeData_54 : decode cc_K_takeData 54 = .ok (.if_icmp .ne 31, 3) := by decide +kernel
theorem dd_K_takeData_57 : decode cc_K_takeData 57 = .ok (.aload_n 0, 1) := by decide +kernel
theorem dd_K_takeData_58 : decode cc_K_takeData 58 = .ok (.dup, 1) := by decide +kernel
theorem dd_K_takeData_59 : decode cc_K_takeData 59 = .ok (.getfield 52, 3) := by decide +kernel
theorem dd_K_takeData_62 : decode cc_K_takeData 62 = .ok (.iconst 1, 1) := by decide +kernel
theorem dd_K_takeData_63 : decode cc_K_takeData 63 = .ok (.iload_n 2, 1) := by decide +kernel
theorem dd_K_takeData_64 : decode cc_K_takeData 64 = .ok (.ishl, 1) := by decide +kernel
theorem dd_K_takeData_65 : decode cc_K_takeData 65 = .ok (.ior, 1) := by decide +kernel
theorem dd_K_takeData_66 : decode cc_K_takeData 66 = .ok (.putfield 52, 3) := by decide +kernel
theorem dd_K_takeData_69 : decode cc_K_takeData 69 = .ok (.iload 4, 2) := by decide +kernel
theorem dd_K_takeData_71 : decode cc_K_takeData 71 = .ok (.ifCond .eq 13, 3) := by decide +kernel
theorem dd_K_takeData_74 : decode cc_K_takeData 74 = .ok (.aload_n 0, 1) := by decide +kernel
theorem dd_K_takeData_75 : decode cc_K_takeData 75 = .ok (.iconst 2, 1) := by decide +kernel
theorem dd_K_takeData_76 : decode cc_K_takeData 76 = .ok (.iconst 1, 1) := by decide +kernel
theorem dd_K_takeData_77 : decode cc_K_takeData 77 = .ok (.aload_n 0, 1) := by decide +kernel
theorem dd_K_takeData_78 : decode cc_K_takeData 78 = .ok (.getfield 62, 3) := by decide +kernel
theorem dd_K_takeData_81 : decode cc_K_takeData 81 = .ok (.invokevirtual 83, 3) := by decide +kernel
theorem dd_K_takeData_84 : decode cc_K_takeData 84 = .ok (.return_, 1) := by decide +kernel
theorem dd_K_takeData_85 : decode cc_K_takeData 85 = .ok (.aload_n 0, 1) := by decide +kernel
theorem dd_K_takeData_86 : decode cc_K_takeData 86 = .ok (.iload_n 3, 1) := by decide +kernel
theorem dd_K_takeData_87 : decode cc_K_takeData 87 = .ok (.putfield 46, 3) := by decide +kernel
theorem dd_K_takeData_90 : decode cc_K_takeData 90 = .ok (.aload_n 0, 1) := by decide +kernel
theorem dd_K_takeData_91 : decode cc_K_takeData 91 = .ok (.iconst 1, 1) := by decide +kernel
theorem dd_K_takeData_92 : decode cc_K_takeData 92 = .ok (.iload_n 2, 1) := by decide +kernel
theorem dd_K_takeData_93 : decode cc_K_takeData 93 = .ok (.ishl, 1) := by decide +kernel
theorem dd_K_takeData_94 : decode cc_K_takeData 94 = .ok (.putfield 52, 3) := by decide +kernel
theorem dd_K_takeData_97 : decode cc_K_takeData 97 = .ok (.aload_n 1, 1) := by decide +kernel
theorem dd_K_takeData_98 : decode cc_K_takeData 98 = .ok (.invokevirtual 109, 3) := by decide +kernel
theorem dd_K_takeData_101 : decode cc_K_takeData 101 = .ok (.ifCond .le 20, 3) := by decide +kernel
theorem dd_K_takeData_104 : decode cc_K_takeData 104 = .ok (.aload_n 0, 1) := by decide +kernel
theorem dd_K_takeData_105 : decode cc_K_takeData 105 = .ok (.getfield 21, 3) := by decide +kernel
theorem dd_K_takeData_108 : decode cc_K_takeData 108 = .ok (.aload_n 0, 1) := by decide +kernel
theorem dd_K_takeData_109 : decode cc_K_takeData 109 = .ok (.getfield 12, 3) := by decide +kernel
theorem dd_K_takeData_112 : decode cc_K_takeData 112 = .ok (.aload_n 1, 1) := by decide +kernel
theorem dd_K_takeData_113 : decode cc_K_takeData 113 = .ok (.iconst 0, 1) := by decide +kernel
theorem dd_K_takeData_114 : decode cc_K_takeData 114 = .ok (.iload_n 3, 1) := by decide +kernel
theorem dd_K_takeData_115 : decode cc_K_takeData 115 = .ok (.invokevirtual 112, 3) := by decide +kernel
theorem dd_K_takeData_118 : decode cc_K_takeData 118 = .ok (.invokevirtual 116, 3) := by decide +kernel
theorem dd_K_takeData_121 : decode cc_K_takeData 121 = .ok (.aload_n 1, 1) := by decide +kernel
theorem dd_K_takeData_122 : decode cc_K_takeData 122 = .ok (.invokevirtual 120, 3) := by decide +kernel
theorem dd_K_takeData_125 : decode cc_K_takeData 125 = .ok (.iconst 1, 1) := by decide +kernel
theorem dd_K_takeData_126 : decode cc_K_takeData 126 = .ok (.if_icmp .ne 16, 3) := by decide +kernel
theorem dd_K_takeData_129 : decode cc_K_takeData 129 = .ok (.aload_n 1, 1) := by decide +kernel
theorem dd_K_takeData_130 : decode cc_K_takeData 130 = .ok (.iconst 0, 1) := by decide +kernel
theorem dd_K_takeData_131 : decode cc_K_takeData 131 = .ok (.invokevirtual 123, 3) := by decide +kernel
theorem dd_K_takeData_134 : decode cc_K_takeData 134 = .ok (.iconst 2, 1) := by decide +kernel
theorem dd_K_takeData_135 : decode cc_K_takeData 135 = .ok (.if_icmp .ne 7, 3) := by decide +kernel
theorem dd_K_takeData_138 : decode cc_K_takeData 138 = .ok (.iconst 1, 1) := by decide +kernel
theorem dd_K_takeData_139 : decode cc_K_takeData 139 = .ok (.goto 4, 3) := by decide +kernel
theorem dd_K_takeData_142 : decode cc_K_takeData 142 = .ok (.iconst 0, 1) := by decide +kernel
theorem dd_K_takeData_143 : decode cc_K_takeData 143 = .ok (.istore 5, 2) := by decide +kernel
theorem dd_K_takeData_145 : decode cc_K_takeData 145 = .ok (.iload 4, 2) := by decide +kernel
theorem dd_K_takeData_147 : decode cc_K_takeData 147 = .ok (.ifCond .ne 15, 3) := by decide +kernel
theorem dd_K_takeData_150 : decode cc_K_takeData 150 = .ok (.iload 5, 2) := by decide +kernel
theorem dd_K_takeData_152 : decode cc_K_takeData 152 = .ok (.ifCond .ne 10, 3) := by decide +kernel
theorem dd_K_takeData_155 : decode cc_K_takeData 155 = .ok (.aload_n 0, 1) := by decide +kernel
theorem dd_K_takeData_156 : decode cc_K_takeData 156 = .ok (.getfield 33, 3) := by decide +kernel
theorem dd_K_takeData_159 : decode cc_K_takeData 159 = .ok (.ifCond .le 7, 3) := by decide +kernel
theorem dd_K_takeData_162 : decode cc_K_takeData 162 = .ok (.iconst 1, 1) := by decide +kernel
theorem dd_K_takeData_163 : decode cc_K_takeData 163 = .ok (.goto 4, 3) := by decide +kernel
theorem dd_K_takeData_166 : decode cc_K_takeData 166 = .ok (.iconst 0, 1) := by decide +kernel
theorem dd_K_takeData_167 : decode cc_K_takeData 167 = .ok (.istore 6, 2) := by decide +kernel
theorem dd_K_takeData_169 : decode cc_K_takeData 169 = .ok (.aload_n 0, 1) := by decide +kernel
theorem dd_K_takeData_170 : decode cc_K_takeData 170 = .ok (.iload 6, 2) := by decide +kernel
theorem dd_K_takeData_172 : decode cc_K_takeData 172 = .ok (.ifCond .eq 7, 3) := by decide +kernel
theorem dd_K_takeData_175 : decode cc_K_takeData 175 = .ok (.iconst 2, 1) := by decide +kernel
theorem dd_K_takeData_176 : decode cc_K_takeData 176 = .ok (.goto 4, 3) := by decide +kernel
theorem dd_K_takeData_179 : decode cc_K_takeData 179 = .ok (.iconst 0, 1) := by decide +kernel
theorem dd_K_takeData_180 : decode cc_K_takeData 180 = .ok (.iload 4, 2) := by decide +kernel
theorem dd_K_takeData_182 : decode cc_K_takeData 182 = .ok (.iload 5, 2) := by decide +kernel
theorem dd_K_takeData_184 : decode cc_K_takeData 184 = .ok (.invokevirtual 83, 3) := by decide +kernel
theorem dd_K_takeData_187 : decode cc_K_takeData 187 = .ok (.return_, 1) := by decide +kernel
theorem dd_K_writeAccept_0 : decode cc_K_writeAccept 0 = .ok (.aload_n 1, 1) := by decide +kernel
theorem dd_K_writeAccept_1 : decode cc_K_writeAccept 1 = .ok (.bipush 32, 2) := by decide +kernel
theorem dd_K_writeAccept_3 : decode cc_K_writeAccept 3 = .ok (.aload_n 0, 1) := by decide +kernel
theorem dd_K_writeAccept_4 : decode cc_K_writeAccept 4 = .ok (.getfield 65, 3) := by decide +kernel
theorem dd_K_writeAccept_7 : decode cc_K_writeAccept 7 = .ok (.invokevirtual 127, 3) := by decide +kernel
theorem dd_K_writeAccept_10 : decode cc_K_writeAccept 10 = .ok (.aload_n 1, 1) := by decide +kernel
theorem dd_K_writeAccept_11 : decode cc_K_writeAccept 11 = .ok (.aload_n 0, 1) := by decide +kernel
theorem dd_K_writeAccept_12 : decode cc_K_writeAccept 12 = .ok (.getfield 40, 3) := by decide +kernel
theorem dd_K_writeAccept_15 : decode cc_K_writeAccept 15 = .ok (.iconst 3, 1) := by decide +kernel
theorem dd_K_writeAccept_16 : decode cc_K_writeAccept 16 = .ok (.invokevirtual 131, 3) := by decide +kernel
theorem dd_K_writeAccept_19 : decode cc_K_writeAccept 19 = .ok (.aload_n 1, 1) := by decide +kernel
theorem dd_K_writeAccept_20 : decode cc_K_writeAccept 20 = .ok (.bipush 19, 2) := by decide +kernel
theorem dd_K_writeAccept_22 : decode cc_K_writeAccept 22 = .ok (.iconst 3, 1) := by decide +kernel
theorem dd_K_writeAccept_23 : decode cc_K_writeAccept 23 = .ok (.invokevirtual 131, 3) := by decide +kernel
theorem dd_K_writeAccept_26 : decode cc_K_writeAccept 26 = .ok (.aload_n 1, 1) := by decide +kernel
theorem dd_K_writeAccept_27 : decode cc_K_writeAccept 27 = .ok (.aload_n 0, 1) := by decide +kernel
theorem dd_K_writeAccept_28 : decode cc_K_writeAccept 28 = .ok (.getfield 12, 3) := by decide +kernel
theorem dd_K_writeAccept_31 : decode cc_K_writeAccept 31 = .ok (.getfield 134, 3) := by decide +kernel
theorem dd_K_writeAccept_34 : decode cc_K_writeAccept 34 = .ok (.iconst 4, 1) := by decide +kernel
theorem dd_K_writeAccept_35 : decode cc_K_writeAccept 35 = .ok (.invokevirtual 131, 3) := by decide +kernel
theorem dd_K_writeAccept_38 : decode cc_K_writeAccept 38 = .ok (.aload_n 1, 1) := by decide +kernel
theorem dd_K_writeAccept_39 : decode cc_K_writeAccept 39 = .ok (.iconst 0, 1) := by decide +kernel
theorem dd_K_writeAccept_40 : decode cc_K_writeAccept 40 = .ok (.iconst 1, 1) := by decide +kernel
theorem dd_K_writeAccept_41 : decode cc_K_writeAccept 41 = .ok (.invokevirtual 131, 3) := by decide +kernel
theorem dd_K_writeAccept_44 : decode cc_K_writeAccept 44 = .ok (.aload_n 1, 1) := by decide +kernel
theorem dd_K_writeAccept_45 : decode cc_K_writeAccept 45 = .ok (.iconst 1, 1) := by decide +kernel
theorem dd_K_writeAccept_46 : decode cc_K_writeAccept 46 = .ok (.iconst 1, 1) := by decide +kernel
theorem dd_K_writeAccept_47 : decode cc_K_writeAccept 47 = .ok (.invokevirtual 131, 3) := by decide +kernel
theorem dd_K_writeAccept_50 : decode cc_K_writeAccept 50 = .ok (.aload_n 1, 1) := by decide +kernel
theorem dd_K_writeAccept_51 : decode cc_K_writeAccept 51 = .ok (.aload_n 0, 1) := by decide +kernel
theorem dd_K_writeAccept_52 : decode cc_K_writeAccept 52 = .ok (.getfield 68, 3) := by decide +kernel
theorem dd_K_writeAccept_55 : decode cc_K_writeAccept 55 = .ok (.aload_n 1, 1) := by decide +kernel
theorem dd_K_writeAccept_56 : decode cc_K_writeAccept 56 = .ok (.getfield 106, 3) := by decide +kernel
theorem dd_K_writeAccept_59 : decode cc_K_writeAccept 59 = .ok (.aload_n 1, 1) := by decide +kernel
theorem dd_K_writeAccept_60 : decode cc_K_writeAccept 60 = .ok (.getfield 137, 3) := by decide +kernel
theorem dd_K_writeAccept_63 : decode cc_K_writeAccept 63 = .ok (.invokevirtual 140, 3) := by decide +kernel
theorem dd_K_writeAccept_66 : decode cc_K_writeAccept 66 = .ok (.iconst 4, 1) := by decide +kernel
theorem dd_K_writeAccept_67 : decode cc_K_writeAccept 67 = .ok (.invokevirtual 131, 3) := by decide +kernel
theorem dd_K_writeAccept_70 : decode cc_K_writeAccept 70 = .ok (.aload_n 0, 1) := by decide +kernel
theorem dd_K_writeAccept_71 : decode cc_K_writeAccept 71 = .ok (.getfield 68, 3) := by decide +kernel
theorem dd_K_writeAccept_74 : decode cc_K_writeAccept 74 = .ok (.getfield 73, 3) := by decide +kernel
theorem dd_K_writeAccept_77 : decode cc_K_writeAccept 77 = .ok (.aload_n 1, 1) := by decide +kernel
theorem dd_K_writeAccept_78 : decode cc_K_writeAccept 78 = .ok (.getfield 106, 3) := by decide +kernel
theorem dd_K_writeAccept_81 : decode cc_K_writeAccept 81 = .ok (.iconst 1, 1) := by decide +kernel
theorem dd_K_writeAccept_82 : decode cc_K_writeAccept 82 = .ok (.invokevirtual 144, 3) := by decide +kernel
theorem dd_K_writeAccept_85 : decode cc_K_writeAccept 85 = .ok (.return_, 1) := by decide +kernel
theorem dd_K_writeAnswer_0 : decode cc_K_writeAnswer 0 = .ok (.aload_n 0, 1) := by decide +kernel
theorem dd_K_writeAnswer_1 : decode cc_K_writeAnswer 1 = .ok (.getfield 58, 3) := by decide +kernel
theorem dd_K_writeAnswer_4 : decode cc_K_writeAnswer 4 = .ok (.ifCond .eq 8, 3) := by decide +kernel
theorem dd_K_writeAnswer_7 : decode cc_K_writeAnswer 7 = .ok (.bipush 32, 2) := by decide +kernel
theorem dd_K_writeAnswer_9 : decode cc_K_writeAnswer 9 = .ok (.goto 4, 3) := by decide +kernel
theorem dd_K_writeAnswer_12 : decode cc_K_writeAnswer 12 = .ok (.iconst 0, 1) := by decide +kernel
theorem dd_K_writeAnswer_13 : decode cc_K_writeAnswer 13 = .ok (.aload_n 0, 1) := by decide +kernel
theorem dd_K_writeAnswer_14 : decode cc_K_writeAnswer 14 = .ok (.getfield 33, 3) := by decide +kernel
theorem dd_K_writeAnswer_17 : decode cc_K_writeAnswer 17 = .ok (.iconst 1, 1) := by decide +kernel
theorem dd_K_writeAnswer_18 : decode cc_K_writeAnswer 18 = .ok (.if_icmp .le 8, 3) := by decide +kernel
theorem dd_K_writeAnswer_21 : decode cc_K_writeAnswer 21 = .ok (.bipush 16, 2) := by decide +kernel
theorem dd_K_writeAnswer_23 : decode cc_K_writeAnswer 23 = .ok (.goto 4, 3) := by decide +kernel
theorem dd_K_writeAnswer_26 : decode cc_K_writeAnswer 26 = .ok (.iconst 0, 1) := by decide +kernel
theorem dd_K_writeAnswer_27 : decode cc_K_writeAnswer 27 = .ok (.iadd, 1) := by decide +kernel
theorem dd_K_writeAnswer_28 : decode cc_K_writeAnswer 28 = .ok (.aload_n 0, 1) := by decide +kernel
theorem dd_K_writeAnswer_29 : decode cc_K_writeAnswer 29 = .ok (.getfield 62, 3) := by decide +kernel
theorem dd_K_writeAnswer_32 : decode cc_K_writeAnswer 32 = .ok (.ifCond .eq 7, 3) := by decide +kernel
theorem dd_K_writeAnswer_35 : decode cc_K_writeAnswer 35 = .ok (.iconst 3, 1) := by decide +kernel
theorem dd_K_writeAnswer_36 : decode cc_K_writeAnswer 36 = .ok (.goto 4, 3) := by decide +kernel
theorem dd_K_writeAnswer_39 : decode cc_K_writeAnswer 39 = .ok (.iconst 0, 1) := by decide +kernel
theorem dd_K_writeAnswer_40 : decode cc_K_writeAnswer 40 = .ok (.iadd, 1) := by decide +kernel
theorem dd_K_writeAnswer_41 : decode cc_K_writeAnswer 41 = .ok (.istore_n 2, 1) := by decide +kernel
theorem dd_K_writeAnswer_42 : decode cc_K_writeAnswer 42 = .ok (.aload_n 0, 1) := by decide +kernel
theorem dd_K_writeAnswer_43 : decode cc_K_writeAnswer 43 = .ok (.getfield 12, 3) := by decide +kernel
theorem dd_K_writeAnswer_46 : decode cc_K_writeAnswer 46 = .ok (.aload_n 1, 1) := by decide +kernel
theorem dd_K_writeAnswer_47 : decode cc_K_writeAnswer 47 = .ok (.bipush 96, 2) := by decide +kernel
theorem dd_K_writeAnswer_49 : decode cc_K_writeAnswer 49 = .ok (.aload_n 0, 1) := by decide +kernel
theorem dd_K_writeAnswer_50 : decode cc_K_writeAnswer 50 = .ok (.getfield 65, 3) := by decide +kernel
theorem dd_K_writeAnswer_53 : decode cc_K_writeAnswer 53 = .ok (.iload_n 2, 1) := by decide +kernel
theorem dd_K_writeAnswer_54 : decode cc_K_writeAnswer 54 = .ok (.aload_n 0, 1) := by decide +kernel
theorem dd_K_writeAnswer_55 : decode cc_K_writeAnswer 55 = .ok (.getfield 49, 3) := by decide +kernel
theorem dd_K_writeAnswer_58 : decode cc_K_writeAnswer 58 = .ok (.invokevirtual 150, 3) := by decide +kernel
theorem dd_K_writeAnswer_61 : decode cc_K_writeAnswer 61 = .ok (.aload_n 0, 1) := by decide +kernel
theorem dd_K_writeAnswer_62 : decode cc_K_writeAnswer 62 = .ok (.getfield 62, 3) := by decide +kernel
theorem dd_K_writeAnswer_65 : decode cc_K_writeAnswer 65 = .ok (.ifCond .eq 28, 3) := by decide +kernel
theorem dd_K_writeAnswer_68 : decode cc_K_writeAnswer 68 = .ok (.aload_n 1, 1) := by decide +kernel
theorem dd_K_writeAnswer_69 : decode cc_K_writeAnswer 69 = .ok (.iconst 2, 1) := by decide +kernel
theorem dd_K_writeAnswer_70 : decode cc_K_writeAnswer 70 = .ok (.iconst 1, 1) := by decide +kernel
theorem dd_K_writeAnswer_71 : decode cc_K_writeAnswer 71 = .ok (.invokevirtual 131, 3) := by decide +kernel
theorem dd_K_writeAnswer_74 : decode cc_K_writeAnswer 74 = .ok (.aload_n 1, 1) := by decide +kernel
theorem dd_K_writeAnswer_75 : decode cc_K_writeAnswer 75 = .ok (.bipush 10, 2) := by decide +kernel
theorem dd_K_writeAnswer_77 : decode cc_K_writeAnswer 77 = .ok (.iconst 1, 1) := by decide +kernel
theorem dd_K_writeAnswer_78 : decode cc_K_writeAnswer 78 = .ok (.invokevirtual 131, 3) := by decide +kernel
theorem dd_K_writeAnswer_81 : decode cc_K_writeAnswer 81 = .ok (.aload_n 1, 1) := by decide +kernel
theorem dd_K_writeAnswer_82 : decode cc_K_writeAnswer 82 = .ok (.aload_n 0, 1) := by decide +kernel
theorem dd_K_writeAnswer_83 : decode cc_K_writeAnswer 83 = .ok (.getfield 52, 3) := by decide +kernel
theorem dd_K_writeAnswer_86 : decode cc_K_writeAnswer 86 = .ok (.invokestatic 153, 3) := by decide +kernel
theorem dd_K_writeAnswer_89 : decode cc_K_writeAnswer 89 = .ok (.iconst 1, 1) := by decide +kernel
theorem dd_K_writeAnswer_90 : decode cc_K_writeAnswer 90 = .ok (.invokevirtual 131, 3) := by decide +kernel
theorem dd_K_writeAnswer_93 : decode cc_K_writeAnswer 93 = .ok (.aload_n 0, 1) := by decide +kernel
theorem dd_K_writeAnswer_94 : decode cc_K_writeAnswer 94 = .ok (.getfield 12, 3) := by decide +kernel
theorem dd_K_writeAnswer_97 : decode cc_K_writeAnswer 97 = .ok (.aload_n 1, 1) := by decide +kernel
theorem dd_K_writeAnswer_98 : decode cc_K_writeAnswer 98 = .ok (.iconst 1, 1) := by decide +kernel
theorem dd_K_writeAnswer_99 : decode cc_K_writeAnswer 99 = .ok (.aload_n 0, 1) := by decide +kernel
theorem dd_K_writeAnswer_100 : decode cc_K_writeAnswer 100 = .ok (.getfield 49, 3) := by decide +kernel
theorem dd_K_writeAnswer_103 : decode cc_K_writeAnswer 103 = .ok (.aload_n 0, 1) := by decide +kernel
theorem dd_K_writeAnswer_104 : decode cc_K_writeAnswer 104 = .ok (.getfield 25, 3) := by decide +kernel
theorem dd_K_writeAnswer_107 : decode cc_K_writeAnswer 107 = .ok (.iconst 0, 1) := by decide +kernel
theorem dd_K_writeAnswer_108 : decode cc_K_writeAnswer 108 = .ok (.laload, 1) := by decide +kernel
theorem dd_K_writeAnswer_109 : decode cc_K_writeAnswer 109 = .ok (.aload_n 0, 1) := by decide +kernel
theorem dd_K_writeAnswer_110 : decode cc_K_writeAnswer 110 = .ok (.getfield 33, 3) := by decide +kernel
theorem dd_K_writeAnswer_113 : decode cc_K_writeAnswer 113 = .ok (.ifCond .le 12, 3) := by decide +kernel
theorem dd_K_writeAnswer_116 : decode cc_K_writeAnswer 116 = .ok (.aload_n 0, 1) := by decide +kernel
theorem dd_K_writeAnswer_117 : decode cc_K_writeAnswer 117 = .ok (.getfield 29, 3) := by decide +kernel
theorem dd_K_writeAnswer_120 : decode cc_K_writeAnswer 120 = .ok (.iconst 0, 1) := by decide +kernel
theorem dd_K_writeAnswer_121 : decode cc_K_writeAnswer 121 = .ok (.iaload, 1) := by decide +kernel
theorem dd_K_writeAnswer_122 : decode cc_K_writeAnswer 122 = .ok (.goto 4, 3) := by decide +kernel
theorem dd_K_writeAnswer_125 : decode cc_K_writeAnswer 125 = .ok (.iconst 0, 1) := by decide +kernel
theorem dd_K_writeAnswer_126 : decode cc_K_writeAnswer 126 = .ok (.invokevirtual 158, 3) := by decide +kernel
theorem dd_K_writeAnswer_129 : decode cc_K_writeAnswer 129 = .ok (.aload_n 0, 1) := by decide +kernel
theorem dd_K_writeAnswer_130 : decode cc_K_writeAnswer 130 = .ok (.dup, 1) := by decide +kernel
theorem dd_K_writeAnswer_131 : decode cc_K_writeAnswer 131 = .ok (.getfield 49, 3) := by decide +kernel
theorem dd_K_writeAnswer_134 : decode cc_K_writeAnswer 134 = .ok (.iconst 1, 1) := by decide +kernel
theorem dd_K_writeAnswer_135 : decode cc_K_writeAnswer 135 = .ok (.iadd, 1) := by decide +kernel
theorem dd_K_writeAnswer_136 : decode cc_K_writeAnswer 136 = .ok (.putfield 49, 3) := by decide +kernel
theorem dd_K_writeAnswer_139 : decode cc_K_writeAnswer 139 = .ok (.aload_n 0, 1) := by decide +kernel
theorem dd_K_writeAnswer_140 : decode cc_K_writeAnswer 140 = .ok (.invokevirtual 162, 3) := by decide +kernel
theorem dd_K_writeAnswer_143 : decode cc_K_writeAnswer 143 = .ok (.return_, 1) := by decide +kernel
theorem dd_K_setDue_0 : decode cc_K_setDue 0 = .ok (.aload_n 0, 1) := by decide +kernel
theorem dd_K_setDue_1 : decode cc_K_setDue 1 = .ok (.iload_n 1, 1) := by decide +kernel
theorem dd_K_setDue_2 : decode cc_K_setDue 2 = .ok (.putfield 55, 3) := by decide +kernel
theorem dd_K_setDue_5 : decode cc_K_setDue 5 = .ok (.aload_n 0, 1) := by decide +kernel
theorem dd_K_setDue_6 : decode cc_K_setDue 6 = .ok (.iload_n 2, 1) := by decide +kernel
theorem dd_K_setDue_7 : decode cc_K_setDue 7 = .ok (.putfield 58, 3) := by decide +kernel
theorem dd_K_setDue_10 : decode cc_K_setDue 10 = .ok (.aload_n 0, 1) := by decide +kernel
theorem dd_K_setDue_11 : decode cc_K_setDue 11 = .ok (.iload_n 3, 1) := by decide +kernel
theorem dd_K_setDue_12 : decode cc_K_setDue 12 = .ok (.putfield 62, 3) := by decide +kernel
theorem dd_K_setDue_15 : decode cc_K_setDue 15 = .ok (.return_, 1) := by decide +kernel
theorem dd_K_dequeue_0 : decode cc_K_dequeue 0 = .ok (.aload_n 0, 1) := by decide +kernel
theorem dd_K_dequeue_1 : decode cc_K_dequeue 1 = .ok (.getfield 33, 3) := by decide +kernel
theorem dd_K_dequeue_4 : decode cc_K_dequeue 4 = .ok (.ifCond .ne 4, 3) := by decide +kernel
theorem dd_K_dequeue_7 : decode cc_K_dequeue 7 = .ok (.return_, 1) := by decide +kernel
theorem dd_K_dequeue_8 : decode cc_K_dequeue 8 = .ok (.aload_n 0, 1) := by decide +kernel
theorem dd_K_dequeue_9 : decode cc_K_dequeue 9 = .ok (.dup, 1) := by decide +kernel
theorem dd_K_dequeue_10 : decode cc_K_dequeue 10 = .ok (.getfield 33, 3) := by decide +kernel
theorem dd_K_dequeue_13 : decode cc_K_dequeue 13 = .ok (.iconst 1, 1) := by decide +kernel
theorem dd_K_dequeue_14 : decode cc_K_dequeue 14 = .ok (.isub, 1) := by decide +kernel
theorem dd_K_dequeue_15 : decode cc_K_dequeue 15 = .ok (.putfield 33, 3) := by decide +kernel
theorem dd_K_dequeue_18 : decode cc_K_dequeue 18 = .ok (.iconst 0, 1) := by decide +kernel
theorem dd_K_dequeue_19 : decode cc_K_dequeue 19 = .ok (.istore_n 1, 1) := by decide +kernel
theorem dd_K_dequeue_20 : decode cc_K_dequeue 20 = .ok (.iload_n 1, 1) := by decide +kernel
theorem dd_K_dequeue_21 : decode cc_K_dequeue 21 = .ok (.aload_n 0, 1) := by decide +kernel
theorem dd_K_dequeue_22 : decode cc_K_dequeue 22 = .ok (.getfield 33, 3) := by decide +kernel
theorem dd_K_dequeue_25 : decode cc_K_dequeue 25 = .ok (.if_icmp .ge 37, 3) := by decide +kernel
theorem dd_K_dequeue_28 : decode cc_K_dequeue 28 = .ok (.aload_n 0, 1) := by decide +kernel
theorem dd_K_dequeue_29 : decode cc_K_dequeue 29 = .ok (.getfield 25, 3) := by decide +kernel
theorem dd_K_dequeue_32 : decode cc_K_dequeue 32 = .ok (.iload_n 1, 1) := by decide +kernel
theorem dd_K_dequeue_33 : decode cc_K_dequeue 33 = .ok (.aload_n 0, 1) := by decide +kernel
theorem dd_K_dequeue_34 : decode cc_K_dequeue 34 = .ok (.getfield 25, 3) := by decide +kernel
theorem dd_K_dequeue_37 : decode cc_K_dequeue 37 = .ok (.iload_n 1, 1) := by decide +kernel
theorem dd_K_dequeue_38 : decode cc_K_dequeue 38 = .ok (.iconst 1, 1) := by decide +kernel
theorem dd_K_dequeue_39 : decode cc_K_dequeue 39 = .ok (.iadd, 1) := by decide +kernel
theorem dd_K_dequeue_40 : decode cc_K_dequeue 40 = .ok (.laload, 1) := by decide +kernel
theorem dd_K_dequeue_41 : decode cc_K_dequeue 41 = .ok (.lastore, 1) := by decide +kernel
theorem dd_K_dequeue_42 : decode cc_K_dequeue 42 = .ok (.aload_n 0, 1) := by decide +kernel
theorem dd_K_dequeue_43 : decode cc_K_dequeue 43 = .ok (.getfield 29, 3) := by decide +kernel
theorem dd_K_dequeue_46 : decode cc_K_dequeue 46 = .ok (.iload_n 1, 1) := by decide +kernel
theorem dd_K_dequeue_47 : decode cc_K_dequeue 47 = .ok (.aload_n 0, 1) := by decide +kernel
theorem dd_K_dequeue_48 : decode cc_K_dequeue 48 = .ok (.getfield 29, 3) := by decide +kernel
theorem dd_K_dequeue_51 : decode cc_K_dequeue 51 = .ok (.iload_n 1, 1) := by decide +kernel
theorem dd_K_dequeue_52 : decode cc_K_dequeue 52 = .ok (.iconst 1, 1) := by decide +kernel
theorem dd_K_dequeue_53 : decode cc_K_dequeue 53 = .ok (.iadd, 1) := by decide +kernel
theorem dd_K_dequeue_54 : decode cc_K_dequeue 54 = .ok (.iaload, 1) := by decide +kernel
theorem dd_K_dequeue_55 : decode cc_K_dequeue 55 = .ok (.iastore, 1) := by decide +kernel
theorem dd_K_dequeue_56 : decode cc_K_dequeue 56 = .ok (.iinc 1 1, 3) := by decide +kernel
theorem dd_K_dequeue_59 : decode cc_K_dequeue 59 = .ok (.goto (-39), 3) := by decide +kernel
theorem dd_K_dequeue_62 : decode cc_K_dequeue 62 = .ok (.return_, 1) := by decide +kernel
theorem dd_A_init_0 : decode cc_A_init 0 = .ok (.aload_n 0, 1) := by decide +kernel
theorem dd_A_init_1 : decode cc_A_init 1 = .ok (.invokespecial 1, 3) := by decide +kernel
theorem dd_A_init_4 : decode cc_A_init 4 = .ok (.aload_n 0, 1) := by decide +kernel
theorem dd_A_init_5 : decode cc_A_init 5 = .ok (.bipush 12, 2) := by decide +kernel
theorem dd_A_init_7 : decode cc_A_init 7 = .ok (.anewarray 9, 3) := by decide +kernel
theorem dd_A_init_10 : decode cc_A_init 10 = .ok (.putfield 11, 3) := by decide +kernel
theorem dd_A_init_13 : decode cc_A_init 13 = .ok (.aload_n 0, 1) := by decide +kernel
theorem dd_A_init_14 : decode cc_A_init 14 = .ok (.bipush 8, 2) := by decide +kernel
theorem dd_A_init_16 : decode cc_A_init 16 = .ok (.anewarray 9, 3) := by decide +kernel
theorem dd_A_init_19 : decode cc_A_init 19 = .ok (.putfield 15, 3) := by decide +kernel
theorem dd_A_init_22 : decode cc_A_init 22 = .ok (.aload_n 0, 1) := by decide +kernel
theorem dd_A_init_23 : decode cc_A_init 23 = .ok (.iconst 0, 1) := by decide +kernel
theorem dd_A_init_24 : decode cc_A_init 24 = .ok (.putfield 18, 3) := by decide +kernel
theorem dd_A_init_27 : decode cc_A_init 27 = .ok (.aload_n 0, 1) := by decide +kernel
theorem dd_A_init_28 : decode cc_A_init 28 = .ok (.iconst 0, 1) := by decide +kernel
theorem dd_A_init_29 : decode cc_A_init 29 = .ok (.putfield 22, 3) := by decide +kernel
theorem dd_A_init_32 : decode cc_A_init 32 = .ok (.iconst 0, 1) := by decide +kernel
theorem dd_A_init_33 : decode cc_A_init 33 = .ok (.istore_n 1, 1) := by decide +kernel
theorem dd_A_init_34 : decode cc_A_init 34 = .ok (.iload_n 1, 1) := by decide +kernel
theorem dd_A_init_35 : decode cc_A_init 35 = .ok (.bipush 12, 2) := by decide +kernel
theorem dd_A_init_37 : decode cc_A_init 37 = .ok (.if_icmp .ge 22, 3) := by decide +kernel
theorem dd_A_init_40 : decode cc_A_init 40 = .ok (.aload_n 0, 1) := by decide +kernel
theorem dd_A_init_41 : decode cc_A_init 41 = .ok (.getfield 11, 3) := by decide +kernel
theorem dd_A_init_44 : decode cc_A_init 44 = .ok (.iload_n 1, 1) := by decide +kernel
theorem dd_A_init_45 : decode cc_A_init 45 = .ok (.new 9, 3) := by decide +kernel
theorem dd_A_init_48 : decode cc_A_init 48 = .ok (.dup, 1) := by decide +kernel
theorem dd_A_init_49 : decode cc_A_init 49 = .ok (.invokespecial 25, 3) := by decide +kernel
theorem dd_A_init_52 : decode cc_A_init 52 = .ok (.aastore, 1) := by decide +kernel
theorem dd_A_init_53 : decode cc_A_init 53 = .ok (.iinc 1 1, 3) := by decide +kernel
theorem dd_A_init_56 : decode cc_A_init 56 = .ok (.goto (-22), 3) := by decide +kernel
theorem dd_A_init_59 : decode cc_A_init 59 = .ok (.iconst 0, 1) := by decide +kernel
theorem dd_A_init_60 : decode cc_A_init 60 = .ok (.istore_n 1, 1) := by decide +kernel
theorem dd_A_init_61 : decode cc_A_init 61 = .ok (.iload_n 1, 1) := by decide +kernel
theorem dd_A_init_62 : decode cc_A_init 62 = .ok (.bipush 8, 2) := by decide +kernel
theorem dd_A_init_64 : decode cc_A_init 64 = .ok (.if_icmp .ge 22, 3) := by decide +kernel
theorem dd_A_init_67 : decode cc_A_init 67 = .ok (.aload_n 0, 1) := by decide +kernel
theorem dd_A_init_68 : decode cc_A_init 68 = .ok (.getfield 15, 3) := by decide +kernel
theorem dd_A_init_71 : decode cc_A_init 71 = .ok (.iload_n 1, 1) := by decide +kernel
theorem dd_A_init_72 : decode cc_A_init 72 = .ok (.new 9, 3) := by decide +kernel
theorem dd_A_init_75 : decode cc_A_init 75 = .ok (.dup, 1) := by decide +kernel
theorem dd_A_init_76 : decode cc_A_init 76 = .ok (.invokespecial 25, 3) := by decide +kernel
theorem dd_A_init_79 : decode cc_A_init 79 = .ok (.aastore, 1) := by decide +kernel
theorem dd_A_init_80 : decode cc_A_init 80 = .ok (.iinc 1 1, 3) := by decide +kernel
theorem dd_A_init_83 : decode cc_A_init 83 = .ok (.goto (-22), 3) := by decide +kernel
theorem dd_A_init_86 : decode cc_A_init 86 = .ok (.return_, 1) := by decide +kernel
