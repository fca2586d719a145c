theorem dX0_init_0 : decode cX0_init 0 = .ok (.aload_n 0, 1) := by decide +kernel
theorem dX0_init_1 : decode cX0_init 1 = .ok (.invokespecial 3, 3) := by decide +kernel
theorem dX0_init_4 : decode cX0_init 4 = .ok (.aload_n 0, 1) := by decide +kernel
theorem dX0_init_5 : decode cX0_init 5 = .ok (.bipush 100, 2) := by decide +kernel
theorem dX0_init_7 : decode cX0_init 7 = .ok (.newarray .int, 2) := by decide +kernel
theorem dX0_init_9 : decode cX0_init 9 = .ok (.putfield 9, 3) := by decide +kernel
theorem dX0_init_12 : decode cX0_init 12 = .ok (.return_, 1) := by decide +kernel
theorem dX0_becomeAs_0 : decode cX0_becomeAs 0 = .ok (.aload_n 0, 1) := by decide +kernel
theorem dX0_becomeAs_1 : decode cX0_becomeAs 1 = .ok (.aload_n 1, 1) := by decide +kernel
theorem dX0_becomeAs_2 : decode cX0_becomeAs 2 = .ok (.getfield 15, 3) := by decide +kernel
theorem dX0_becomeAs_5 : decode cX0_becomeAs 5 = .ok (.putfield 15, 3) := by decide +kernel
theorem dX0_becomeAs_8 : decode cX0_becomeAs 8 = .ok (.aload_n 1, 1) := by decide +kernel
theorem dX0_becomeAs_9 : decode cX0_becomeAs 9 = .ok (.getfield 9, 3) := by decide +kernel
theorem dX0_becomeAs_12 : decode cX0_becomeAs 12 = .ok (.iconst 0, 1) := by decide +kernel
theorem dX0_becomeAs_13 : decode cX0_becomeAs 13 = .ok (.aload_n 0, 1) := by decide +kernel
theorem dX0_becomeAs_14 : decode cX0_becomeAs 14 = .ok (.getfield 9, 3) := by decide +kernel
theorem dX0_becomeAs_17 : decode cX0_becomeAs 17 = .ok (.iconst 0, 1) := by decide +kernel
theorem dX0_becomeAs_18 : decode cX0_becomeAs 18 = .ok (.aload_n 0, 1) := by decide +kernel
theorem dX0_becomeAs_19 : decode cX0_becomeAs 19 = .ok (.getfield 9, 3) := by decide +kernel
theorem dX0_becomeAs_22 : decode cX0_becomeAs 22 = .ok (.arraylength, 1) := by decide +kernel
theorem dX0_becomeAs_23 : decode cX0_becomeAs 23 = .ok (.invokestatic 19, 3) := by decide +kernel
theorem dX0_becomeAs_26 : decode cX0_becomeAs 26 = .ok (.return_, 1) := by decide +kernel
theorem dX0_has_0 : decode cX0_has 0 = .ok (.iload_n 1, 1) := by decide +kernel
theorem dX0_has_1 : decode cX0_has 1 = .ok (.ifCond .lt 21, 3) := by decide +kernel
theorem dX0_has_4 : decode cX0_has 4 = .ok (.iload_n 1, 1) := by decide +kernel
theorem dX0_has_5 : decode cX0_has 5 = .ok (.aload_n 0, 1) := by decide +kernel
theorem dX0_has_6 : decode cX0_has 6 = .ok (.getfield 15, 3) := by decide +kernel
theorem dX0_has_9 : decode cX0_has 9 = .ok (.if_icmp .ge 13, 3) := by decide +kernel
theorem dX0_has_12 : decode cX0_has 12 = .ok (.iload_n 1, 1) := by decide +kernel
theorem dX0_has_13 : decode cX0_has 13 = .ok (.bipush 20, 2) := by decide +kernel
theorem dX0_has_15 : decode cX0_has 15 = .ok (.if_icmp .ge 7, 3) := by decide +kernel
theorem dX0_has_18 : decode cX0_has 18 = .ok (.iconst 1, 1) := by decide +kernel
theorem dX0_has_19 : decode cX0_has 19 = .ok (.goto 4, 3) := by decide +kernel
theorem dX0_has_22 : decode cX0_has 22 = .ok (.iconst 0, 1) := by decide +kernel
theorem dX0_has_23 : decode cX0_has 23 = .ok (.ireturn, 1) := by decide +kernel
theorem dX0_read_0 : decode cX0_read 0 = .ok (.aload_n 0, 1) := by decide +kernel
theorem dX0_read_1 : decode cX0_read 1 = .ok (.iload_n 1, 1) := by decide +kernel
theorem dX0_read_2 : decode cX0_read 2 = .ok (.invokevirtual 25, 3) := by decide +kernel
theorem dX0_read_5 : decode cX0_read 5 = .ok (.ifCond .eq 25, 3) := by decide +kernel
theorem dX0_read_8 : decode cX0_read 8 = .ok (.iload_n 2, 1) := by decide +kernel
theorem dX0_read_9 : decode cX0_read 9 = .ok (.iconst 0, 1) := by decide +kernel
theorem dX0_read_10 : decode cX0_read 10 = .ok (.iconst 4, 1) := by decide +kernel
theorem dX0_read_11 : decode cX0_read 11 = .ok (.invokestatic 29, 3) := by decide +kernel
theorem dX0_read_14 : decode cX0_read 14 = .ok (.ifCond .eq 16, 3) := by decide +kernel
theorem dX0_read_17 : decode cX0_read 17 = .ok (.aload_n 0, 1) := by decide +kernel
theorem dX0_read_18 : decode cX0_read 18 = .ok (.getfield 9, 3) := by decide +kernel
theorem dX0_read_21 : decode cX0_read 21 = .ok (.iload_n 1, 1) := by decide +kernel
theorem dX0_read_22 : decode cX0_read 22 = .ok (.iconst 5, 1) := by decide +kernel
theorem dX0_read_23 : decode cX0_read 23 = .ok (.imul, 1) := by decide +kernel
theorem dX0_read_24 : decode cX0_read 24 = .ok (.iload_n 2, 1) := by decide +kernel
theorem dX0_read_25 : decode cX0_read 25 = .ok (.iadd, 1) := by decide +kernel
theorem dX0_read_26 : decode cX0_read 26 = .ok (.iaload, 1) := by decide +kernel
theorem dX0_read_27 : decode cX0_read 27 = .ok (.goto 5, 3) := by decide +kernel
theorem dX0_read_30 : decode cX0_read 30 = .ok (.ldc 33, 2) := by decide +kernel
theorem dX0_read_32 : decode cX0_read 32 = .ok (.ireturn, 1) := by decide +kernel
theorem dX0_write_0 : decode cX0_write 0 = .ok (.aload_n 0, 1) := by decide +kernel
theorem dX0_write_1 : decode cX0_write 1 = .ok (.getfield 15, 3) := by decide +kernel
theorem dX0_write_4 : decode cX0_write 4 = .ok (.bipush 20, 2) := by decide +kernel
theorem dX0_write_6 : decode cX0_write 6 = .ok (.if_icmp .lt 29, 3) := by decide +kernel
theorem dX0_write_9 : decode cX0_write 9 = .ok (.aload_n 0, 1) := by decide +kernel
theorem dX0_write_10 : decode cX0_write 10 = .ok (.getfield 9, 3) := by decide +kernel
theorem dX0_write_13 : decode cX0_write 13 = .ok (.iconst 5, 1) := by decide +kernel
theorem dX0_write_14 : decode cX0_write 14 = .ok (.aload_n 0, 1) := by decide +kernel
theorem dX0_write_15 : decode cX0_write 15 = .ok (.getfield 9, 3) := by decide +kernel
theorem dX0_write_18 : decode cX0_write 18 = .ok (.iconst 0, 1) := by decide +kernel
theorem dX0_write_19 : decode cX0_write 19 = .ok (.aload_n 0, 1) := by decide +kernel
theorem dX0_write_20 : decode cX0_write 20 = .ok (.getfield 9, 3) := by decide +kernel
theorem dX0_write_23 : decode cX0_write 23 = .ok (.arraylength, 1) := by decide +kernel
theorem dX0_write_24 : decode cX0_write 24 = .ok (.iconst 5, 1) := by decide +kernel
theorem dX0_write_25 : decode cX0_write 25 = .ok (.isub, 1) := by decide +kernel
theorem dX0_write_26 : decode cX0_write 26 = .ok (.invokestatic 19, 3) := by decide +kernel
theorem dX0_write_29 : decode cX0_write 29 = .ok (.aload_n 0, 1) := by decide +kernel
theorem dX0_write_30 : decode cX0_write 30 = .ok (.bipush 19, 2) := by decide +kernel
theorem dX0_write_32 : decode cX0_write 32 = .ok (.putfield 15, 3) := by decide +kernel
theorem dX0_write_35 : decode cX0_write 35 = .ok (.aload_n 0, 1) := by decide +kernel
theorem dX0_write_36 : decode cX0_write 36 = .ok (.getfield 15, 3) := by decide +kernel
theorem dX0_write_39 : decode cX0_write 39 = .ok (.iconst 5, 1) := by decide +kernel
theorem dX0_write_40 : decode cX0_write 40 = .ok (.imul, 1) := by decide +kernel
theorem dX0_write_41 : decode cX0_write 41 = .ok (.istore 6, 2) := by decide +kernel
theorem dX0_write_43 : decode cX0_write 43 = .ok (.aload_n 0, 1) := by decide +kernel
theorem dX0_write_44 : decode cX0_write 44 = .ok (.getfield 9, 3) := by decide +kernel
theorem dX0_write_47 : decode cX0_write 47 = .ok (.iload 6, 2) := by decide +kernel
theorem dX0_write_49 : decode cX0_write 49 = .ok (.iconst 0, 1) := by decide +kernel
theorem dX0_write_50 : decode cX0_write 50 = .ok (.iadd, 1) := by decide +kernel
theorem dX0_write_51 : decode cX0_write 51 = .ok (.iload_n 1, 1) := by decide +kernel
theorem dX0_write_52 : decode cX0_write 52 = .ok (.iastore, 1) := by decide +kernel
theorem dX0_write_53 : decode cX0_write 53 = .ok (.aload_n 0, 1) := by decide +kernel
theorem dX0_write_54 : decode cX0_write 54 = .ok (.getfield 9, 3) := by decide +kernel
theorem dX0_write_57 : decode cX0_write 57 = .ok (.iload 6, 2) := by decide +kernel
theorem dX0_write_59 : decode cX0_write 59 = .ok (.iconst 1, 1) := by decide +kernel
theorem dX0_write_60 : decode cX0_write 60 = .ok (.iadd, 1) := by decide +kernel
theorem dX0_write_61 : decode cX0_write 61 = .ok (.iload_n 2, 1) := by decide +kernel
theorem dX0_write_62 : decode cX0_write 62 = .ok (.iastore, 1) := by decide +kernel
theorem dX0_write_63 : decode cX0_write 63 = .ok (.aload_n 0, 1) := by decide +kernel
theorem dX0_write_64 : decode cX0_write 64 = .ok (.getfield 9, 3) := by decide +kernel
theorem dX0_write_67 : decode cX0_write 67 = .ok (.iload 6, 2) := by decide +kernel
theorem dX0_write_69 : decode cX0_write 69 = .ok (.iconst 2, 1) := by decide +kernel
theorem dX0_write_70 : decode cX0_write 70 = .ok (.iadd, 1) := by decide +kernel
theorem dX0_write_71 : decode cX0_write 71 = .ok (.iload_n 3, 1) := by decide +kernel
theorem dX0_write_72 : decode cX0_write 72 = .ok (.iastore, 1) := by decide +kernel
theorem dX0_write_73 : decode cX0_write 73 = .ok (.aload_n 0, 1) := by decide +kernel
theorem dX0_write_74 : decode cX0_write 74 = .ok (.getfield 9, 3) := by decide +kernel
theorem dX0_write_77 : decode cX0_write 77 = .ok (.iload 6, 2) := by decide +kernel
theorem dX0_write_79 : decode cX0_write 79 = .ok (.iconst 3, 1) := by decide +kernel
theorem dX0_write_80 : decode cX0_write 80 = .ok (.iadd, 1) := by decide +kernel
theorem dX0_write_81 : decode cX0_write 81 = .ok (.iload 4, 2) := by decide +kernel
theorem dX0_write_83 : decode cX0_write 83 = .ok (.iastore, 1) := by decide +kernel
theorem dX0_write_84 : decode cX0_write 84 = .ok (.aload_n 0, 1) := by decide +kernel
theorem dX0_write_85 : decode cX0_write 85 = .ok (.getfield 9, 3) := by decide +kernel
theorem dX0_write_88 : decode cX0_write 88 = .ok (.iload 6, 2) := by decide +kernel
theorem dX0_write_90 : decode cX0_write 90 = .ok (.iconst 4, 1) := by decide +kernel
theorem dX0_write_91 : decode cX0_write 91 = .ok (.iadd, 1) := by decide +kernel
theorem dX0_write_92 : decode cX0_write 92 = .ok (.iload 5, 2) := by decide +kernel
theorem dX0_write_94 : decode cX0_write 94 = .ok (.iastore, 1) := by decide +kernel
theorem dX0_write_95 : decode cX0_write 95 = .ok (.aload_n 0, 1) := by decide +kernel
theorem dX0_write_96 : decode cX0_write 96 = .ok (.dup, 1) := by decide +kernel
theorem dX0_write_97 : decode cX0_write 97 = .ok (.getfield 15, 3) := by decide +kernel
theorem dX0_write_100 : decode cX0_write 100 = .ok (.iconst 1, 1) := by decide +kernel
theorem dX0_write_101 : decode cX0_write 101 = .ok (.iadd, 1) := by decide +kernel
theorem dX0_write_102 : decode cX0_write 102 = .ok (.putfield 15, 3) := by decide +kernel
theorem dX0_write_105 : decode cX0_write 105 = .ok (.return_, 1) := by decide +kernel
theorem dX1_init_0 : decode cX1_init 0 = .ok (.aload_n 0, 1) := by decide +kernel
theorem dX1_init_1 : decode cX1_init 1 = .ok (.invokespecial 3, 3) := by decide +kernel
theorem dX1_init_4 : decode cX1_init 4 = .ok (.aload_n 0, 1) := by decide +kernel
theorem dX1_init_5 : decode cX1_init 5 = .ok (.new 9, 3) := by decide +kernel
theorem dX1_init_8 : decode cX1_init 8 = .ok (.dup, 1) := by decide +kernel
theorem dX1_init_9 : decode cX1_init 9 = .ok (.invokespecial 11, 3) := by decide +kernel
theorem dX1_init_12 : decode cX1_init 12 = .ok (.putfield 12, 3) := by decide +kernel
theorem dX1_init_15 : decode cX1_init 15 = .ok (.aload_n 0, 1) := by decide +kernel
theorem dX1_init_16 : decode cX1_init 16 = .ok (.bipush 96, 2) := by decide +kernel
theorem dX1_init_18 : decode cX1_init 18 = .ok (.newarray .int, 2) := by decide +kernel
theorem dX1_init_20 : decode cX1_init 20 = .ok (.putfield 18, 3) := by decide +kernel
theorem dX1_init_23 : decode cX1_init 23 = .ok (.return_, 1) := by decide +kernel
theorem dX1_readTape_0 : decode cX1_readTape 0 = .ok (.aload_n 0, 1) := by decide +kernel
theorem dX1_readTape_1 : decode cX1_readTape 1 = .ok (.iconst (-1), 1) := by decide +kernel
theorem dX1_readTape_2 : decode cX1_readTape 2 = .ok (.putfield 22, 3) := by decide +kernel
theorem dX1_readTape_5 : decode cX1_readTape 5 = .ok (.aload_n 0, 1) := by decide +kernel
theorem dX1_readTape_6 : decode cX1_readTape 6 = .ok (.iconst 0, 1) := by decide +kernel
theorem dX1_readTape_7 : decode cX1_readTape 7 = .ok (.putfield 26, 3) := by decide +kernel
theorem dX1_readTape_10 : decode cX1_readTape 10 = .ok (.aload_n 0, 1) := by decide +kernel
theorem dX1_readTape_11 : decode cX1_readTape 11 = .ok (.iconst 0, 1) := by decide +kernel
theorem dX1_readTape_12 : decode cX1_readTape 12 = .ok (.putfield 29, 3) := by decide +kernel
theorem dX1_readTape_15 : decode cX1_readTape 15 = .ok (.aload_n 0, 1) := by decide +kernel
theorem dX1_readTape_16 : decode cX1_readTape 16 = .ok (.iconst (-1), 1) := by decide +kernel
theorem dX1_readTape_17 : decode cX1_readTape 17 = .ok (.putfield 32, 3) := by decide +kernel
theorem dX1_readTape_20 : decode cX1_readTape 20 = .ok (.aload_n 0, 1) := by decide +kernel
theorem dX1_readTape_21 : decode cX1_readTape 21 = .ok (.iconst 0, 1) := by decide +kernel
theorem dX1_readTape_22 : decode cX1_readTape 22 = .ok (.putfield 35, 3) := by decide +kernel
theorem dX1_readTape_25 : decode cX1_readTape 25 = .ok (.aload_n 0, 1) := by decide +kernel
theorem dX1_readTape_26 : decode cX1_readTape 26 = .ok (.iconst 0, 1) := by decide +kernel
theorem dX1_readTape_27 : decode cX1_readTape 27 = .ok (.putfield 38, 3) := by decide +kernel
theorem dX1_readTape_30 : decode cX1_readTape 30 = .ok (.aload_n 0, 1) := by decide +kernel
theorem dX1_readTape_31 : decode cX1_readTape 31 = .ok (.invokevirtual 41, 3) := by decide +kernel
theorem dX1_readTape_34 : decode cX1_readTape 34 = .ok (.aload_n 0, 1) := by decide +kernel
theorem dX1_readTape_35 : decode cX1_readTape 35 = .ok (.invokevirtual 44, 3) := by decide +kernel
theorem dX1_readTape_38 : decode cX1_readTape 38 = .ok (.aload_n 0, 1) := by decide +kernel
theorem dX1_readTape_39 : decode cX1_readTape 39 = .ok (.getfield 32, 3) := by decide +kernel
theorem dX1_readTape_42 : decode cX1_readTape 42 = .ok (.iconst (-1), 1) := by decide +kernel
theorem dX1_readTape_43 : decode cX1_readTape 43 = .ok (.if_icmp .ne 10, 3) := by decide +kernel
theorem dX1_readTape_46 : decode cX1_readTape 46 = .ok (.aload_n 0, 1) := by decide +kernel
theorem dX1_readTape_47 : decode cX1_readTape 47 = .ok (.iconst 0, 1) := by decide +kernel
theorem dX1_readTape_48 : decode cX1_readTape 48 = .ok (.iconst 0, 1) := by decide +kernel
theorem dX1_readTape_49 : decode cX1_readTape 49 = .ok (.iconst 0, 1) := by decide +kernel
theorem dX1_readTape_50 : decode cX1_readTape 50 = .ok (.invokevirtual 47, 3) := by decide +kernel
theorem dX1_readTape_53 : decode cX1_readTape 53 = .ok (.aload_n 0, 1) := by decide +kernel
theorem dX1_readTape_54 : decode cX1_readTape 54 = .ok (.getfield 22, 3) := by decide +kernel
theorem dX1_readTape_57 : decode cX1_readTape 57 = .ok (.iconst (-1), 1) := by decide +kernel
theorem dX1_readTape_58 : decode cX1_readTape 58 = .ok (.if_icmp .eq 7, 3) := by decide +kernel
theorem dX1_readTape_61 : decode cX1_readTape 61 = .ok (.aload_n 0, 1) := by decide +kernel
theorem dX1_readTape_62 : decode cX1_readTape 62 = .ok (.invokevirtual 51, 3) := by decide +kernel
theorem dX1_readTape_65 : decode cX1_readTape 65 = .ok (.aload_n 0, 1) := by decide +kernel
theorem dX1_readTape_66 : decode cX1_readTape 66 = .ok (.getfield 32, 3) := by decide +kernel
theorem dX1_readTape_69 : decode cX1_readTape 69 = .ok (.iconst (-1), 1) := by decide +kernel
theorem dX1_readTape_70 : decode cX1_readTape 70 = .ok (.if_icmp .ne 32, 3) := by decide +kernel
theorem dX1_readTape_73 : decode cX1_readTape 73 = .ok (.new 54, 3) := by decide +kernel
theorem dX1_readTape_76 : decode cX1_readTape 76 = .ok (.dup, 1) := by decide +kernel
theorem dX1_readTape_77 : decode cX1_readTape 77 = .ok (.aload_n 0, 1) := by decide +kernel
theorem dX1_readTape_78 : decode cX1_readTape 78 = .ok (.getfield 56, 3) := by decide +kernel
theorem dX1_readTape_81 : decode cX1_readTape 81 = .ok (.aload_n 0, 1) := by decide +kernel
theorem dX1_readTape_82 : decode cX1_readTape 82 = .ok (.getfield 35, 3) := by decide +kernel
theorem dX1_readTape_85 : decode cX1_readTape 85 = .ok (.aload_n 0, 1) := by decide +kernel
theorem dX1_readTape_86 : decode cX1_readTape 86 = .ok (.getfield 18, 3) := by decide +kernel
theorem dX1_readTape_89 : decode cX1_readTape 89 = .ok (.aload_n 0, 1) := by decide +kernel
theorem dX1_readTape_90 : decode cX1_readTape 90 = .ok (.getfield 38, 3) := by decide +kernel
theorem dX1_readTape_93 : decode cX1_readTape 93 = .ok (.invokestatic 59, 3) := by decide +kernel
theorem dX1_readTape_96 : decode cX1_readTape 96 = .ok (.invokespecial 65, 3) := by decide +kernel
theorem dX1_readTape_99 : decode cX1_readTape 99 = .ok (.goto 4, 3) := by decide +kernel
theorem dX1_readTape_102 : decode cX1_readTape 102 = .ok (.aconst_null, 1) := by decide +kernel
theorem dX1_readTape_103 : decode cX1_readTape 103 = .ok (.areturn, 1) := by decide +kernel
theorem dX1_faultPlace_0 : decode cX1_faultPlace 0 = .ok (.iconst 0, 1) := by decide +kernel
theorem dX1_faultPlace_1 : decode cX1_faultPlace 1 = .ok (.aload_n 0, 1) := by decide +kernel
theorem dX1_faultPlace_2 : decode cX1_faultPlace 2 = .ok (.getfield 32, 3) := by decide +kernel
theorem dX1_faultPlace_5 : decode cX1_faultPlace 5 = .ok (.invokestatic 68, 3) := by decide +kernel
theorem dX1_faultPlace_8 : decode cX1_faultPlace 8 = .ok (.ireturn, 1) := by decide +kernel
theorem dX1_stop_0 : decode cX1_stop 0 = .ok (.aload_n 0, 1) := by decide +kernel
theorem dX1_stop_1 : decode cX1_stop 1 = .ok (.getfield 32, 3) := by decide +kernel
theorem dX1_stop_4 : decode cX1_stop 4 = .ok (.iconst (-1), 1) := by decide +kernel
theorem dX1_stop_5 : decode cX1_stop 5 = .ok (.if_icmp .ne 11, 3) := by decide +kernel
theorem dX1_stop_8 : decode cX1_stop 8 = .ok (.aload_n 0, 1) := by decide +kernel
theorem dX1_stop_9 : decode cX1_stop 9 = .ok (.aload_n 0, 1) := by decide +kernel
theorem dX1_stop_10 : decode cX1_stop 10 = .ok (.getfield 26, 3) := by decide +kernel
theorem dX1_stop_13 : decode cX1_stop 13 = .ok (.putfield 32, 3) := by decide +kernel
theorem dX1_stop_16 : decode cX1_stop 16 = .ok (.return_, 1) := by decide +kernel
theorem dX1_goOn_0 : decode cX1_goOn 0 = .ok (.aload_n 0, 1) := by decide +kernel
theorem dX1_goOn_1 : decode cX1_goOn 1 = .ok (.getfield 22, 3) := by decide +kernel
theorem dX1_goOn_4 : decode cX1_goOn 4 = .ok (.bipush (-2), 2) := by decide +kernel
theorem dX1_goOn_6 : decode cX1_goOn 6 = .ok (.if_icmp .eq 12, 3) := by decide +kernel
theorem dX1_goOn_9 : decode cX1_goOn 9 = .ok (.aload_n 0, 1) := by decide +kernel
theorem dX1_goOn_10 : decode cX1_goOn 10 = .ok (.getfield 22, 3) := by decide +kernel
theorem dX1_goOn_13 : decode cX1_goOn 13 = .ok (.bipush (-3), 2) := by decide +kernel
theorem dX1_goOn_15 : decode cX1_goOn 15 = .ok (.if_icmp .ne 7, 3) := by decide +kernel
theorem dX1_goOn_18 : decode cX1_goOn 18 = .ok (.iconst 1, 1) := by decide +kernel
theorem dX1_goOn_19 : decode cX1_goOn 19 = .ok (.goto 4, 3) := by decide +kernel
theorem dX1_goOn_22 : decode cX1_goOn 22 = .ok (.iconst 0, 1) := by decide +kernel
theorem dX1_goOn_23 : decode cX1_goOn 23 = .ok (.istore_n 1, 1) := by decide +kernel
theorem dX1_goOn_24 : decode cX1_goOn 24 = .ok (.aload_n 0, 1) := by decide +kernel
theorem dX1_goOn_25 : decode cX1_goOn 25 = .ok (.getfield 29, 3) := by decide +kernel
theorem dX1_goOn_28 : decode cX1_goOn 28 = .ok (.istore_n 2, 1) := by decide +kernel
theorem dX1_goOn_29 : decode cX1_goOn 29 = .ok (.aload_n 0, 1) := by decide +kernel
theorem dX1_goOn_30 : decode cX1_goOn 30 = .ok (.aload_n 0, 1) := by decide +kernel
theorem dX1_goOn_31 : decode cX1_goOn 31 = .ok (.iload_n 2, 1) := by decide +kernel
theorem dX1_goOn_32 : decode cX1_goOn 32 = .ok (.bipush 32, 2) := by decide +kernel
theorem dX1_goOn_34 : decode cX1_goOn 34 = .ok (.bipush 32, 2) := by decide +kernel
theorem dX1_goOn_36 : decode cX1_goOn 36 = .ok (.invokevirtual 74, 3) := by decide +kernel
theorem dX1_goOn_39 : decode cX1_goOn 39 = .ok (.putfield 26, 3) := by decide +kernel
theorem dX1_goOn_42 : decode cX1_goOn 42 = .ok (.aload_n 0, 1) := by decide +kernel
theorem dX1_goOn_43 : decode cX1_goOn 43 = .ok (.getfield 12, 3) := by decide +kernel
theorem dX1_goOn_46 : decode cX1_goOn 46 = .ok (.aload_n 0, 1) := by decide +kernel
theorem dX1_goOn_47 : decode cX1_goOn 47 = .ok (.getfield 26, 3) := by decide +kernel
theorem dX1_goOn_50 : decode cX1_goOn 50 = .ok (.invokevirtual 78, 3) := by decide +kernel
theorem dX1_goOn_53 : decode cX1_goOn 53 = .ok (.istore_n 3, 1) := by decide +kernel
theorem dX1_goOn_54 : decode cX1_goOn 54 = .ok (.iload_n 3, 1) := by decide +kernel
theorem dX1_goOn_55 : decode cX1_goOn 55 = .ok (.bipush 97, 2) := by decide +kernel
theorem dX1_goOn_57 : decode cX1_goOn 57 = .ok (.bipush 122, 2) := by decide +kernel
theorem dX1_goOn_59 : decode cX1_goOn 59 = .ok (.invokestatic 82, 3) := by decide +kernel
theorem dX1_goOn_62 : decode cX1_goOn 62 = .ok (.ifCond .eq 28, 3) := by decide +kernel
theorem dX1_goOn_65 : decode cX1_goOn 65 = .ok (.aload_n 0, 1) := by decide +kernel
theorem dX1_goOn_66 : decode cX1_goOn 66 = .ok (.bipush (-2), 2) := by decide +kernel
theorem dX1_goOn_68 : decode cX1_goOn 68 = .ok (.putfield 22, 3) := by decide +kernel
theorem dX1_goOn_71 : decode cX1_goOn 71 = .ok (.aload_n 0, 1) := by decide +kernel
theorem dX1_goOn_72 : decode cX1_goOn 72 = .ok (.aload_n 0, 1) := by decide +kernel
theorem dX1_goOn_73 : decode cX1_goOn 73 = .ok (.aload_n 0, 1) := by decide +kernel
theorem dX1_goOn_74 : decode cX1_goOn 74 = .ok (.getfield 26, 3) := by decide +kernel
theorem dX1_goOn_77 : decode cX1_goOn 77 = .ok (.bipush 97, 2) := by decide +kernel
theorem dX1_goOn_79 : decode cX1_goOn 79 = .ok (.bipush 122, 2) := by decide +kernel
theorem dX1_goOn_81 : decode cX1_goOn 81 = .ok (.invokevirtual 74, 3) := by decide +kernel
theorem dX1_goOn_84 : decode cX1_goOn 84 = .ok (.putfield 29, 3) := by decide +kernel
theorem dX1_goOn_87 : decode cX1_goOn 87 = .ok (.goto 67, 3) := by decide +kernel
theorem dX1_goOn_90 : decode cX1_goOn 90 = .ok (.iload_n 3, 1) := by decide +kernel
theorem dX1_goOn_91 : decode cX1_goOn 91 = .ok (.bipush 48, 2) := by decide +kernel
theorem dX1_goOn_93 : decode cX1_goOn 93 = .ok (.bipush 57, 2) := by decide +kernel
theorem dX1_goOn_95 : decode cX1_goOn 95 = .ok (.invokestatic 82, 3) := by decide +kernel
theorem dX1_goOn_98 : decode cX1_goOn 98 = .ok (.ifCond .eq 28, 3) := by decide +kernel
theorem dX1_goOn_101 : decode cX1_goOn 101 = .ok (.aload_n 0, 1) := by decide +kernel
theorem dX1_goOn_102 : decode cX1_goOn 102 = .ok (.bipush (-3), 2) := by decide +kernel
theorem dX1_goOn_104 : decode cX1_goOn 104 = .ok (.putfield 22, 3) := by decide +kernel
theorem dX1_goOn_107 : decode cX1_goOn 107 = .ok (.aload_n 0, 1) := by decide +kernel
theorem dX1_goOn_108 : decode cX1_goOn 108 = .ok (.aload_n 0, 1) := by decide +kernel
theorem dX1_goOn_109 : decode cX1_goOn 109 = .ok (.aload_n 0, 1) := by decide +kernel
theorem dX1_goOn_110 : decode cX1_goOn 110 = .ok (.getfield 26, 3) := by decide +kernel
theorem dX1_goOn_113 : decode cX1_goOn 113 = .ok (.bipush 48, 2) := by decide +kernel
theorem dX1_goOn_115 : decode cX1_goOn 115 = .ok (.bipush 57, 2) := by decide +kernel
theorem dX1_goOn_117 : decode cX1_goOn 117 = .ok (.invokevirtual 74, 3) := by decide +kernel
theorem dX1_goOn_120 : decode cX1_goOn 120 = .ok (.putfield 29, 3) := by decide +kernel
theorem dX1_goOn_123 : decode cX1_goOn 123 = .ok (.goto 31, 3) := by decide +kernel
theorem dX1_goOn_126 : decode cX1_goOn 126 = .ok (.iload_n 3, 1) := by decide +kernel
theorem dX1_goOn_127 : decode cX1_goOn 127 = .ok (.iconst (-1), 1) := by decide +kernel
theorem dX1_goOn_128 : decode cX1_goOn 128 = .ok (.if_icmp .ne 11, 3) := by decide +kernel
theorem dX1_goOn_131 : decode cX1_goOn 131 = .ok (.aload_n 0, 1) := by decide +kernel
theorem dX1_goOn_132 : decode cX1_goOn 132 = .ok (.iconst (-1), 1) := by decide +kernel
theorem dX1_goOn_133 : decode cX1_goOn 133 = .ok (.putfield 22, 3) := by decide +kernel
theorem dX1_goOn_136 : decode cX1_goOn 136 = .ok (.goto 18, 3) := by decide +kernel
theorem dX1_goOn_139 : decode cX1_goOn 139 = .ok (.aload_n 0, 1) := by decide +kernel
theorem dX1_goOn_140 : decode cX1_goOn 140 = .ok (.iload_n 3, 1) := by decide +kernel
theorem dX1_goOn_141 : decode cX1_goOn 141 = .ok (.putfield 22, 3) := by decide +kernel
theorem dX1_goOn_144 : decode cX1_goOn 144 = .ok (.aload_n 0, 1) := by decide +kernel
theorem dX1_goOn_145 : decode cX1_goOn 145 = .ok (.aload_n 0, 1) := by decide +kernel
theorem dX1_goOn_146 : decode cX1_goOn 146 = .ok (.getfield 26, 3) := by decide +kernel
theorem dX1_goOn_149 : decode cX1_goOn 149 = .ok (.iconst 1, 1) := by decide +kernel
theorem dX1_goOn_150 : decode cX1_goOn 150 = .ok (.iadd, 1) := by decide +kernel
theorem dX1_goOn_151 : decode cX1_goOn 151 = .ok (.putfield 29, 3) := by decide +kernel
theorem dX1_goOn_154 : decode cX1_goOn 154 = .ok (.aload_n 0, 1) := by decide +kernel
theorem dX1_goOn_155 : decode cX1_goOn 155 = .ok (.getfield 22, 3) := by decide +kernel
theorem dX1_goOn_158 : decode cX1_goOn 158 = .ok (.bipush (-2), 2) := by decide +kernel
theorem dX1_goOn_160 : decode cX1_goOn 160 = .ok (.if_icmp .eq 12, 3) := by decide +kernel
theorem dX1_goOn_163 : decode cX1_goOn 163 = .ok (.aload_n 0, 1) := by decide +kernel
theorem dX1_goOn_164 : decode cX1_goOn 164 = .ok (.getfield 22, 3) := by decide +kernel
theorem dX1_goOn_167 : decode cX1_goOn 167 = .ok (.bipush (-3), 2) := by decide +kernel
theorem dX1_goOn_169 : decode cX1_goOn 169 = .ok (.if_icmp .ne 7, 3) := by decide +kernel
theorem dX1_goOn_172 : decode cX1_goOn 172 = .ok (.iconst 1, 1) := by decide +kernel
theorem dX1_goOn_173 : decode cX1_goOn 173 = .ok (.goto 4, 3) := by decide +kernel
theorem dX1_goOn_176 : decode cX1_goOn 176 = .ok (.iconst 0, 1) := by decide +kernel
theorem dX1_goOn_177 : decode cX1_goOn 177 = .ok (.istore 4, 2) := by decide +kernel
theorem dX1_goOn_179 : decode cX1_goOn 179 = .ok (.iload 4, 2) := by decide +kernel
theorem dX1_goOn_181 : decode cX1_goOn 181 = .ok (.ifCond .eq 21, 3) := by decide +kernel
theorem dX1_goOn_184 : decode cX1_goOn 184 = .ok (.iload_n 1, 1) := by decide +kernel
theorem dX1_goOn_185 : decode cX1_goOn 185 = .ok (.ifCond .eq 17, 3) := by decide +kernel
theorem dX1_goOn_188 : decode cX1_goOn 188 = .ok (.aload_n 0, 1) := by decide +kernel
theorem dX1_goOn_189 : decode cX1_goOn 189 = .ok (.getfield 26, 3) := by decide +kernel
theorem dX1_goOn_192 : decode cX1_goOn 192 = .ok (.iload_n 2, 1) := by decide +kernel
theorem dX1_goOn_193 : decode cX1_goOn 193 = .ok (.if_icmp .ne 9, 3) := by decide +kernel
theorem dX1_goOn_196 : decode cX1_goOn 196 = .ok (.aload_n 0, 1) := by decide +kernel
theorem dX1_goOn_197 : decode cX1_goOn 197 = .ok (.bipush (-4), 2) := by decide +kernel
theorem dX1_goOn_199 : decode cX1_goOn 199 = .ok (.putfield 22, 3) := by decide +kernel
theorem dX1_goOn_202 : decode cX1_goOn 202 = .ok (.return_, 1) := by decide +kernel
theorem dX1_endOfRow_0 : decode cX1_endOfRow 0 = .ok (.iload_n 1, 1) := by decide +kernel
theorem dX1_endOfRow_1 : decode cX1_endOfRow 1 = .ok (.istore 4, 2) := by decide +kernel
theorem dX1_endOfRow_3 : decode cX1_endOfRow 3 = .ok (.iload 4, 2) := by decide +kernel
theorem dX1_endOfRow_5 : decode cX1_endOfRow 5 = .ok (.aload_n 0, 1) := by decide +kernel
theorem dX1_endOfRow_6 : decode cX1_endOfRow 6 = .ok (.getfield 12, 3) := by decide +kernel
theorem dX1_endOfRow_9 : decode cX1_endOfRow 9 = .ok (.getfield 86, 3) := by decide +kernel
theorem dX1_endOfRow_12 : decode cX1_endOfRow 12 = .ok (.if_icmp .ge 26, 3) := by decide +kernel
theorem dX1_endOfRow_15 : decode cX1_endOfRow 15 = .ok (.aload_n 0, 1) := by decide +kernel
theorem dX1_endOfRow_16 : decode cX1_endOfRow 16 = .ok (.getfield 12, 3) := by decide +kernel
theorem dX1_endOfRow_19 : decode cX1_endOfRow 19 = .ok (.iload 4, 2) := by decide +kernel
theorem dX1_endOfRow_21 : decode cX1_endOfRow 21 = .ok (.invokevirtual 78, 3) := by decide +kernel
theorem dX1_endOfRow_24 : decode cX1_endOfRow 24 = .ok (.iload_n 2, 1) := by decide +kernel
theorem dX1_endOfRow_25 : decode cX1_endOfRow 25 = .ok (.iload_n 3, 1) := by decide +kernel
theorem dX1_endOfRow_26 : decode cX1_endOfRow 26 = .ok (.invokestatic 82, 3) := by decide +kernel
theorem dX1_endOfRow_29 : decode cX1_endOfRow 29 = .ok (.ifCond .eq 9, 3) := by decide +kernel
theorem dX1_endOfRow_32 : decode cX1_endOfRow 32 = .ok (.iinc 4 1, 3) := by decide +kernel
theorem dX1_endOfRow_35 : decode cX1_endOfRow 35 = .ok (.goto (-32), 3) := by decide +kernel
theorem dX1_endOfRow_38 : decode cX1_endOfRow 38 = .ok (.iload 4, 2) := by decide +kernel
theorem dX1_endOfRow_40 : decode cX1_endOfRow 40 = .ok (.ireturn, 1) := by decide +kernel
theorem dX1_isWord_0 : decode cX1_isWord 0 = .ok (.aload_n 0, 1) := by decide +kernel
theorem dX1_isWord_1 : decode cX1_isWord 1 = .ok (.getfield 22, 3) := by decide +kernel
theorem dX1_isWord_4 : decode cX1_isWord 4 = .ok (.bipush (-2), 2) := by decide +kernel
theorem dX1_isWord_6 : decode cX1_isWord 6 = .ok (.if_icmp .ne 19, 3) := by decide +kernel
theorem dX1_isWord_9 : decode cX1_isWord 9 = .ok (.aload_n 0, 1) := by decide +kernel
theorem dX1_isWord_10 : decode cX1_isWord 10 = .ok (.getfield 29, 3) := by decide +kernel
theorem dX1_isWord_13 : decode cX1_isWord 13 = .ok (.aload_n 0, 1) := by decide +kernel
theorem dX1_isWord_14 : decode cX1_isWord 14 = .ok (.getfield 26, 3) := by decide +kernel
theorem dX1_isWord_17 : decode cX1_isWord 17 = .ok (.isub, 1) := by decide +kernel
theorem dX1_isWord_18 : decode cX1_isWord 18 = .ok (.aload_n 1, 1) := by decide +kernel
theorem dX1_isWord_19 : decode cX1_isWord 19 = .ok (.invokevirtual 89, 3) := by decide +kernel
theorem dX1_isWord_22 : decode cX1_isWord 22 = .ok (.if_icmp .eq 5, 3) := by decide +kernel
theorem dX1_isWord_25 : decode cX1_isWord 25 = .ok (.iconst 0, 1) := by decide +kernel
theorem dX1_isWord_26 : decode cX1_isWord 26 = .ok (.ireturn, 1) := by decide +kernel
theorem dX1_isWord_27 : decode cX1_isWord 27 = .ok (.iconst 0, 1) := by decide +kernel
theorem dX1_isWord_28 : decode cX1_isWord 28 = .ok (.istore_n 2, 1) := by decide +kernel
theorem dX1_isWord_29 : decode cX1_isWord 29 = .ok (.iload_n 2, 1) := by decide +kernel
theorem dX1_isWord_30 : decode cX1_isWord 30 = .ok (.aload_n 1, 1) := by decide +kernel
theorem dX1_isWord_31 : decode cX1_isWord 31 = .ok (.invokevirtual 89, 3) := by decide +kernel
theorem dX1_isWord_34 : decode cX1_isWord 34 = .ok (.if_icmp .ge 32, 3) := by decide +kernel
theorem dX1_isWord_37 : decode cX1_isWord 37 = .ok (.aload_n 0, 1) := by decide +kernel
theorem dX1_isWord_38 : decode cX1_isWord 38 = .ok (.getfield 12, 3) := by decide +kernel
theorem dX1_isWord_41 : decode cX1_isWord 41 = .ok (.aload_n 0, 1) := by decide +kernel
theorem dX1_isWord_42 : decode cX1_isWord 42 = .ok (.getfield 26, 3) := by decide +kernel
theorem dX1_isWord_45 : decode cX1_isWord 45 = .ok (.iload_n 2, 1) := by decide +kernel
theorem dX1_isWord_46 : decode cX1_isWord 46 = .ok (.iadd, 1) := by decide +kernel
theorem dX1_isWord_47 : decode cX1_isWord 47 = .ok (.invokevirtual 78, 3) := by decide +kernel
theorem dX1_isWord_50 : decode cX1_isWord 50 = .ok (.aload_n 1, 1) := by decide +kernel
theorem dX1_isWord_51 : decode cX1_isWord 51 = .ok (.iload_n 2, 1) := by decide +kernel
theorem dX1_isWord_52 : decode cX1_isWord 52 = .ok (.invokevirtual 94, 3) := by decide +kernel
theorem dX1_isWord_55 : decode cX1_isWord 55 = .ok (.if_icmp .eq 5, 3) := by decide +kernel
theorem dX1_isWord_58 : decode cX1_isWord 58 = .ok (.iconst 0, 1) := by decide +kernel
theorem dX1_isWord_59 : decode cX1_isWord 59 = .ok (.ireturn, 1) := by decide +kernel
theorem dX1_isWord_60 : decode cX1_isWord 60 = .ok (.iinc 2 1, 3) := by decide +kernel
theorem dX1_isWord_63 : decode cX1_isWord 63 = .ok (.goto (-34), 3) := by decide +kernel
theorem dX1_isWord_66 : decode cX1_isWord 66 = .ok (.iconst 1, 1) := by decide +kernel
theorem dX1_isWord_67 : decode cX1_isWord 67 = .ok (.ireturn, 1) := by decide +kernel
theorem dX1_readKey_0 : decode cX1_readKey 0 = .ok (.aload_n 0, 1) := by decide +kernel
theorem dX1_readKey_1 : decode cX1_readKey 1 = .ok (.ldc 98, 2) := by decide +kernel
theorem dX1_readKey_3 : decode cX1_readKey 3 = .ok (.invokevirtual 100, 3) := by decide +kernel
theorem dX1_readKey_6 : decode cX1_readKey 6 = .ok (.ifCond .eq 11, 3) := by decide +kernel
theorem dX1_readKey_9 : decode cX1_readKey 9 = .ok (.aload_n 0, 1) := by decide +kernel
theorem dX1_readKey_10 : decode cX1_readKey 10 = .ok (.iconst 0, 1) := by decide +kernel
theorem dX1_readKey_11 : decode cX1_readKey 11 = .ok (.putfield 56, 3) := by decide +kernel
theorem dX1_readKey_14 : decode cX1_readKey 14 = .ok (.goto 42, 3) := by decide +kernel
theorem dX1_readKey_17 : decode cX1_readKey 17 = .ok (.aload_n 0, 1) := by decide +kernel
theorem dX1_readKey_18 : decode cX1_readKey 18 = .ok (.ldc 104, 2) := by decide +kernel
theorem dX1_readKey_20 : decode cX1_readKey 20 = .ok (.invokevirtual 100, 3) := by decide +kernel
theorem dX1_readKey_23 : decode cX1_readKey 23 = .ok (.ifCond .eq 11, 3) := by decide +kernel
theorem dX1_readKey_26 : decode cX1_readKey 26 = .ok (.aload_n 0, 1) := by decide +kernel
theorem dX1_readKey_27 : decode cX1_readKey 27 = .ok (.iconst 1, 1) := by decide +kernel
theorem dX1_readKey_28 : decode cX1_readKey 28 = .ok (.putfield 56, 3) := by decide +kernel
theorem dX1_readKey_31 : decode cX1_readKey 31 = .ok (.goto 25, 3) := by decide +kernel
theorem dX1_readKey_34 : decode cX1_readKey 34 = .ok (.aload_n 0, 1) := by decide +kernel
theorem dX1_readKey_35 : decode cX1_readKey 35 = .ok (.ldc 106, 2) := by decide +kernel
theorem dX1_readKey_37 : decode cX1_readKey 37 = .ok (.invokevirtual 100, 3) := by decide +kernel
theorem dX1_readKey_40 : decode cX1_readKey 40 = .ok (.ifCond .eq 11, 3) := by decide +kernel
theorem dX1_readKey_43 : decode cX1_readKey 43 = .ok (.aload_n 0, 1) := by decide +kernel
theorem dX1_readKey_44 : decode cX1_readKey 44 = .ok (.iconst 2, 1) := by decide +kernel
theorem dX1_readKey_45 : decode cX1_readKey 45 = .ok (.putfield 56, 3) := by decide +kernel
theorem dX1_readKey_48 : decode cX1_readKey 48 = .ok (.goto 8, 3) := by decide +kernel
theorem dX1_readKey_51 : decode cX1_readKey 51 = .ok (.aload_n 0, 1) := by decide +kernel
theorem dX1_readKey_52 : decode cX1_readKey 52 = .ok (.invokevirtual 51, 3) := by decide +kernel
theorem dX1_readKey_55 : decode cX1_readKey 55 = .ok (.return_, 1) := by decide +kernel
theorem dX1_readKey_56 : decode cX1_readKey 56 = .ok (.aload_n 0, 1) := by decide +kernel
theorem dX1_readKey_57 : decode cX1_readKey 57 = .ok (.invokevirtual 41, 3) := by decide +kernel
theorem dX1_readKey_60 : decode cX1_readKey 60 = .ok (.return_, 1) := by decide +kernel
theorem dX1_readLevel_0 : decode cX1_readLevel 0 = .ok (.iload_n 1, 1) := by decide +kernel
theorem dX1_readLevel_1 : decode cX1_readLevel 1 = .ok (.iconst 5, 1) := by decide +kernel
theorem dX1_readLevel_2 : decode cX1_readLevel 2 = .ok (.if_icmp .lt 10, 3) := by decide +kernel
theorem dX1_readLevel_5 : decode cX1_readLevel 5 = .ok (.aload_n 0, 1) := by decide +kernel
theorem dX1_readLevel_6 : decode cX1_readLevel 6 = .ok (.iload_n 2, 1) := by decide +kernel
theorem dX1_readLevel_7 : decode cX1_readLevel 7 = .ok (.iload_n 3, 1) := by decide +kernel
theorem dX1_readLevel_8 : decode cX1_readLevel 8 = .ok (.invokevirtual 108, 3) := by decide +kernel
theorem dX1_readLevel_11 : decode cX1_readLevel 11 = .ok (.return_, 1) := by decide +kernel
theorem dX1_readLevel_12 : decode cX1_readLevel 12 = .ok (.aload_n 0, 1) := by decide +kernel
theorem dX1_readLevel_13 : decode cX1_readLevel 13 = .ok (.iload_n 1, 1) := by decide +kernel
theorem dX1_readLevel_14 : decode cX1_readLevel 14 = .ok (.iconst 1, 1) := by decide +kernel
theorem dX1_readLevel_15 : decode cX1_readLevel 15 = .ok (.iadd, 1) := by decide +kernel
theorem dX1_readLevel_16 : decode cX1_readLevel 16 = .ok (.iload_n 2, 1) := by decide +kernel
theorem dX1_readLevel_17 : decode cX1_readLevel 17 = .ok (.iload_n 3, 1) := by decide +kernel
theorem dX1_readLevel_18 : decode cX1_readLevel 18 = .ok (.invokevirtual 47, 3) := by decide +kernel
theorem dX1_readLevel_21 : decode cX1_readLevel 21 = .ok (.iload_n 1, 1) := by decide +kernel
theorem dX1_readLevel_22 : decode cX1_readLevel 22 = .ok (.iconst 2, 1) := by decide +kernel
theorem dX1_readLevel_23 : decode cX1_readLevel 23 = .ok (.if_icmp .ne 7, 3) := by decide +kernel
theorem dX1_readLevel_26 : decode cX1_readLevel 26 = .ok (.iconst 1, 1) := by decide +kernel
theorem dX1_readLevel_27 : decode cX1_readLevel 27 = .ok (.goto 5, 3) := by decide +kernel
theorem dX1_readLevel_30 : decode cX1_readLevel 30 = .ok (.bipush 96, 2) := by decide +kernel
theorem dX1_readLevel_32 : decode cX1_readLevel 32 = .ok (.istore 4, 2) := by decide +kernel
theorem dX1_readLevel_34 : decode cX1_readLevel 34 = .ok (.iconst 0, 1) := by decide +kernel
theorem dX1_readLevel_35 : decode cX1_readLevel 35 = .ok (.istore 5, 2) := by decide +kernel
theorem dX1_readLevel_37 : decode cX1_readLevel 37 = .ok (.iload 5, 2) := by decide +kernel
theorem dX1_readLevel_39 : decode cX1_readLevel 39 = .ok (.iload 4, 2) := by decide +kernel
theorem dX1_readLevel_41 : decode cX1_readLevel 41 = .ok (.if_icmp .ge 54, 3) := by decide +kernel
theorem dX1_readLevel_44 : decode cX1_readLevel 44 = .ok (.aload_n 0, 1) := by decide +kernel
theorem dX1_readLevel_45 : decode cX1_readLevel 45 = .ok (.getfield 32, 3) := by decide +kernel
theorem dX1_readLevel_48 : decode cX1_readLevel 48 = .ok (.iconst (-1), 1) := by decide +kernel
theorem dX1_readLevel_49 : decode cX1_readLevel 49 = .ok (.if_icmp .ne 46, 3) := by decide +kernel
theorem dX1_readLevel_52 : decode cX1_readLevel 52 = .ok (.aload_n 0, 1) := by decide +kernel
theorem dX1_readLevel_53 : decode cX1_readLevel 53 = .ok (.getfield 22, 3) := by decide +kernel
theorem dX1_readLevel_56 : decode cX1_readLevel 56 = .ok (.invokestatic 112, 3) := by decide +kernel
theorem dX1_readLevel_59 : decode cX1_readLevel 59 = .ok (.iload_n 1, 1) := by decide +kernel
theorem dX1_readLevel_60 : decode cX1_readLevel 60 = .ok (.if_icmp .ne 35, 3) := by decide +kernel
theorem dX1_readLevel_63 : decode cX1_readLevel 63 = .ok (.aload_n 0, 1) := by decide +kernel
theorem dX1_readLevel_64 : decode cX1_readLevel 64 = .ok (.getfield 22, 3) := by decide +kernel
theorem dX1_readLevel_67 : decode cX1_readLevel 67 = .ok (.istore 6, 2) := by decide +kernel
theorem dX1_readLevel_69 : decode cX1_readLevel 69 = .ok (.aload_n 0, 1) := by decide +kernel
theorem dX1_readLevel_70 : decode cX1_readLevel 70 = .ok (.invokevirtual 41, 3) := by decide +kernel
theorem dX1_readLevel_73 : decode cX1_readLevel 73 = .ok (.aload_n 0, 1) := by decide +kernel
theorem dX1_readLevel_74 : decode cX1_readLevel 74 = .ok (.iload_n 1, 1) := by decide +kernel
theorem dX1_readLevel_75 : decode cX1_readLevel 75 = .ok (.iconst 1, 1) := by decide +kernel
theorem dX1_readLevel_76 : decode cX1_readLevel 76 = .ok (.iadd, 1) := by decide +kernel
theorem dX1_readLevel_77 : decode cX1_readLevel 77 = .ok (.iload_n 2, 1) := by decide +kernel
theorem dX1_readLevel_78 : decode cX1_readLevel 78 = .ok (.iload_n 3, 1) := by decide +kernel
theorem dX1_readLevel_79 : decode cX1_readLevel 79 = .ok (.invokevirtual 47, 3) := by decide +kernel
theorem dX1_readLevel_82 : decode cX1_readLevel 82 = .ok (.aload_n 0, 1) := by decide +kernel
theorem dX1_readLevel_83 : decode cX1_readLevel 83 = .ok (.iload 6, 2) := by decide +kernel
theorem dX1_readLevel_85 : decode cX1_readLevel 85 = .ok (.ineg, 1) := by decide +kernel
theorem dX1_readLevel_86 : decode cX1_readLevel 86 = .ok (.invokevirtual 115, 3) := by decide +kernel
theorem dX1_readLevel_89 : decode cX1_readLevel 89 = .ok (.iinc 5 1, 3) := by decide +kernel
theorem dX1_readLevel_92 : decode cX1_readLevel 92 = .ok (.goto (-55), 3) := by decide +kernel
theorem dX1_readLevel_95 : decode cX1_readLevel 95 = .ok (.return_, 1) := by decide +kernel
theorem dX1_levelOf_0 : decode cX1_levelOf 0 = .ok (.iload_n 0, 1) := by decide +kernel
theorem dX1_levelOf_1 : decode cX1_levelOf 1 = .ok (.lookupswitch 93 #[(38, 85), (42, 91), (43, 89), (45, 89), (47, 91), (60, 87), (61, 87), (62, 87), (124, 83)], 83) := by decide +kernel
theorem dX1_levelOf_84 : decode cX1_levelOf 84 = .ok (.iconst 0, 1) := by decide +kernel
theorem dX1_levelOf_85 : decode cX1_levelOf 85 = .ok (.ireturn, 1) := by decide +kernel
theorem dX1_levelOf_86 : decode cX1_levelOf 86 = .ok (.iconst 1, 1) := by decide +kernel
theorem dX1_levelOf_87 : decode cX1_levelOf 87 = .ok (.ireturn, 1) := by decide +kernel
theorem dX1_levelOf_88 : decode cX1_levelOf 88 = .ok (.iconst 2, 1) := by decide +kernel
theorem dX1_levelOf_89 : decode cX1_levelOf 89 = .ok (.ireturn, 1) := by decide +kernel
theorem dX1_levelOf_90 : decode cX1_levelOf 90 = .ok (.iconst 3, 1) := by decide +kernel
theorem dX1_levelOf_91 : decode cX1_levelOf 91 = .ok (.ireturn, 1) := by decide +kernel
theorem dX1_levelOf_92 : decode cX1_levelOf 92 = .ok (.iconst 4, 1) := by decide +kernel
theorem dX1_levelOf_93 : decode cX1_levelOf 93 = .ok (.ireturn, 1) := by decide +kernel
theorem dX1_levelOf_94 : decode cX1_levelOf 94 = .ok (.iconst 5, 1) := by decide +kernel
theorem dX1_levelOf_95 : decode cX1_levelOf 95 = .ok (.ireturn, 1) := by decide +kernel
theorem dX1_readPiece_0 : decode cX1_readPiece 0 = .ok (.aload_n 0, 1) := by decide +kernel
theorem dX1_readPiece_1 : decode cX1_readPiece 1 = .ok (.getfield 22, 3) := by decide +kernel
theorem dX1_readPiece_4 : decode cX1_readPiece 4 = .ok (.bipush (-3), 2) := by decide +kernel
theorem dX1_readPiece_6 : decode cX1_readPiece 6 = .ok (.if_icmp .ne 14, 3) := by decide +kernel
theorem dX1_readPiece_9 : decode cX1_readPiece 9 = .ok (.aload_n 0, 1) := by decide +kernel
theorem dX1_readPiece_10 : decode cX1_readPiece 10 = .ok (.aload_n 0, 1) := by decide +kernel
theorem dX1_readPiece_11 : decode cX1_readPiece 11 = .ok (.invokevirtual 119, 3) := by decide +kernel
theorem dX1_readPiece_14 : decode cX1_readPiece 14 = .ok (.invokevirtual 122, 3) := by decide +kernel
theorem dX1_readPiece_17 : decode cX1_readPiece 17 = .ok (.goto 98, 3) := by decide +kernel
theorem dX1_readPiece_20 : decode cX1_readPiece 20 = .ok (.aload_n 0, 1) := by decide +kernel
theorem dX1_readPiece_21 : decode cX1_readPiece 21 = .ok (.getfield 22, 3) := by decide +kernel
theorem dX1_readPiece_24 : decode cX1_readPiece 24 = .ok (.bipush (-2), 2) := by decide +kernel
theorem dX1_readPiece_26 : decode cX1_readPiece 26 = .ok (.if_icmp .ne 14, 3) := by decide +kernel
theorem dX1_readPiece_29 : decode cX1_readPiece 29 = .ok (.aload_n 0, 1) := by decide +kernel
theorem dX1_readPiece_30 : decode cX1_readPiece 30 = .ok (.aload_n 0, 1) := by decide +kernel
theorem dX1_readPiece_31 : decode cX1_readPiece 31 = .ok (.invokevirtual 125, 3) := by decide +kernel
theorem dX1_readPiece_34 : decode cX1_readPiece 34 = .ok (.invokevirtual 122, 3) := by decide +kernel
theorem dX1_readPiece_37 : decode cX1_readPiece 37 = .ok (.goto 78, 3) := by decide +kernel
theorem dX1_readPiece_40 : decode cX1_readPiece 40 = .ok (.aload_n 0, 1) := by decide +kernel
theorem dX1_readPiece_41 : decode cX1_readPiece 41 = .ok (.getfield 22, 3) := by decide +kernel
theorem dX1_readPiece_44 : decode cX1_readPiece 44 = .ok (.bipush 33, 2) := by decide +kernel
theorem dX1_readPiece_46 : decode cX1_readPiece 46 = .ok (.if_icmp .ne 30, 3) := by decide +kernel
theorem dX1_readPiece_49 : decode cX1_readPiece 49 = .ok (.iload_n 2, 1) := by decide +kernel
theorem dX1_readPiece_50 : decode cX1_readPiece 50 = .ok (.bipush 8, 2) := by decide +kernel
theorem dX1_readPiece_52 : decode cX1_readPiece 52 = .ok (.if_icmp .ge 24, 3) := by decide +kernel
theorem dX1_readPiece_55 : decode cX1_readPiece 55 = .ok (.aload_n 0, 1) := by decide +kernel
theorem dX1_readPiece_56 : decode cX1_readPiece 56 = .ok (.invokevirtual 41, 3) := by decide +kernel
theorem dX1_readPiece_59 : decode cX1_readPiece 59 = .ok (.aload_n 0, 1) := by decide +kernel
theorem dX1_readPiece_60 : decode cX1_readPiece 60 = .ok (.iload_n 1, 1) := by decide +kernel
theorem dX1_readPiece_61 : decode cX1_readPiece 61 = .ok (.iload_n 2, 1) := by decide +kernel
theorem dX1_readPiece_62 : decode cX1_readPiece 62 = .ok (.iconst 1, 1) := by decide +kernel
theorem dX1_readPiece_63 : decode cX1_readPiece 63 = .ok (.iadd, 1) := by decide +kernel
theorem dX1_readPiece_64 : decode cX1_readPiece 64 = .ok (.invokevirtual 108, 3) := by decide +kernel
theorem dX1_readPiece_67 : decode cX1_readPiece 67 = .ok (.aload_n 0, 1) := by decide +kernel
theorem dX1_readPiece_68 : decode cX1_readPiece 68 = .ok (.bipush (-33), 2) := by decide +kernel
theorem dX1_readPiece_70 : decode cX1_readPiece 70 = .ok (.invokevirtual 115, 3) := by decide +kernel
theorem dX1_readPiece_73 : decode cX1_readPiece 73 = .ok (.goto 42, 3) := by decide +kernel
theorem dX1_readPiece_76 : decode cX1_readPiece 76 = .ok (.aload_n 0, 1) := by decide +kernel
theorem dX1_readPiece_77 : decode cX1_readPiece 77 = .ok (.getfield 22, 3) := by decide +kernel
theorem dX1_readPiece_80 : decode cX1_readPiece 80 = .ok (.bipush 40, 2) := by decide +kernel
theorem dX1_readPiece_82 : decode cX1_readPiece 82 = .ok (.if_icmp .ne 29, 3) := by decide +kernel
theorem dX1_readPiece_85 : decode cX1_readPiece 85 = .ok (.iload_n 1, 1) := by decide +kernel
theorem dX1_readPiece_86 : decode cX1_readPiece 86 = .ok (.bipush 8, 2) := by decide +kernel
theorem dX1_readPiece_88 : decode cX1_readPiece 88 = .ok (.if_icmp .ge 23, 3) := by decide +kernel
theorem dX1_readPiece_91 : decode cX1_readPiece 91 = .ok (.aload_n 0, 1) := by decide +kernel
theorem dX1_readPiece_92 : decode cX1_readPiece 92 = .ok (.invokevirtual 41, 3) := by decide +kernel
theorem dX1_readPiece_95 : decode cX1_readPiece 95 = .ok (.aload_n 0, 1) := by decide +kernel
theorem dX1_readPiece_96 : decode cX1_readPiece 96 = .ok (.iconst 0, 1) := by decide +kernel
theorem dX1_readPiece_97 : decode cX1_readPiece 97 = .ok (.iload_n 1, 1) := by decide +kernel
theorem dX1_readPiece_98 : decode cX1_readPiece 98 = .ok (.iconst 1, 1) := by decide +kernel
theorem dX1_readPiece_99 : decode cX1_readPiece 99 = .ok (.iadd, 1) := by decide +kernel
theorem dX1_readPiece_100 : decode cX1_readPiece 100 = .ok (.iload_n 2, 1) := by decide +kernel
theorem dX1_readPiece_101 : decode cX1_readPiece 101 = .ok (.invokevirtual 47, 3) := by decide +kernel
theorem dX1_readPiece_104 : decode cX1_readPiece 104 = .ok (.aload_n 0, 1) := by decide +kernel
theorem dX1_readPiece_105 : decode cX1_readPiece 105 = .ok (.invokevirtual 128, 3) := by decide +kernel
theorem dX1_readPiece_108 : decode cX1_readPiece 108 = .ok (.goto 7, 3) := by decide +kernel
theorem dX1_readPiece_111 : decode cX1_readPiece 111 = .ok (.aload_n 0, 1) := by decide +kernel
theorem dX1_readPiece_112 : decode cX1_readPiece 112 = .ok (.invokevirtual 51, 3) := by decide +kernel
theorem dX1_readPiece_115 : decode cX1_readPiece 115 = .ok (.return_, 1) := by decide +kernel
theorem dX1_readClose_0 : decode cX1_readClose 0 = .ok (.aload_n 0, 1) := by decide +kernel
theorem dX1_readClose_1 : decode cX1_readClose 1 = .ok (.getfield 32, 3) := by decide +kernel
theorem dX1_readClose_4 : decode cX1_readClose 4 = .ok (.iconst (-1), 1) := by decide +kernel
theorem dX1_readClose_5 : decode cX1_readClose 5 = .ok (.if_icmp .eq 4, 3) := by decide +kernel
theorem dX1_readClose_8 : decode cX1_readClose 8 = .ok (.return_, 1) := by decide +kernel
theorem dX1_readClose_9 : decode cX1_readClose 9 = .ok (.aload_n 0, 1) := by decide +kernel
theorem dX1_readClose_10 : decode cX1_readClose 10 = .ok (.getfield 22, 3) := by decide +kernel
theorem dX1_readClose_13 : decode cX1_readClose 13 = .ok (.bipush 41, 2) := by decide +kernel
theorem dX1_readClose_15 : decode cX1_readClose 15 = .ok (.if_icmp .ne 10, 3) := by decide +kernel
theorem dX1_readClose_18 : decode cX1_readClose 18 = .ok (.aload_n 0, 1) := by decide +kernel
theorem dX1_readClose_19 : decode cX1_readClose 19 = .ok (.invokevirtual 41, 3) := by decide +kernel
theorem dX1_readClose_22 : decode cX1_readClose 22 = .ok (.goto 7, 3) := by decide +kernel
theorem dX1_readClose_25 : decode cX1_readClose 25 = .ok (.aload_n 0, 1) := by decide +kernel
theorem dX1_readClose_26 : decode cX1_readClose 26 = .ok (.invokevirtual 51, 3) := by decide +kernel
theorem dX1_readClose_29 : decode cX1_readClose 29 = .ok (.return_, 1) := by decide +kernel
theorem dX1_numberAhead_0 : decode cX1_numberAhead 0 = .ok (.aload_n 0, 1) := by decide +kernel
theorem dX1_numberAhead_1 : decode cX1_numberAhead 1 = .ok (.getfield 29, 3) := by decide +kernel
theorem dX1_numberAhead_4 : decode cX1_numberAhead 4 = .ok (.aload_n 0, 1) := by decide +kernel
theorem dX1_numberAhead_5 : decode cX1_numberAhead 5 = .ok (.getfield 26, 3) := by decide +kernel
theorem dX1_numberAhead_8 : decode cX1_numberAhead 8 = .ok (.isub, 1) := by decide +kernel
theorem dX1_numberAhead_9 : decode cX1_numberAhead 9 = .ok (.iconst 4, 1) := by decide +kernel
theorem dX1_numberAhead_10 : decode cX1_numberAhead 10 = .ok (.if_icmp .le 5, 3) := by decide +kernel
theorem dX1_numberAhead_13 : decode cX1_numberAhead 13 = .ok (.iconst (-1), 1) := by decide +kernel
theorem dX1_numberAhead_14 : decode cX1_numberAhead 14 = .ok (.ireturn, 1) := by decide +kernel
theorem dX1_numberAhead_15 : decode cX1_numberAhead 15 = .ok (.iconst 0, 1) := by decide +kernel
theorem dX1_numberAhead_16 : decode cX1_numberAhead 16 = .ok (.istore_n 1, 1) := by decide +kernel
theorem dX1_numberAhead_17 : decode cX1_numberAhead 17 = .ok (.aload_n 0, 1) := by decide +kernel
theorem dX1_numberAhead_18 : decode cX1_numberAhead 18 = .ok (.getfield 26, 3) := by decide +kernel
theorem dX1_numberAhead_21 : decode cX1_numberAhead 21 = .ok (.istore_n 2, 1) := by decide +kernel
theorem dX1_numberAhead_22 : decode cX1_numberAhead 22 = .ok (.iload_n 2, 1) := by decide +kernel
theorem dX1_numberAhead_23 : decode cX1_numberAhead 23 = .ok (.aload_n 0, 1) := by decide +kernel
theorem dX1_numberAhead_24 : decode cX1_numberAhead 24 = .ok (.getfield 29, 3) := by decide +kernel
theorem dX1_numberAhead_27 : decode cX1_numberAhead 27 = .ok (.if_icmp .ge 26, 3) := by decide +kernel
theorem dX1_numberAhead_30 : decode cX1_numberAhead 30 = .ok (.bipush 10, 2) := by decide +kernel
theorem dX1_numberAhead_32 : decode cX1_numberAhead 32 = .ok (.iload_n 1, 1) := by decide +kernel
theorem dX1_numberAhead_33 : decode cX1_numberAhead 33 = .ok (.imul, 1) := by decide +kernel
theorem dX1_numberAhead_34 : decode cX1_numberAhead 34 = .ok (.aload_n 0, 1) := by decide +kernel
theorem dX1_numberAhead_35 : decode cX1_numberAhead 35 = .ok (.getfield 12, 3) := by decide +kernel
theorem dX1_numberAhead_38 : decode cX1_numberAhead 38 = .ok (.iload_n 2, 1) := by decide +kernel
theorem dX1_numberAhead_39 : decode cX1_numberAhead 39 = .ok (.invokevirtual 78, 3) := by decide +kernel
theorem dX1_numberAhead_42 : decode cX1_numberAhead 42 = .ok (.iadd, 1) := by decide +kernel
theorem dX1_numberAhead_43 : decode cX1_numberAhead 43 = .ok (.bipush 48, 2) := by decide +kernel
theorem dX1_numberAhead_45 : decode cX1_numberAhead 45 = .ok (.isub, 1) := by decide +kernel
theorem dX1_numberAhead_46 : decode cX1_numberAhead 46 = .ok (.istore_n 1, 1) := by decide +kernel
theorem dX1_numberAhead_47 : decode cX1_numberAhead 47 = .ok (.iinc 2 1, 3) := by decide +kernel
theorem dX1_numberAhead_50 : decode cX1_numberAhead 50 = .ok (.goto (-28), 3) := by decide +kernel
theorem dX1_numberAhead_53 : decode cX1_numberAhead 53 = .ok (.iload_n 1, 1) := by decide +kernel
theorem dX1_numberAhead_54 : decode cX1_numberAhead 54 = .ok (.ireturn, 1) := by decide +kernel
theorem dX1_nameAhead_0 : decode cX1_nameAhead 0 = .ok (.aload_n 0, 1) := by decide +kernel
theorem dX1_nameAhead_1 : decode cX1_nameAhead 1 = .ok (.getfield 56, 3) := by decide +kernel
theorem dX1_nameAhead_4 : decode cX1_nameAhead 4 = .ok (.ifCond .ne 8, 3) := by decide +kernel
theorem dX1_nameAhead_7 : decode cX1_nameAhead 7 = .ok (.ldc 131, 2) := by decide +kernel
theorem dX1_nameAhead_9 : decode cX1_nameAhead 9 = .ok (.goto 18, 3) := by decide +kernel
theorem dX1_nameAhead_12 : decode cX1_nameAhead 12 = .ok (.aload_n 0, 1) := by decide +kernel
theorem dX1_nameAhead_13 : decode cX1_nameAhead 13 = .ok (.getfield 56, 3) := by decide +kernel
theorem dX1_nameAhead_16 : decode cX1_nameAhead 16 = .ok (.iconst 1, 1) := by decide +kernel
theorem dX1_nameAhead_17 : decode cX1_nameAhead 17 = .ok (.if_icmp .ne 8, 3) := by decide +kernel
theorem dX1_nameAhead_20 : decode cX1_nameAhead 20 = .ok (.ldc 133, 2) := by decide +kernel
theorem dX1_nameAhead_22 : decode cX1_nameAhead 22 = .ok (.goto 5, 3) := by decide +kernel
theorem dX1_nameAhead_25 : decode cX1_nameAhead 25 = .ok (.ldc 135, 2) := by decide +kernel
theorem dX1_nameAhead_27 : decode cX1_nameAhead 27 = .ok (.astore_n 1, 1) := by decide +kernel
theorem dX1_nameAhead_28 : decode cX1_nameAhead 28 = .ok (.aload_n 1, 1) := by decide +kernel
theorem dX1_nameAhead_29 : decode cX1_nameAhead 29 = .ok (.aload_n 0, 1) := by decide +kernel
theorem dX1_nameAhead_30 : decode cX1_nameAhead 30 = .ok (.getfield 12, 3) := by decide +kernel
theorem dX1_nameAhead_33 : decode cX1_nameAhead 33 = .ok (.aload_n 0, 1) := by decide +kernel
theorem dX1_nameAhead_34 : decode cX1_nameAhead 34 = .ok (.getfield 26, 3) := by decide +kernel
theorem dX1_nameAhead_37 : decode cX1_nameAhead 37 = .ok (.invokevirtual 78, 3) := by decide +kernel
theorem dX1_nameAhead_40 : decode cX1_nameAhead 40 = .ok (.i2c, 1) := by decide +kernel
theorem dX1_nameAhead_41 : decode cX1_nameAhead 41 = .ok (.invokevirtual 137, 3) := by decide +kernel
theorem dX1_nameAhead_44 : decode cX1_nameAhead 44 = .ok (.istore_n 2, 1) := by decide +kernel
theorem dX1_nameAhead_45 : decode cX1_nameAhead 45 = .ok (.aload_n 0, 1) := by decide +kernel
theorem dX1_nameAhead_46 : decode cX1_nameAhead 46 = .ok (.getfield 29, 3) := by decide +kernel
theorem dX1_nameAhead_49 : decode cX1_nameAhead 49 = .ok (.aload_n 0, 1) := by decide +kernel
theorem dX1_nameAhead_50 : decode cX1_nameAhead 50 = .ok (.getfield 26, 3) := by decide +kernel
theorem dX1_nameAhead_53 : decode cX1_nameAhead 53 = .ok (.isub, 1) := by decide +kernel
theorem dX1_nameAhead_54 : decode cX1_nameAhead 54 = .ok (.iconst 1, 1) := by decide +kernel
theorem dX1_nameAhead_55 : decode cX1_nameAhead 55 = .ok (.if_icmp .ne 15, 3) := by decide +kernel
theorem dX1_nameAhead_58 : decode cX1_nameAhead 58 = .ok (.iload_n 2, 1) := by decide +kernel
theorem dX1_nameAhead_59 : decode cX1_nameAhead 59 = .ok (.ifCond .lt 11, 3) := by decide +kernel
theorem dX1_nameAhead_62 : decode cX1_nameAhead 62 = .ok (.sipush 10000, 3) := by decide +kernel
theorem dX1_nameAhead_65 : decode cX1_nameAhead 65 = .ok (.iload_n 2, 1) := by decide +kernel
theorem dX1_nameAhead_66 : decode cX1_nameAhead 66 = .ok (.iadd, 1) := by decide +kernel
theorem dX1_nameAhead_67 : decode cX1_nameAhead 67 = .ok (.goto 4, 3) := by decide +kernel
theorem dX1_nameAhead_70 : decode cX1_nameAhead 70 = .ok (.iconst (-1), 1) := by decide +kernel
theorem dX1_nameAhead_71 : decode cX1_nameAhead 71 = .ok (.ireturn, 1) := by decide +kernel
theorem dX1_addPiece_0 : decode cX1_addPiece 0 = .ok (.iload_n 1, 1) := by decide +kernel
theorem dX1_addPiece_1 : decode cX1_addPiece 1 = .ok (.iconst (-1), 1) := by decide +kernel
theorem dX1_addPiece_2 : decode cX1_addPiece 2 = .ok (.if_icmp .ne 8, 3) := by decide +kernel
theorem dX1_addPiece_5 : decode cX1_addPiece 5 = .ok (.aload_n 0, 1) := by decide +kernel
theorem dX1_addPiece_6 : decode cX1_addPiece 6 = .ok (.invokevirtual 51, 3) := by decide +kernel
theorem dX1_addPiece_9 : decode cX1_addPiece 9 = .ok (.return_, 1) := by decide +kernel
theorem dX1_addPiece_10 : decode cX1_addPiece 10 = .ok (.aload_n 0, 1) := by decide +kernel
theorem dX1_addPiece_11 : decode cX1_addPiece 11 = .ok (.iload_n 1, 1) := by decide +kernel
theorem dX1_addPiece_12 : decode cX1_addPiece 12 = .ok (.invokevirtual 115, 3) := by decide +kernel
theorem dX1_addPiece_15 : decode cX1_addPiece 15 = .ok (.aload_n 0, 1) := by decide +kernel
theorem dX1_addPiece_16 : decode cX1_addPiece 16 = .ok (.dup, 1) := by decide +kernel
theorem dX1_addPiece_17 : decode cX1_addPiece 17 = .ok (.getfield 35, 3) := by decide +kernel
theorem dX1_addPiece_20 : decode cX1_addPiece 20 = .ok (.iconst 1, 1) := by decide +kernel
theorem dX1_addPiece_21 : decode cX1_addPiece 21 = .ok (.iadd, 1) := by decide +kernel
theorem dX1_addPiece_22 : decode cX1_addPiece 22 = .ok (.putfield 35, 3) := by decide +kernel
theorem dX1_addPiece_25 : decode cX1_addPiece 25 = .ok (.aload_n 0, 1) := by decide +kernel
theorem dX1_addPiece_26 : decode cX1_addPiece 26 = .ok (.invokevirtual 41, 3) := by decide +kernel
theorem dX1_addPiece_29 : decode cX1_addPiece 29 = .ok (.return_, 1) := by decide +kernel
theorem dX1_addStep_0 : decode cX1_addStep 0 = .ok (.aload_n 0, 1) := by decide +kernel
theorem dX1_addStep_1 : decode cX1_addStep 1 = .ok (.getfield 38, 3) := by decide +kernel
theorem dX1_addStep_4 : decode cX1_addStep 4 = .ok (.bipush 96, 2) := by decide +kernel
theorem dX1_addStep_6 : decode cX1_addStep 6 = .ok (.if_icmp .ge 23, 3) := by decide +kernel
theorem dX1_addStep_9 : decode cX1_addStep 9 = .ok (.aload_n 0, 1) := by decide +kernel
theorem dX1_addStep_10 : decode cX1_addStep 10 = .ok (.getfield 18, 3) := by decide +kernel
theorem dX1_addStep_13 : decode cX1_addStep 13 = .ok (.aload_n 0, 1) := by decide +kernel
theorem dX1_addStep_14 : decode cX1_addStep 14 = .ok (.getfield 38, 3) := by decide +kernel
theorem dX1_addStep_17 : decode cX1_addStep 17 = .ok (.iload_n 1, 1) := by decide +kernel
theorem dX1_addStep_18 : decode cX1_addStep 18 = .ok (.iastore, 1) := by decide +kernel
theorem dX1_addStep_19 : decode cX1_addStep 19 = .ok (.aload_n 0, 1) := by decide +kernel
theorem dX1_addStep_20 : decode cX1_addStep 20 = .ok (.dup, 1) := by decide +kernel
theorem dX1_addStep_21 : decode cX1_addStep 21 = .ok (.getfield 38, 3) := by decide +kernel
theorem dX1_addStep_24 : decode cX1_addStep 24 = .ok (.iconst 1, 1) := by decide +kernel
theorem dX1_addStep_25 : decode cX1_addStep 25 = .ok (.iadd, 1) := by decide +kernel
theorem dX1_addStep_26 : decode cX1_addStep 26 = .ok (.putfield 38, 3) := by decide +kernel
theorem dX1_addStep_29 : decode cX1_addStep 29 = .ok (.return_, 1) := by decide +kernel
theorem dX2_init_0 : decode cX2_init 0 = .ok (.aload_n 0, 1) := by decide +kernel
theorem dX2_init_1 : decode cX2_init 1 = .ok (.invokespecial 3, 3) := by decide +kernel
theorem dX2_init_4 : decode cX2_init 4 = .ok (.aload_n 0, 1) := by decide +kernel
theorem dX2_init_5 : decode cX2_init 5 = .ok (.iconst (-1), 1) := by decide +kernel
theorem dX2_init_6 : decode cX2_init 6 = .ok (.putfield 9, 3) := by decide +kernel
theorem dX2_init_9 : decode cX2_init 9 = .ok (.aload_n 0, 1) := by decide +kernel
theorem dX2_init_10 : decode cX2_init 10 = .ok (.bipush 24, 2) := by decide +kernel
theorem dX2_init_12 : decode cX2_init 12 = .ok (.newarray .int, 2) := by decide +kernel
theorem dX2_init_14 : decode cX2_init 14 = .ok (.putfield 15, 3) := by decide +kernel
theorem dX2_init_17 : decode cX2_init 17 = .ok (.return_, 1) := by decide +kernel
theorem dX2_become_0 : decode cX2_become 0 = .ok (.aload_n 0, 1) := by decide +kernel
theorem dX2_become_1 : decode cX2_become 1 = .ok (.iload_n 1, 1) := by decide +kernel
theorem dX2_become_2 : decode cX2_become 2 = .ok (.putfield 9, 3) := by decide +kernel
theorem dX2_become_5 : decode cX2_become 5 = .ok (.aload_n 0, 1) := by decide +kernel
theorem dX2_become_6 : decode cX2_become 6 = .ok (.iload_n 2, 1) := by decide +kernel
theorem dX2_become_7 : decode cX2_become 7 = .ok (.iconst 0, 1) := by decide +kernel
theorem dX2_become_8 : decode cX2_become 8 = .ok (.bipush 24, 2) := by decide +kernel
theorem dX2_become_10 : decode cX2_become 10 = .ok (.invokestatic 19, 3) := by decide +kernel
theorem dX2_become_13 : decode cX2_become 13 = .ok (.putfield 23, 3) := by decide +kernel
theorem dX2_become_16 : decode cX2_become 16 = .ok (.aload_n 0, 1) := by decide +kernel
theorem dX2_become_17 : decode cX2_become 17 = .ok (.getfield 15, 3) := by decide +kernel
theorem dX2_become_20 : decode cX2_become 20 = .ok (.iconst 0, 1) := by decide +kernel
theorem dX2_become_21 : decode cX2_become 21 = .ok (.invokestatic 26, 3) := by decide +kernel
theorem dX2_become_24 : decode cX2_become 24 = .ok (.return_, 1) := by decide +kernel
theorem dX2_becomeAs_0 : decode cX2_becomeAs 0 = .ok (.aload_n 0, 1) := by decide +kernel
theorem dX2_becomeAs_1 : decode cX2_becomeAs 1 = .ok (.aload_n 1, 1) := by decide +kernel
theorem dX2_becomeAs_2 : decode cX2_becomeAs 2 = .ok (.getfield 9, 3) := by decide +kernel
theorem dX2_becomeAs_5 : decode cX2_becomeAs 5 = .ok (.putfield 9, 3) := by decide +kernel
theorem dX2_becomeAs_8 : decode cX2_becomeAs 8 = .ok (.aload_n 0, 1) := by decide +kernel
theorem dX2_becomeAs_9 : decode cX2_becomeAs 9 = .ok (.aload_n 1, 1) := by decide +kernel
theorem dX2_becomeAs_10 : decode cX2_becomeAs 10 = .ok (.getfield 23, 3) := by decide +kernel
theorem dX2_becomeAs_13 : decode cX2_becomeAs 13 = .ok (.putfield 23, 3) := by decide +kernel
theorem dX2_becomeAs_16 : decode cX2_becomeAs 16 = .ok (.aload_n 1, 1) := by decide +kernel
theorem dX2_becomeAs_17 : decode cX2_becomeAs 17 = .ok (.getfield 15, 3) := by decide +kernel
theorem dX2_becomeAs_20 : decode cX2_becomeAs 20 = .ok (.iconst 0, 1) := by decide +kernel
theorem dX2_becomeAs_21 : decode cX2_becomeAs 21 = .ok (.aload_n 0, 1) := by decide +kernel
theorem dX2_becomeAs_22 : decode cX2_becomeAs 22 = .ok (.getfield 15, 3) := by decide +kernel
theorem dX2_becomeAs_25 : decode cX2_becomeAs 25 = .ok (.iconst 0, 1) := by decide +kernel
theorem dX2_becomeAs_26 : decode cX2_becomeAs 26 = .ok (.bipush 24, 2) := by decide +kernel
theorem dX2_becomeAs_28 : decode cX2_becomeAs 28 = .ok (.invokestatic 32, 3) := by decide +kernel
theorem dX2_becomeAs_31 : decode cX2_becomeAs 31 = .ok (.return_, 1) := by decide +kernel
theorem dX2_isMissing_0 : decode cX2_isMissing 0 = .ok (.aload_n 0, 1) := by decide +kernel
theorem dX2_isMissing_1 : decode cX2_isMissing 1 = .ok (.getfield 9, 3) := by decide +kernel
theorem dX2_isMissing_4 : decode cX2_isMissing 4 = .ok (.iconst (-1), 1) := by decide +kernel
theorem dX2_isMissing_5 : decode cX2_isMissing 5 = .ok (.if_icmp .ne 7, 3) := by decide +kernel
theorem dX2_isMissing_8 : decode cX2_isMissing 8 = .ok (.iconst 1, 1) := by decide +kernel
theorem dX2_isMissing_9 : decode cX2_isMissing 9 = .ok (.goto 4, 3) := by decide +kernel
theorem dX2_isMissing_12 : decode cX2_isMissing 12 = .ok (.iconst 0, 1) := by decide +kernel
theorem dX2_isMissing_13 : decode cX2_isMissing 13 = .ok (.ireturn, 1) := by decide +kernel
theorem dX2_has_0 : decode cX2_has 0 = .ok (.iload_n 1, 1) := by decide +kernel
theorem dX2_has_1 : decode cX2_has 1 = .ok (.ifCond .lt 15, 3) := by decide +kernel
theorem dX2_has_4 : decode cX2_has 4 = .ok (.iload_n 1, 1) := by decide +kernel
theorem dX2_has_5 : decode cX2_has 5 = .ok (.aload_n 0, 1) := by decide +kernel
theorem dX2_has_6 : decode cX2_has 6 = .ok (.getfield 23, 3) := by decide +kernel
theorem dX2_has_9 : decode cX2_has 9 = .ok (.if_icmp .ge 7, 3) := by decide +kernel
theorem dX2_has_12 : decode cX2_has 12 = .ok (.iconst 1, 1) := by decide +kernel
theorem dX2_has_13 : decode cX2_has 13 = .ok (.goto 4, 3) := by decide +kernel
theorem dX2_has_16 : decode cX2_has 16 = .ok (.iconst 0, 1) := by decide +kernel
theorem dX2_has_17 : decode cX2_has 17 = .ok (.ireturn, 1) := by decide +kernel
theorem dX2_hasNumber_0 : decode cX2_hasNumber 0 = .ok (.aload_n 0, 1) := by decide +kernel
theorem dX2_hasNumber_1 : decode cX2_hasNumber 1 = .ok (.iload_n 1, 1) := by decide +kernel
theorem dX2_hasNumber_2 : decode cX2_hasNumber 2 = .ok (.invokevirtual 38, 3) := by decide +kernel
theorem dX2_hasNumber_5 : decode cX2_hasNumber 5 = .ok (.ifCond .eq 18, 3) := by decide +kernel
theorem dX2_hasNumber_8 : decode cX2_hasNumber 8 = .ok (.aload_n 0, 1) := by decide +kernel
theorem dX2_hasNumber_9 : decode cX2_hasNumber 9 = .ok (.getfield 15, 3) := by decide +kernel
theorem dX2_hasNumber_12 : decode cX2_hasNumber 12 = .ok (.iload_n 1, 1) := by decide +kernel
theorem dX2_hasNumber_13 : decode cX2_hasNumber 13 = .ok (.iaload, 1) := by decide +kernel
theorem dX2_hasNumber_14 : decode cX2_hasNumber 14 = .ok (.ldc 42, 2) := by decide +kernel
theorem dX2_hasNumber_16 : decode cX2_hasNumber 16 = .ok (.if_icmp .eq 7, 3) := by decide +kernel
theorem dX2_hasNumber_19 : decode cX2_hasNumber 19 = .ok (.iconst 1, 1) := by decide +kernel
theorem dX2_hasNumber_20 : decode cX2_hasNumber 20 = .ok (.goto 4, 3) := by decide +kernel
theorem dX2_hasNumber_23 : decode cX2_hasNumber 23 = .ok (.iconst 0, 1) := by decide +kernel
theorem dX2_hasNumber_24 : decode cX2_hasNumber 24 = .ok (.ireturn, 1) := by decide +kernel
theorem dX2_hasRow_0 : decode cX2_hasRow 0 = .ok (.iload_n 1, 1) := by decide +kernel
theorem dX2_hasRow_1 : decode cX2_hasRow 1 = .ok (.ifCond .lt 29, 3) := by decide +kernel
theorem dX2_hasRow_4 : decode cX2_hasRow 4 = .ok (.iload_n 2, 1) := by decide +kernel
theorem dX2_hasRow_5 : decode cX2_hasRow 5 = .ok (.iconst 0, 1) := by decide +kernel
theorem dX2_hasRow_6 : decode cX2_hasRow 6 = .ok (.aload_n 0, 1) := by decide +kernel
theorem dX2_hasRow_7 : decode cX2_hasRow 7 = .ok (.getfield 23, 3) := by decide +kernel
theorem dX2_hasRow_10 : decode cX2_hasRow 10 = .ok (.invokestatic 43, 3) := by decide +kernel
theorem dX2_hasRow_13 : decode cX2_hasRow 13 = .ok (.ifCond .eq 17, 3) := by decide +kernel
theorem dX2_hasRow_16 : decode cX2_hasRow 16 = .ok (.iload_n 1, 1) := by decide +kernel
theorem dX2_hasRow_17 : decode cX2_hasRow 17 = .ok (.aload_n 0, 1) := by decide +kernel
theorem dX2_hasRow_18 : decode cX2_hasRow 18 = .ok (.getfield 23, 3) := by decide +kernel
theorem dX2_hasRow_21 : decode cX2_hasRow 21 = .ok (.iload_n 2, 1) := by decide +kernel
theorem dX2_hasRow_22 : decode cX2_hasRow 22 = .ok (.isub, 1) := by decide +kernel
theorem dX2_hasRow_23 : decode cX2_hasRow 23 = .ok (.if_icmp .gt 7, 3) := by decide +kernel
theorem dX2_hasRow_26 : decode cX2_hasRow 26 = .ok (.iconst 1, 1) := by decide +kernel
theorem dX2_hasRow_27 : decode cX2_hasRow 27 = .ok (.goto 4, 3) := by decide +kernel
theorem dX2_hasRow_30 : decode cX2_hasRow 30 = .ok (.iconst 0, 1) := by decide +kernel
theorem dX2_hasRow_31 : decode cX2_hasRow 31 = .ok (.ireturn, 1) := by decide +kernel
theorem dX3_init_0 : decode cX3_init 0 = .ok (.aload_n 0, 1) := by decide +kernel
theorem dX3_init_1 : decode cX3_init 1 = .ok (.invokespecial 3, 3) := by decide +kernel
theorem dX3_init_4 : decode cX3_init 4 = .ok (.aload_n 0, 1) := by decide +kernel
theorem dX3_init_5 : decode cX3_init 5 = .ok (.iconst 0, 1) := by decide +kernel
theorem dX3_init_6 : decode cX3_init 6 = .ok (.putfield 9, 3) := by decide +kernel
theorem dX3_init_9 : decode cX3_init 9 = .ok (.aload_n 0, 1) := by decide +kernel
theorem dX3_init_10 : decode cX3_init 10 = .ok (.new 15, 3) := by decide +kernel
theorem dX3_init_13 : decode cX3_init 13 = .ok (.dup, 1) := by decide +kernel
theorem dX3_init_14 : decode cX3_init 14 = .ok (.invokespecial 17, 3) := by decide +kernel
theorem dX3_init_17 : decode cX3_init 17 = .ok (.putfield 18, 3) := by decide +kernel
theorem dX3_init_20 : decode cX3_init 20 = .ok (.aload_n 0, 1) := by decide +kernel
theorem dX3_init_21 : decode cX3_init 21 = .ok (.new 22, 3) := by decide +kernel
theorem dX3_init_24 : decode cX3_init 24 = .ok (.dup, 1) := by decide +kernel
theorem dX3_init_25 : decode cX3_init 25 = .ok (.invokespecial 24, 3) := by decide +kernel
theorem dX3_init_28 : decode cX3_init 28 = .ok (.putfield 25, 3) := by decide +kernel
theorem dX3_init_31 : decode cX3_init 31 = .ok (.return_, 1) := by decide +kernel
theorem dX4_init_0 : decode cX4_init 0 = .ok (.aload_n 0, 1) := by decide +kernel
theorem dX4_init_1 : decode cX4_init 1 = .ok (.invokespecial 3, 3) := by decide +kernel
theorem dX4_init_4 : decode cX4_init 4 = .ok (.aload_n 0, 1) := by decide +kernel
theorem dX4_init_5 : decode cX4_init 5 = .ok (.bipush 96, 2) := by decide +kernel
theorem dX4_init_7 : decode cX4_init 7 = .ok (.newarray .int, 2) := by decide +kernel
theorem dX4_init_9 : decode cX4_init 9 = .ok (.putfield 9, 3) := by decide +kernel
theorem dX4_init_12 : decode cX4_init 12 = .ok (.return_, 1) := by decide +kernel
theorem dX4_addNumber_0 : decode cX4_addNumber 0 = .ok (.bipush 24, 2) := by decide +kernel
theorem dX4_addNumber_2 : decode cX4_addNumber 2 = .ok (.istore_n 2, 1) := by decide +kernel
theorem dX4_addNumber_3 : decode cX4_addNumber 3 = .ok (.iload_n 2, 1) := by decide +kernel
theorem dX4_addNumber_4 : decode cX4_addNumber 4 = .ok (.ifCond .lt 44, 3) := by decide +kernel
theorem dX4_addNumber_7 : decode cX4_addNumber 7 = .ok (.aload_n 0, 1) := by decide +kernel
theorem dX4_addNumber_8 : decode cX4_addNumber 8 = .ok (.getfield 15, 3) := by decide +kernel
theorem dX4_addNumber_11 : decode cX4_addNumber 11 = .ok (.bipush 96, 2) := by decide +kernel
theorem dX4_addNumber_13 : decode cX4_addNumber 13 = .ok (.if_icmp .ge 29, 3) := by decide +kernel
theorem dX4_addNumber_16 : decode cX4_addNumber 16 = .ok (.aload_n 0, 1) := by decide +kernel
theorem dX4_addNumber_17 : decode cX4_addNumber 17 = .ok (.getfield 9, 3) := by decide +kernel
theorem dX4_addNumber_20 : decode cX4_addNumber 20 = .ok (.aload_n 0, 1) := by decide +kernel
theorem dX4_addNumber_21 : decode cX4_addNumber 21 = .ok (.getfield 15, 3) := by decide +kernel
theorem dX4_addNumber_24 : decode cX4_addNumber 24 = .ok (.iload_n 1, 1) := by decide +kernel
theorem dX4_addNumber_25 : decode cX4_addNumber 25 = .ok (.iload_n 2, 1) := by decide +kernel
theorem dX4_addNumber_26 : decode cX4_addNumber 26 = .ok (.ishr, 1) := by decide +kernel
theorem dX4_addNumber_27 : decode cX4_addNumber 27 = .ok (.sipush 255, 3) := by decide +kernel
theorem dX4_addNumber_30 : decode cX4_addNumber 30 = .ok (.iand, 1) := by decide +kernel
theorem dX4_addNumber_31 : decode cX4_addNumber 31 = .ok (.iastore, 1) := by decide +kernel
theorem dX4_addNumber_32 : decode cX4_addNumber 32 = .ok (.aload_n 0, 1) := by decide +kernel
theorem dX4_addNumber_33 : decode cX4_addNumber 33 = .ok (.dup, 1) := by decide +kernel
theorem dX4_addNumber_34 : decode cX4_addNumber 34 = .ok (.getfield 15, 3) := by decide +kernel
theorem dX4_addNumber_37 : decode cX4_addNumber 37 = .ok (.iconst 1, 1) := by decide +kernel
theorem dX4_addNumber_38 : decode cX4_addNumber 38 = .ok (.iadd, 1) := by decide +kernel
theorem dX4_addNumber_39 : decode cX4_addNumber 39 = .ok (.putfield 15, 3) := by decide +kernel
theorem dX4_addNumber_42 : decode cX4_addNumber 42 = .ok (.iinc 2 (-8), 3) := by decide +kernel
theorem dX4_addNumber_45 : decode cX4_addNumber 45 = .ok (.goto (-42), 3) := by decide +kernel
theorem dX4_addNumber_48 : decode cX4_addNumber 48 = .ok (.return_, 1) := by decide +kernel
theorem dX4_byteAt_0 : decode cX4_byteAt 0 = .ok (.iload_n 1, 1) := by decide +kernel
theorem dX4_byteAt_1 : decode cX4_byteAt 1 = .ok (.ifCond .lt 26, 3) := by decide +kernel
theorem dX4_byteAt_4 : decode cX4_byteAt 4 = .ok (.iload_n 1, 1) := by decide +kernel
theorem dX4_byteAt_5 : decode cX4_byteAt 5 = .ok (.aload_n 0, 1) := by decide +kernel
theorem dX4_byteAt_6 : decode cX4_byteAt 6 = .ok (.getfield 15, 3) := by decide +kernel
theorem dX4_byteAt_9 : decode cX4_byteAt 9 = .ok (.if_icmp .ge 18, 3) := by decide +kernel
theorem dX4_byteAt_12 : decode cX4_byteAt 12 = .ok (.iload_n 1, 1) := by decide +kernel
theorem dX4_byteAt_13 : decode cX4_byteAt 13 = .ok (.bipush 96, 2) := by decide +kernel
theorem dX4_byteAt_15 : decode cX4_byteAt 15 = .ok (.if_icmp .ge 12, 3) := by decide +kernel
theorem dX4_byteAt_18 : decode cX4_byteAt 18 = .ok (.aload_n 0, 1) := by decide +kernel
theorem dX4_byteAt_19 : decode cX4_byteAt 19 = .ok (.getfield 9, 3) := by decide +kernel
theorem dX4_byteAt_22 : decode cX4_byteAt 22 = .ok (.iload_n 1, 1) := by decide +kernel
theorem dX4_byteAt_23 : decode cX4_byteAt 23 = .ok (.iaload, 1) := by decide +kernel
theorem dX4_byteAt_24 : decode cX4_byteAt 24 = .ok (.goto 4, 3) := by decide +kernel
theorem dX4_byteAt_27 : decode cX4_byteAt 27 = .ok (.iconst (-1), 1) := by decide +kernel
theorem dX4_byteAt_28 : decode cX4_byteAt 28 = .ok (.ireturn, 1) := by decide +kernel
theorem dX5_init_0 : decode cX5_init 0 = .ok (.aload_n 0, 1) := by decide +kernel
theorem dX5_init_1 : decode cX5_init 1 = .ok (.invokespecial 1, 3) := by decide +kernel
theorem dX5_init_4 : decode cX5_init 4 = .ok (.aload_n 0, 1) := by decide +kernel
theorem dX5_init_5 : decode cX5_init 5 = .ok (.iload_n 1, 1) := by decide +kernel
theorem dX5_init_6 : decode cX5_init 6 = .ok (.putfield 7, 3) := by decide +kernel
theorem dX5_init_9 : decode cX5_init 9 = .ok (.aload_n 0, 1) := by decide +kernel
theorem dX5_init_10 : decode cX5_init 10 = .ok (.iload_n 2, 1) := by decide +kernel
theorem dX5_init_11 : decode cX5_init 11 = .ok (.putfield 13, 3) := by decide +kernel
theorem dX5_init_14 : decode cX5_init 14 = .ok (.aload_n 0, 1) := by decide +kernel
theorem dX5_init_15 : decode cX5_init 15 = .ok (.aload_n 3, 1) := by decide +kernel
theorem dX5_init_16 : decode cX5_init 16 = .ok (.putfield 16, 3) := by decide +kernel
theorem dX5_init_19 : decode cX5_init 19 = .ok (.aload_n 0, 1) := by decide +kernel
theorem dX5_init_20 : decode cX5_init 20 = .ok (.iconst 0, 1) := by decide +kernel
theorem dX5_init_21 : decode cX5_init 21 = .ok (.iload_n 2, 1) := by decide +kernel
theorem dX5_init_22 : decode cX5_init 22 = .ok (.invokestatic 20, 3) := by decide +kernel
theorem dX5_init_25 : decode cX5_init 25 = .ok (.newarray .int, 2) := by decide +kernel
theorem dX5_init_27 : decode cX5_init 27 = .ok (.putfield 26, 3) := by decide +kernel
theorem dX5_init_30 : decode cX5_init 30 = .ok (.return_, 1) := by decide +kernel
theorem dX5_gives_0 : decode cX5_gives 0 = .ok (.iconst 0, 1) := by decide +kernel
theorem dX5_gives_1 : decode cX5_gives 1 = .ok (.istore 4, 2) := by decide +kernel
theorem dX5_gives_3 : decode cX5_gives 3 = .ok (.iconst 0, 1) := by decide +kernel
theorem dX5_gives_4 : decode cX5_gives 4 = .ok (.istore 5, 2) := by decide +kernel
theorem dX5_gives_6 : decode cX5_gives 6 = .ok (.iload 5, 2) := by decide +kernel
theorem dX5_gives_8 : decode cX5_gives 8 = .ok (.aload_n 0, 1) := by decide +kernel
theorem dX5_gives_9 : decode cX5_gives 9 = .ok (.getfield 16, 3) := by decide +kernel
theorem dX5_gives_12 : decode cX5_gives 12 = .ok (.arraylength, 1) := by decide +kernel
theorem dX5_gives_13 : decode cX5_gives 13 = .ok (.if_icmp .ge 135, 3) := by decide +kernel
theorem dX5_gives_16 : decode cX5_gives 16 = .ok (.aload_n 0, 1) := by decide +kernel
theorem dX5_gives_17 : decode cX5_gives 17 = .ok (.getfield 16, 3) := by decide +kernel
theorem dX5_gives_20 : decode cX5_gives 20 = .ok (.iload 5, 2) := by decide +kernel
theorem dX5_gives_22 : decode cX5_gives 22 = .ok (.iaload, 1) := by decide +kernel
theorem dX5_gives_23 : decode cX5_gives 23 = .ok (.istore 6, 2) := by decide +kernel
theorem dX5_gives_25 : decode cX5_gives 25 = .ok (.iload 6, 2) := by decide +kernel
theorem dX5_gives_27 : decode cX5_gives 27 = .ok (.ifCond .lt 34, 3) := by decide +kernel
theorem dX5_gives_30 : decode cX5_gives 30 = .ok (.iload 4, 2) := by decide +kernel
theorem dX5_gives_32 : decode cX5_gives 32 = .ok (.aload_n 0, 1) := by decide +kernel
theorem dX5_gives_33 : decode cX5_gives 33 = .ok (.getfield 26, 3) := by decide +kernel
theorem dX5_gives_36 : decode cX5_gives 36 = .ok (.arraylength, 1) := by decide +kernel
theorem dX5_gives_37 : decode cX5_gives 37 = .ok (.if_icmp .ge 105, 3) := by decide +kernel
theorem dX5_gives_40 : decode cX5_gives 40 = .ok (.aload_n 0, 1) := by decide +kernel
theorem dX5_gives_41 : decode cX5_gives 41 = .ok (.getfield 26, 3) := by decide +kernel
theorem dX5_gives_44 : decode cX5_gives 44 = .ok (.iload 4, 2) := by decide +kernel
theorem dX5_gives_46 : decode cX5_gives 46 = .ok (.iload 6, 2) := by decide +kernel
theorem dX5_gives_48 : decode cX5_gives 48 = .ok (.iload_n 1, 1) := by decide +kernel
theorem dX5_gives_49 : decode cX5_gives 49 = .ok (.iload_n 2, 1) := by decide +kernel
theorem dX5_gives_50 : decode cX5_gives 50 = .ok (.iload_n 3, 1) := by decide +kernel
theorem dX5_gives_51 : decode cX5_gives 51 = .ok (.invokestatic 29, 3) := by decide +kernel
theorem dX5_gives_54 : decode cX5_gives 54 = .ok (.iastore, 1) := by decide +kernel
theorem dX5_gives_55 : decode cX5_gives 55 = .ok (.iinc 4 1, 3) := by decide +kernel
theorem dX5_gives_58 : decode cX5_gives 58 = .ok (.goto 84, 3) := by decide +kernel
theorem dX5_gives_61 : decode cX5_gives 61 = .ok (.iload 6, 2) := by decide +kernel
theorem dX5_gives_63 : decode cX5_gives 63 = .ok (.bipush (-33), 2) := by decide +kernel
theorem dX5_gives_65 : decode cX5_gives 65 = .ok (.if_icmp .ne 37, 3) := by decide +kernel
theorem dX5_gives_68 : decode cX5_gives 68 = .ok (.iload 4, 2) := by decide +kernel
theorem dX5_gives_70 : decode cX5_gives 70 = .ok (.ifCond .le 72, 3) := by decide +kernel
theorem dX5_gives_73 : decode cX5_gives 73 = .ok (.aload_n 0, 1) := by decide +kernel
theorem dX5_gives_74 : decode cX5_gives 74 = .ok (.getfield 26, 3) := by decide +kernel
theorem dX5_gives_77 : decode cX5_gives 77 = .ok (.iload 4, 2) := by decide +kernel
theorem dX5_gives_79 : decode cX5_gives 79 = .ok (.iconst 1, 1) := by decide +kernel
theorem dX5_gives_80 : decode cX5_gives 80 = .ok (.isub, 1) := by decide +kernel
theorem dX5_gives_81 : decode cX5_gives 81 = .ok (.aload_n 0, 1) := by decide +kernel
theorem dX5_gives_82 : decode cX5_gives 82 = .ok (.getfield 26, 3) := by decide +kernel
theorem dX5_gives_85 : decode cX5_gives 85 = .ok (.iload 4, 2) := by decide +kernel
theorem dX5_gives_87 : decode cX5_gives 87 = .ok (.iconst 1, 1) := by decide +kernel
theorem dX5_gives_88 : decode cX5_gives 88 = .ok (.isub, 1) := by decide +kernel
theorem dX5_gives_89 : decode cX5_gives 89 = .ok (.iaload, 1) := by decide +kernel
theorem dX5_gives_90 : decode cX5_gives 90 = .ok (.ifCond .ne 7, 3) := by decide +kernel
theorem dX5_gives_93 : decode cX5_gives 93 = .ok (.iconst 1, 1) := by decide +kernel
theorem dX5_gives_94 : decode cX5_gives 94 = .ok (.goto 4, 3) := by decide +kernel
theorem dX5_gives_97 : decode cX5_gives 97 = .ok (.iconst 0, 1) := by decide +kernel
theorem dX5_gives_98 : decode cX5_gives 98 = .ok (.iastore, 1) := by decide +kernel
theorem dX5_gives_99 : decode cX5_gives 99 = .ok (.goto 43, 3) := by decide +kernel
theorem dX5_gives_102 : decode cX5_gives 102 = .ok (.iload 4, 2) := by decide +kernel
theorem dX5_gives_104 : decode cX5_gives 104 = .ok (.iconst 1, 1) := by decide +kernel
theorem dX5_gives_105 : decode cX5_gives 105 = .ok (.if_icmp .le 37, 3) := by decide +kernel
theorem dX5_gives_108 : decode cX5_gives 108 = .ok (.iinc 4 (-1), 3) := by decide +kernel
theorem dX5_gives_111 : decode cX5_gives 111 = .ok (.aload_n 0, 1) := by decide +kernel
theorem dX5_gives_112 : decode cX5_gives 112 = .ok (.getfield 26, 3) := by decide +kernel
theorem dX5_gives_115 : decode cX5_gives 115 = .ok (.iload 4, 2) := by decide +kernel
theorem dX5_gives_117 : decode cX5_gives 117 = .ok (.iconst 1, 1) := by decide +kernel
theorem dX5_gives_118 : decode cX5_gives 118 = .ok (.isub, 1) := by decide +kernel
theorem dX5_gives_119 : decode cX5_gives 119 = .ok (.aload_n 0, 1) := by decide +kernel
theorem dX5_gives_120 : decode cX5_gives 120 = .ok (.getfield 26, 3) := by decide +kernel
theorem dX5_gives_123 : decode cX5_gives 123 = .ok (.iload 4, 2) := by decide +kernel
theorem dX5_gives_125 : decode cX5_gives 125 = .ok (.iconst 1, 1) := by decide +kernel
theorem dX5_gives_126 : decode cX5_gives 126 = .ok (.isub, 1) := by decide +kernel
theorem dX5_gives_127 : decode cX5_gives 127 = .ok (.iaload, 1) := by decide +kernel
theorem dX5_gives_128 : decode cX5_gives 128 = .ok (.iload 6, 2) := by decide +kernel
theorem dX5_gives_130 : decode cX5_gives 130 = .ok (.ineg, 1) := by decide +kernel
theorem dX5_gives_131 : decode cX5_gives 131 = .ok (.aload_n 0, 1) := by decide +kernel
theorem dX5_gives_132 : decode cX5_gives 132 = .ok (.getfield 26, 3) := by decide +kernel
theorem dX5_gives_135 : decode cX5_gives 135 = .ok (.iload 4, 2) := by decide +kernel
theorem dX5_gives_137 : decode cX5_gives 137 = .ok (.iaload, 1) := by decide +kernel
theorem dX5_gives_138 : decode cX5_gives 138 = .ok (.invokestatic 33, 3) := by decide +kernel
theorem dX5_gives_141 : decode cX5_gives 141 = .ok (.iastore, 1) := by decide +kernel
theorem dX5_gives_142 : decode cX5_gives 142 = .ok (.iinc 5 1, 3) := by decide +kernel
theorem dX5_gives_145 : decode cX5_gives 145 = .ok (.goto (-139), 3) := by decide +kernel
theorem dX5_gives_148 : decode cX5_gives 148 = .ok (.iload 4, 2) := by decide +kernel
theorem dX5_gives_150 : decode cX5_gives 150 = .ok (.ifCond .le 12, 3) := by decide +kernel
theorem dX5_gives_153 : decode cX5_gives 153 = .ok (.aload_n 0, 1) := by decide +kernel
theorem dX5_gives_154 : decode cX5_gives 154 = .ok (.getfield 26, 3) := by decide +kernel
theorem dX5_gives_157 : decode cX5_gives 157 = .ok (.iconst 0, 1) := by decide +kernel
theorem dX5_gives_158 : decode cX5_gives 158 = .ok (.iaload, 1) := by decide +kernel
theorem dX5_gives_159 : decode cX5_gives 159 = .ok (.goto 4, 3) := by decide +kernel
theorem dX5_gives_162 : decode cX5_gives 162 = .ok (.iconst 0, 1) := by decide +kernel
theorem dX5_gives_163 : decode cX5_gives 163 = .ok (.ireturn, 1) := by decide +kernel
theorem dX5_valueOf_0 : decode cX5_valueOf 0 = .ok (.iload_n 0, 1) := by decide +kernel
theorem dX5_valueOf_1 : decode cX5_valueOf 1 = .ok (.tableswitch 33 10000 10002 #[27, 29, 31], 27) := by decide +kernel
theorem dX5_valueOf_28 : decode cX5_valueOf 28 = .ok (.iload_n 1, 1) := by decide +kernel
theorem dX5_valueOf_29 : decode cX5_valueOf 29 = .ok (.ireturn, 1) := by decide +kernel
theorem dX5_valueOf_30 : decode cX5_valueOf 30 = .ok (.iload_n 2, 1) := by decide +kernel
theorem dX5_valueOf_31 : decode cX5_valueOf 31 = .ok (.ireturn, 1) := by decide +kernel
theorem dX5_valueOf_32 : decode cX5_valueOf 32 = .ok (.iload_n 3, 1) := by decide +kernel
theorem dX5_valueOf_33 : decode cX5_valueOf 33 = .ok (.ireturn, 1) := by decide +kernel
theorem dX5_valueOf_34 : decode cX5_valueOf 34 = .ok (.iload_n 0, 1) := by decide +kernel
theorem dX5_valueOf_35 : decode cX5_valueOf 35 = .ok (.ireturn, 1) := by decide +kernel
theorem dX5_joined_0 : decode cX5_joined 0 = .ok (.iload_n 1, 1) := by decide +kernel
theorem dX5_joined_1 : decode cX5_joined 1 = .ok (.lookupswitch 168 #[(38, 97), (42, 152), (43, 144), (45, 148), (47, 156), (60, 111), (61, 122), (62, 133), (124, 83)], 83) := by decide +kernel
theorem dX5_joined_84 : decode cX5_joined 84 = .ok (.iload_n 0, 1) := by decide +kernel
theorem dX5_joined_85 : decode cX5_joined 85 = .ok (.ifCond .ne 7, 3) := by decide +kernel
theorem dX5_joined_88 : decode cX5_joined 88 = .ok (.iload_n 2, 1) := by decide +kernel
theorem dX5_joined_89 : decode cX5_joined 89 = .ok (.ifCond .eq 7, 3) := by decide +kernel
theorem dX5_joined_92 : decode cX5_joined 92 = .ok (.iconst 1, 1) := by decide +kernel
theorem dX5_joined_93 : decode cX5_joined 93 = .ok (.goto 4, 3) := by decide +kernel
theorem dX5_joined_96 : decode cX5_joined 96 = .ok (.iconst 0, 1) := by decide +kernel
theorem dX5_joined_97 : decode cX5_joined 97 = .ok (.ireturn, 1) := by decide +kernel
theorem dX5_joined_98 : decode cX5_joined 98 = .ok (.iload_n 0, 1) := by decide +kernel
theorem dX5_joined_99 : decode cX5_joined 99 = .ok (.ifCond .eq 11, 3) := by decide +kernel
theorem dX5_joined_102 : decode cX5_joined 102 = .ok (.iload_n 2, 1) := by decide +kernel
theorem dX5_joined_103 : decode cX5_joined 103 = .ok (.ifCond .eq 7, 3) := by decide +kernel
theorem dX5_joined_106 : decode cX5_joined 106 = .ok (.iconst 1, 1) := by decide +kernel
theorem dX5_joined_107 : decode cX5_joined 107 = .ok (.goto 4, 3) := by decide +kernel
theorem dX5_joined_110 : decode cX5_joined 110 = .ok (.iconst 0, 1) := by decide +kernel
theorem dX5_joined_111 : decode cX5_joined 111 = .ok (.ireturn, 1) := by decide +kernel
theorem dX5_joined_112 : decode cX5_joined 112 = .ok (.iload_n 0, 1) := by decide +kernel
theorem dX5_joined_113 : decode cX5_joined 113 = .ok (.iload_n 2, 1) := by decide +kernel
theorem dX5_joined_114 : decode cX5_joined 114 = .ok (.if_icmp .ge 7, 3) := by decide +kernel
theorem dX5_joined_117 : decode cX5_joined 117 = .ok (.iconst 1, 1) := by decide +kernel
theorem dX5_joined_118 : decode cX5_joined 118 = .ok (.goto 4, 3) := by decide +kernel
theorem dX5_joined_121 : decode cX5_joined 121 = .ok (.iconst 0, 1) := by decide +kernel
theorem dX5_joined_122 : decode cX5_joined 122 = .ok (.ireturn, 1) := by decide +kernel
theorem dX5_joined_123 : decode cX5_joined 123 = .ok (.iload_n 0, 1) := by decide +kernel
theorem dX5_joined_124 : decode cX5_joined 124 = .ok (.iload_n 2, 1) := by decide +kernel
theorem dX5_joined_125 : decode cX5_joined 125 = .ok (.if_icmp .ne 7, 3) := by decide +kernel
theorem dX5_joined_128 : decode cX5_joined 128 = .ok (.iconst 1, 1) := by decide +kernel
theorem dX5_joined_129 : decode cX5_joined 129 = .ok (.goto 4, 3) := by decide +kernel
theorem dX5_joined_132 : decode cX5_joined 132 = .ok (.iconst 0, 1) := by decide +kernel
theorem dX5_joined_133 : decode cX5_joined 133 = .ok (.ireturn, 1) := by decide +kernel
theorem dX5_joined_134 : decode cX5_joined 134 = .ok (.iload_n 0, 1) := by decide +kernel
theorem dX5_joined_135 : decode cX5_joined 135 = .ok (.iload_n 2, 1) := by decide +kernel
theorem dX5_joined_136 : decode cX5_joined 136 = .ok (.if_icmp .le 7, 3) := by decide +kernel
theorem dX5_joined_139 : decode cX5_joined 139 = .ok (.iconst 1, 1) := by decide +kernel
theorem dX5_joined_140 : decode cX5_joined 140 = .ok (.goto 4, 3) := by decide +kernel
theorem dX5_joined_143 : decode cX5_joined 143 = .ok (.iconst 0, 1) := by decide +kernel
theorem dX5_joined_144 : decode cX5_joined 144 = .ok (.ireturn, 1) := by decide +kernel
theorem dX5_joined_145 : decode cX5_joined 145 = .ok (.iload_n 0, 1) := by decide +kernel
theorem dX5_joined_146 : decode cX5_joined 146 = .ok (.iload_n 2, 1) := by decide +kernel
theorem dX5_joined_147 : decode cX5_joined 147 = .ok (.iadd, 1) := by decide +kernel
theorem dX5_joined_148 : decode cX5_joined 148 = .ok (.ireturn, 1) := by decide +kernel
theorem dX5_joined_149 : decode cX5_joined 149 = .ok (.iload_n 0, 1) := by decide +kernel
theorem dX5_joined_150 : decode cX5_joined 150 = .ok (.iload_n 2, 1) := by decide +kernel
theorem dX5_joined_151 : decode cX5_joined 151 = .ok (.isub, 1) := by decide +kernel
theorem dX5_joined_152 : decode cX5_joined 152 = .ok (.ireturn, 1) := by decide +kernel
theorem dX5_joined_153 : decode cX5_joined 153 = .ok (.iload_n 0, 1) := by decide +kernel
theorem dX5_joined_154 : decode cX5_joined 154 = .ok (.iload_n 2, 1) := by decide +kernel
theorem dX5_joined_155 : decode cX5_joined 155 = .ok (.imul, 1) := by decide +kernel
theorem dX5_joined_156 : decode cX5_joined 156 = .ok (.ireturn, 1) := by decide +kernel
theorem dX5_joined_157 : decode cX5_joined 157 = .ok (.iload_n 2, 1) := by decide +kernel
theorem dX5_joined_158 : decode cX5_joined 158 = .ok (.ifCond .ne 7, 3) := by decide +kernel
theorem dX5_joined_161 : decode cX5_joined 161 = .ok (.iconst 0, 1) := by decide +kernel
theorem dX5_joined_162 : decode cX5_joined 162 = .ok (.goto 6, 3) := by decide +kernel
theorem dX5_joined_165 : decode cX5_joined 165 = .ok (.iload_n 0, 1) := by decide +kernel
theorem dX5_joined_166 : decode cX5_joined 166 = .ok (.iload_n 2, 1) := by decide +kernel
theorem dX5_joined_167 : decode cX5_joined 167 = .ok (.idiv, 1) := by decide +kernel
theorem dX5_joined_168 : decode cX5_joined 168 = .ok (.ireturn, 1) := by decide +kernel
theorem dX5_joined_169 : decode cX5_joined 169 = .ok (.iconst 0, 1) := by decide +kernel
theorem dX5_joined_170 : decode cX5_joined 170 = .ok (.ireturn, 1) := by decide +kernel
theorem dX6_init_0 : decode cX6_init 0 = .ok (.aload_n 0, 1) := by decide +kernel
theorem dX6_init_1 : decode cX6_init 1 = .ok (.invokespecial 3, 3) := by decide +kernel
theorem dX6_init_4 : decode cX6_init 4 = .ok (.return_, 1) := by decide +kernel
theorem dX6_becomeAs_0 : decode cX6_becomeAs 0 = .ok (.aload_n 0, 1) := by decide +kernel
theorem dX6_becomeAs_1 : decode cX6_becomeAs 1 = .ok (.aload_n 1, 1) := by decide +kernel
theorem dX6_becomeAs_2 : decode cX6_becomeAs 2 = .ok (.getfield 9, 3) := by decide +kernel
theorem dX6_becomeAs_5 : decode cX6_becomeAs 5 = .ok (.putfield 9, 3) := by decide +kernel
theorem dX6_becomeAs_8 : decode cX6_becomeAs 8 = .ok (.aload_n 0, 1) := by decide +kernel
theorem dX6_becomeAs_9 : decode cX6_becomeAs 9 = .ok (.aload_n 1, 1) := by decide +kernel
theorem dX6_becomeAs_10 : decode cX6_becomeAs 10 = .ok (.getfield 15, 3) := by decide +kernel
theorem dX6_becomeAs_13 : decode cX6_becomeAs 13 = .ok (.putfield 15, 3) := by decide +kernel
theorem dX6_becomeAs_16 : decode cX6_becomeAs 16 = .ok (.aload_n 0, 1) := by decide +kernel
theorem dX6_becomeAs_17 : decode cX6_becomeAs 17 = .ok (.aload_n 1, 1) := by decide +kernel
theorem dX6_becomeAs_18 : decode cX6_becomeAs 18 = .ok (.getfield 18, 3) := by decide +kernel
theorem dX6_becomeAs_21 : decode cX6_becomeAs 21 = .ok (.putfield 18, 3) := by decide +kernel
theorem dX6_becomeAs_24 : decode cX6_becomeAs 24 = .ok (.aload_n 0, 1) := by decide +kernel
theorem dX6_becomeAs_25 : decode cX6_becomeAs 25 = .ok (.aload_n 1, 1) := by decide +kernel
theorem dX6_becomeAs_26 : decode cX6_becomeAs 26 = .ok (.getfield 21, 3) := by decide +kernel
theorem dX6_becomeAs_29 : decode cX6_becomeAs 29 = .ok (.putfield 21, 3) := by decide +kernel
theorem dX6_becomeAs_32 : decode cX6_becomeAs 32 = .ok (.return_, 1) := by decide +kernel
theorem dX6_stampAnew_0 : decode cX6_stampAnew 0 = .ok (.aload_n 0, 1) := by decide +kernel
theorem dX6_stampAnew_1 : decode cX6_stampAnew 1 = .ok (.iload_n 1, 1) := by decide +kernel
theorem dX6_stampAnew_2 : decode cX6_stampAnew 2 = .ok (.putfield 9, 3) := by decide +kernel
theorem dX6_stampAnew_5 : decode cX6_stampAnew 5 = .ok (.aload_n 0, 1) := by decide +kernel
theorem dX6_stampAnew_6 : decode cX6_stampAnew 6 = .ok (.iload_n 2, 1) := by decide +kernel
theorem dX6_stampAnew_7 : decode cX6_stampAnew 7 = .ok (.putfield 15, 3) := by decide +kernel
theorem dX6_stampAnew_10 : decode cX6_stampAnew 10 = .ok (.aload_n 0, 1) := by decide +kernel
theorem dX6_stampAnew_11 : decode cX6_stampAnew 11 = .ok (.iload_n 2, 1) := by decide +kernel
theorem dX6_stampAnew_12 : decode cX6_stampAnew 12 = .ok (.putfield 18, 3) := by decide +kernel
theorem dX6_stampAnew_15 : decode cX6_stampAnew 15 = .ok (.aload_n 0, 1) := by decide +kernel
theorem dX6_stampAnew_16 : decode cX6_stampAnew 16 = .ok (.iconst 0, 1) := by decide +kernel
theorem dX6_stampAnew_17 : decode cX6_stampAnew 17 = .ok (.putfield 21, 3) := by decide +kernel
theorem dX6_stampAnew_20 : decode cX6_stampAnew 20 = .ok (.return_, 1) := by decide +kernel
theorem dX6_isOf_0 : decode cX6_isOf 0 = .ok (.aload_n 0, 1) := by decide +kernel
theorem dX6_isOf_1 : decode cX6_isOf 1 = .ok (.getfield 9, 3) := by decide +kernel
theorem dX6_isOf_4 : decode cX6_isOf 4 = .ok (.istore_n 2, 1) := by decide +kernel
theorem dX6_isOf_5 : decode cX6_isOf 5 = .ok (.iconst 0, 1) := by decide +kernel
theorem dX6_isOf_6 : decode cX6_isOf 6 = .ok (.istore_n 3, 1) := by decide +kernel
theorem dX6_isOf_7 : decode cX6_isOf 7 = .ok (.iload_n 3, 1) := by decide +kernel
theorem dX6_isOf_8 : decode cX6_isOf 8 = .ok (.bipush 6, 2) := by decide +kernel
theorem dX6_isOf_10 : decode cX6_isOf 10 = .ok (.if_icmp .ge 32, 3) := by decide +kernel
theorem dX6_isOf_13 : decode cX6_isOf 13 = .ok (.iload_n 2, 1) := by decide +kernel
theorem dX6_isOf_14 : decode cX6_isOf 14 = .ok (.ifCond .lt 28, 3) := by decide +kernel
theorem dX6_isOf_17 : decode cX6_isOf 17 = .ok (.iload_n 2, 1) := by decide +kernel
theorem dX6_isOf_18 : decode cX6_isOf 18 = .ok (.bipush 6, 2) := by decide +kernel
theorem dX6_isOf_20 : decode cX6_isOf 20 = .ok (.if_icmp .ge 22, 3) := by decide +kernel
theorem dX6_isOf_23 : decode cX6_isOf 23 = .ok (.iload_n 2, 1) := by decide +kernel
theorem dX6_isOf_24 : decode cX6_isOf 24 = .ok (.iload_n 1, 1) := by decide +kernel
theorem dX6_isOf_25 : decode cX6_isOf 25 = .ok (.if_icmp .ne 5, 3) := by decide +kernel
theorem dX6_isOf_28 : decode cX6_isOf 28 = .ok (.iconst 1, 1) := by decide +kernel
theorem dX6_isOf_29 : decode cX6_isOf 29 = .ok (.ireturn, 1) := by decide +kernel
theorem dX6_isOf_30 : decode cX6_isOf 30 = .ok (.getstatic 24, 3) := by decide +kernel
theorem dX6_isOf_33 : decode cX6_isOf 33 = .ok (.iload_n 2, 1) := by decide +kernel
theorem dX6_isOf_34 : decode cX6_isOf 34 = .ok (.iaload, 1) := by decide +kernel
theorem dX6_isOf_35 : decode cX6_isOf 35 = .ok (.istore_n 2, 1) := by decide +kernel
theorem dX6_isOf_36 : decode cX6_isOf 36 = .ok (.iinc 3 1, 3) := by decide +kernel
theorem dX6_isOf_39 : decode cX6_isOf 39 = .ok (.goto (-32), 3) := by decide +kernel
theorem dX6_isOf_42 : decode cX6_isOf 42 = .ok (.iconst 0, 1) := by decide +kernel
theorem dX6_isOf_43 : decode cX6_isOf 43 = .ok (.ireturn, 1) := by decide +kernel
theorem dX6_lossBy_0 : decode cX6_lossBy 0 = .ok (.aload_n 0, 1) := by decide +kernel
theorem dX6_lossBy_1 : decode cX6_lossBy 1 = .ok (.getfield 9, 3) := by decide +kernel
theorem dX6_lossBy_4 : decode cX6_lossBy 4 = .ok (.tableswitch 69 1 5 #[36, 46, 40, 50, 67], 36) := by decide +kernel
theorem dX6_lossBy_40 : decode cX6_lossBy 40 = .ok (.iload_n 1, 1) := by decide +kernel
theorem dX6_lossBy_41 : decode cX6_lossBy 41 = .ok (.iconst 1, 1) := by decide +kernel
theorem dX6_lossBy_42 : decode cX6_lossBy 42 = .ok (.iadd, 1) := by decide +kernel
theorem dX6_lossBy_43 : decode cX6_lossBy 43 = .ok (.ireturn, 1) := by decide +kernel
theorem dX6_lossBy_44 : decode cX6_lossBy 44 = .ok (.iconst 2, 1) := by decide +kernel
theorem dX6_lossBy_45 : decode cX6_lossBy 45 = .ok (.iload_n 1, 1) := by decide +kernel
theorem dX6_lossBy_46 : decode cX6_lossBy 46 = .ok (.iconst 1, 1) := by decide +kernel
theorem dX6_lossBy_47 : decode cX6_lossBy 47 = .ok (.iadd, 1) := by decide +kernel
theorem dX6_lossBy_48 : decode cX6_lossBy 48 = .ok (.imul, 1) := by decide +kernel
theorem dX6_lossBy_49 : decode cX6_lossBy 49 = .ok (.ireturn, 1) := by decide +kernel
theorem dX6_lossBy_50 : decode cX6_lossBy 50 = .ok (.iload_n 1, 1) := by decide +kernel
theorem dX6_lossBy_51 : decode cX6_lossBy 51 = .ok (.iconst 2, 1) := by decide +kernel
theorem dX6_lossBy_52 : decode cX6_lossBy 52 = .ok (.idiv, 1) := by decide +kernel
theorem dX6_lossBy_53 : decode cX6_lossBy 53 = .ok (.ireturn, 1) := by decide +kernel
theorem dX6_lossBy_54 : decode cX6_lossBy 54 = .ok (.aload_n 0, 1) := by decide +kernel
theorem dX6_lossBy_55 : decode cX6_lossBy 55 = .ok (.getfield 21, 3) := by decide +kernel
theorem dX6_lossBy_58 : decode cX6_lossBy 58 = .ok (.iconst 2, 1) := by decide +kernel
theorem dX6_lossBy_59 : decode cX6_lossBy 59 = .ok (.irem, 1) := by decide +kernel
theorem dX6_lossBy_60 : decode cX6_lossBy 60 = .ok (.ifCond .ne 9, 3) := by decide +kernel
theorem dX6_lossBy_63 : decode cX6_lossBy 63 = .ok (.iload_n 1, 1) := by decide +kernel
theorem dX6_lossBy_64 : decode cX6_lossBy 64 = .ok (.iconst 2, 1) := by decide +kernel
theorem dX6_lossBy_65 : decode cX6_lossBy 65 = .ok (.idiv, 1) := by decide +kernel
theorem dX6_lossBy_66 : decode cX6_lossBy 66 = .ok (.goto 4, 3) := by decide +kernel
theorem dX6_lossBy_69 : decode cX6_lossBy 69 = .ok (.iconst 0, 1) := by decide +kernel
theorem dX6_lossBy_70 : decode cX6_lossBy 70 = .ok (.ireturn, 1) := by decide +kernel
theorem dX6_lossBy_71 : decode cX6_lossBy 71 = .ok (.iconst 0, 1) := by decide +kernel
theorem dX6_lossBy_72 : decode cX6_lossBy 72 = .ok (.ireturn, 1) := by decide +kernel
theorem dX6_lossBy_73 : decode cX6_lossBy 73 = .ok (.iload_n 1, 1) := by decide +kernel
theorem dX6_lossBy_74 : decode cX6_lossBy 74 = .ok (.ireturn, 1) := by decide +kernel
theorem dX6_worth_0 : decode cX6_worth 0 = .ok (.aload_n 0, 1) := by decide +kernel
theorem dX6_worth_1 : decode cX6_worth 1 = .ok (.getfield 9, 3) := by decide +kernel
theorem dX6_worth_4 : decode cX6_worth 4 = .ok (.tableswitch 75 1 5 #[36, 55, 43, 62, 72], 36) := by decide +kernel
theorem dX6_worth_40 : decode cX6_worth 40 = .ok (.aload_n 0, 1) := by decide +kernel
theorem dX6_worth_41 : decode cX6_worth 41 = .ok (.getfield 18, 3) := by decide +kernel
theorem dX6_worth_44 : decode cX6_worth 44 = .ok (.iconst 2, 1) := by decide +kernel
theorem dX6_worth_45 : decode cX6_worth 45 = .ok (.isub, 1) := by decide +kernel
theorem dX6_worth_46 : decode cX6_worth 46 = .ok (.ireturn, 1) := by decide +kernel
theorem dX6_worth_47 : decode cX6_worth 47 = .ok (.aload_n 0, 1) := by decide +kernel
theorem dX6_worth_48 : decode cX6_worth 48 = .ok (.getfield 18, 3) := by decide +kernel
theorem dX6_worth_51 : decode cX6_worth 51 = .ok (.iconst 2, 1) := by decide +kernel
theorem dX6_worth_52 : decode cX6_worth 52 = .ok (.isub, 1) := by decide +kernel
theorem dX6_worth_53 : decode cX6_worth 53 = .ok (.aload_n 0, 1) := by decide +kernel
theorem dX6_worth_54 : decode cX6_worth 54 = .ok (.getfield 21, 3) := by decide +kernel
theorem dX6_worth_57 : decode cX6_worth 57 = .ok (.isub, 1) := by decide +kernel
theorem dX6_worth_58 : decode cX6_worth 58 = .ok (.ireturn, 1) := by decide +kernel
theorem dX6_worth_59 : decode cX6_worth 59 = .ok (.iconst 2, 1) := by decide +kernel
theorem dX6_worth_60 : decode cX6_worth 60 = .ok (.aload_n 0, 1) := by decide +kernel
theorem dX6_worth_61 : decode cX6_worth 61 = .ok (.getfield 18, 3) := by decide +kernel
theorem dX6_worth_64 : decode cX6_worth 64 = .ok (.imul, 1) := by decide +kernel
theorem dX6_worth_65 : decode cX6_worth 65 = .ok (.ireturn, 1) := by decide +kernel
theorem dX6_worth_66 : decode cX6_worth 66 = .ok (.iconst 2, 1) := by decide +kernel
theorem dX6_worth_67 : decode cX6_worth 67 = .ok (.aload_n 0, 1) := by decide +kernel
theorem dX6_worth_68 : decode cX6_worth 68 = .ok (.getfield 18, 3) := by decide +kernel
theorem dX6_worth_71 : decode cX6_worth 71 = .ok (.imul, 1) := by decide +kernel
theorem dX6_worth_72 : decode cX6_worth 72 = .ok (.bipush 100, 2) := by decide +kernel
theorem dX6_worth_74 : decode cX6_worth 74 = .ok (.iadd, 1) := by decide +kernel
theorem dX6_worth_75 : decode cX6_worth 75 = .ok (.ireturn, 1) := by decide +kernel
theorem dX6_worth_76 : decode cX6_worth 76 = .ok (.bipush 7, 2) := by decide +kernel
theorem dX6_worth_78 : decode cX6_worth 78 = .ok (.ireturn, 1) := by decide +kernel
theorem dX6_worth_79 : decode cX6_worth 79 = .ok (.aload_n 0, 1) := by decide +kernel
theorem dX6_worth_80 : decode cX6_worth 80 = .ok (.getfield 18, 3) := by decide +kernel
theorem dX6_worth_83 : decode cX6_worth 83 = .ok (.ireturn, 1) := by decide +kernel
theorem dX7_init_0 : decode cX7_init 0 = .ok (.aload_n 0, 1) := by decide +kernel
theorem dX7_init_1 : decode cX7_init 1 = .ok (.invokespecial 3, 3) := by decide +kernel
theorem dX7_init_4 : decode cX7_init 4 = .ok (.aload_n 0, 1) := by decide +kernel
theorem dX7_init_5 : decode cX7_init 5 = .ok (.bipush 10, 2) := by decide +kernel
theorem dX7_init_7 : decode cX7_init 7 = .ok (.anewarray 9, 3) := by decide +kernel
theorem dX7_init_10 : decode cX7_init 10 = .ok (.putfield 11, 3) := by decide +kernel
theorem dX7_init_13 : decode cX7_init 13 = .ok (.aload_n 0, 1) := by decide +kernel
theorem dX7_init_14 : decode cX7_init 14 = .ok (.bipush 8, 2) := by decide +kernel
theorem dX7_init_16 : decode cX7_init 16 = .ok (.newarray .int, 2) := by decide +kernel
theorem dX7_init_18 : decode cX7_init 18 = .ok (.putfield 17, 3) := by decide +kernel
theorem dX7_init_21 : decode cX7_init 21 = .ok (.aload_n 0, 1) := by decide +kernel
theorem dX7_init_22 : decode cX7_init 22 = .ok (.new 21, 3) := by decide +kernel
theorem dX7_init_25 : decode cX7_init 25 = .ok (.dup, 1) := by decide +kernel
theorem dX7_init_26 : decode cX7_init 26 = .ok (.invokespecial 23, 3) := by decide +kernel
theorem dX7_init_29 : decode cX7_init 29 = .ok (.putfield 24, 3) := by decide +kernel
theorem dX7_init_32 : decode cX7_init 32 = .ok (.aload_n 0, 1) := by decide +kernel
theorem dX7_init_33 : decode cX7_init 33 = .ok (.iconst 1, 1) := by decide +kernel
theorem dX7_init_34 : decode cX7_init 34 = .ok (.putfield 28, 3) := by decide +kernel
theorem dX7_init_37 : decode cX7_init 37 = .ok (.aload_n 0, 1) := by decide +kernel
theorem dX7_init_38 : decode cX7_init 38 = .ok (.bipush 14, 2) := by decide +kernel
theorem dX7_init_40 : decode cX7_init 40 = .ok (.anewarray 32, 3) := by decide +kernel
theorem dX7_init_43 : decode cX7_init 43 = .ok (.putfield 34, 3) := by decide +kernel
theorem dX7_init_46 : decode cX7_init 46 = .ok (.aload_n 0, 1) := by decide +kernel
theorem dX7_init_47 : decode cX7_init 47 = .ok (.iconst 3, 1) := by decide +kernel
theorem dX7_init_48 : decode cX7_init 48 = .ok (.newarray .int, 2) := by decide +kernel
theorem dX7_init_50 : decode cX7_init 50 = .ok (.dup, 1) := by decide +kernel
theorem dX7_init_51 : decode cX7_init 51 = .ok (.iconst 0, 1) := by decide +kernel
theorem dX7_init_52 : decode cX7_init 52 = .ok (.ldc 38, 2) := by decide +kernel
theorem dX7_init_54 : decode cX7_init 54 = .ok (.iastore, 1) := by decide +kernel
theorem dX7_init_55 : decode cX7_init 55 = .ok (.dup, 1) := by decide +kernel
theorem dX7_init_56 : decode cX7_init 56 = .ok (.iconst 1, 1) := by decide +kernel
theorem dX7_init_57 : decode cX7_init 57 = .ok (.ldc 38, 2) := by decide +kernel
theorem dX7_init_59 : decode cX7_init 59 = .ok (.iastore, 1) := by decide +kernel
theorem dX7_init_60 : decode cX7_init 60 = .ok (.dup, 1) := by decide +kernel
theorem dX7_init_61 : decode cX7_init 61 = .ok (.iconst 2, 1) := by decide +kernel
theorem dX7_init_62 : decode cX7_init 62 = .ok (.ldc 38, 2) := by decide +kernel
theorem dX7_init_64 : decode cX7_init 64 = .ok (.iastore, 1) := by decide +kernel
theorem dX7_init_65 : decode cX7_init 65 = .ok (.putfield 39, 3) := by decide +kernel
theorem dX7_init_68 : decode cX7_init 68 = .ok (.aload_n 0, 1) := by decide +kernel
theorem dX7_init_69 : decode cX7_init 69 = .ok (.new 9, 3) := by decide +kernel
theorem dX7_init_72 : decode cX7_init 72 = .ok (.dup, 1) := by decide +kernel
theorem dX7_init_73 : decode cX7_init 73 = .ok (.invokespecial 42, 3) := by decide +kernel
theorem dX7_init_76 : decode cX7_init 76 = .ok (.putfield 43, 3) := by decide +kernel
theorem dX7_init_79 : decode cX7_init 79 = .ok (.aload_n 0, 1) := by decide +kernel
theorem dX7_init_80 : decode cX7_init 80 = .ok (.bipush 10, 2) := by decide +kernel
theorem dX7_init_82 : decode cX7_init 82 = .ok (.newarray .int, 2) := by decide +kernel
theorem dX7_init_84 : decode cX7_init 84 = .ok (.putfield 47, 3) := by decide +kernel
theorem dX7_init_87 : decode cX7_init 87 = .ok (.iconst 0, 1) := by decide +kernel
theorem dX7_init_88 : decode cX7_init 88 = .ok (.istore_n 1, 1) := by decide +kernel
theorem dX7_init_89 : decode cX7_init 89 = .ok (.iload_n 1, 1) := by decide +kernel
theorem dX7_init_90 : decode cX7_init 90 = .ok (.bipush 10, 2) := by decide +kernel
theorem dX7_init_92 : decode cX7_init 92 = .ok (.if_icmp .ge 22, 3) := by decide +kernel
theorem dX7_init_95 : decode cX7_init 95 = .ok (.aload_n 0, 1) := by decide +kernel
theorem dX7_init_96 : decode cX7_init 96 = .ok (.getfield 11, 3) := by decide +kernel
theorem dX7_init_99 : decode cX7_init 99 = .ok (.iload_n 1, 1) := by decide +kernel
theorem dX7_init_100 : decode cX7_init 100 = .ok (.new 9, 3) := by decide +kernel
theorem dX7_init_103 : decode cX7_init 103 = .ok (.dup, 1) := by decide +kernel
theorem dX7_init_104 : decode cX7_init 104 = .ok (.invokespecial 42, 3) := by decide +kernel
theorem dX7_init_107 : decode cX7_init 107 = .ok (.aastore, 1) := by decide +kernel
theorem dX7_init_108 : decode cX7_init 108 = .ok (.iinc 1 1, 3) := by decide +kernel
theorem dX7_init_111 : decode cX7_init 111 = .ok (.goto (-22), 3) := by decide +kernel
theorem dX7_init_114 : decode cX7_init 114 = .ok (.aload_n 0, 1) := by decide +kernel
theorem dX7_init_115 : decode cX7_init 115 = .ok (.getfield 17, 3) := by decide +kernel
theorem dX7_init_118 : decode cX7_init 118 = .ok (.bipush 100, 2) := by decide +kernel
theorem dX7_init_120 : decode cX7_init 120 = .ok (.invokestatic 50, 3) := by decide +kernel
theorem dX7_init_123 : decode cX7_init 123 = .ok (.return_, 1) := by decide +kernel
theorem dX7_becomeAs_0 : decode cX7_becomeAs 0 = .ok (.aload_n 0, 1) := by decide +kernel
theorem dX7_becomeAs_1 : decode cX7_becomeAs 1 = .ok (.aload_n 1, 1) := by decide +kernel
theorem dX7_becomeAs_2 : decode cX7_becomeAs 2 = .ok (.getfield 56, 3) := by decide +kernel
theorem dX7_becomeAs_5 : decode cX7_becomeAs 5 = .ok (.putfield 56, 3) := by decide +kernel
theorem dX7_becomeAs_8 : decode cX7_becomeAs 8 = .ok (.iconst 0, 1) := by decide +kernel
theorem dX7_becomeAs_9 : decode cX7_becomeAs 9 = .ok (.istore_n 2, 1) := by decide +kernel
theorem dX7_becomeAs_10 : decode cX7_becomeAs 10 = .ok (.iload_n 2, 1) := by decide +kernel
theorem dX7_becomeAs_11 : decode cX7_becomeAs 11 = .ok (.bipush 10, 2) := by decide +kernel
theorem dX7_becomeAs_13 : decode cX7_becomeAs 13 = .ok (.if_icmp .ge 24, 3) := by decide +kernel
theorem dX7_becomeAs_16 : decode cX7_becomeAs 16 = .ok (.aload_n 0, 1) := by decide +kernel
theorem dX7_becomeAs_17 : decode cX7_becomeAs 17 = .ok (.getfield 11, 3) := by decide +kernel
theorem dX7_becomeAs_20 : decode cX7_becomeAs 20 = .ok (.iload_n 2, 1) := by decide +kernel
theorem dX7_becomeAs_21 : decode cX7_becomeAs 21 = .ok (.aaload, 1) := by decide +kernel
theorem dX7_becomeAs_22 : decode cX7_becomeAs 22 = .ok (.aload_n 1, 1) := by decide +kernel
theorem dX7_becomeAs_23 : decode cX7_becomeAs 23 = .ok (.getfield 11, 3) := by decide +kernel
theorem dX7_becomeAs_26 : decode cX7_becomeAs 26 = .ok (.iload_n 2, 1) := by decide +kernel
theorem dX7_becomeAs_27 : decode cX7_becomeAs 27 = .ok (.aaload, 1) := by decide +kernel
theorem dX7_becomeAs_28 : decode cX7_becomeAs 28 = .ok (.invokevirtual 59, 3) := by decide +kernel
theorem dX7_becomeAs_31 : decode cX7_becomeAs 31 = .ok (.iinc 2 1, 3) := by decide +kernel
theorem dX7_becomeAs_34 : decode cX7_becomeAs 34 = .ok (.goto (-24), 3) := by decide +kernel
theorem dX7_becomeAs_37 : decode cX7_becomeAs 37 = .ok (.aload_n 1, 1) := by decide +kernel
theorem dX7_becomeAs_38 : decode cX7_becomeAs 38 = .ok (.getfield 17, 3) := by decide +kernel
theorem dX7_becomeAs_41 : decode cX7_becomeAs 41 = .ok (.iconst 0, 1) := by decide +kernel
theorem dX7_becomeAs_42 : decode cX7_becomeAs 42 = .ok (.aload_n 0, 1) := by decide +kernel
theorem dX7_becomeAs_43 : decode cX7_becomeAs 43 = .ok (.getfield 17, 3) := by decide +kernel
theorem dX7_becomeAs_46 : decode cX7_becomeAs 46 = .ok (.iconst 0, 1) := by decide +kernel
theorem dX7_becomeAs_47 : decode cX7_becomeAs 47 = .ok (.aload_n 0, 1) := by decide +kernel
theorem dX7_becomeAs_48 : decode cX7_becomeAs 48 = .ok (.getfield 17, 3) := by decide +kernel
theorem dX7_becomeAs_51 : decode cX7_becomeAs 51 = .ok (.arraylength, 1) := by decide +kernel
theorem dX7_becomeAs_52 : decode cX7_becomeAs 52 = .ok (.invokestatic 63, 3) := by decide +kernel
theorem dX7_becomeAs_55 : decode cX7_becomeAs 55 = .ok (.aload_n 0, 1) := by decide +kernel
theorem dX7_becomeAs_56 : decode cX7_becomeAs 56 = .ok (.getfield 24, 3) := by decide +kernel
theorem dX7_becomeAs_59 : decode cX7_becomeAs 59 = .ok (.aload_n 1, 1) := by decide +kernel
theorem dX7_becomeAs_60 : decode cX7_becomeAs 60 = .ok (.getfield 24, 3) := by decide +kernel
theorem dX7_becomeAs_63 : decode cX7_becomeAs 63 = .ok (.invokevirtual 69, 3) := by decide +kernel
theorem dX7_becomeAs_66 : decode cX7_becomeAs 66 = .ok (.aload_n 0, 1) := by decide +kernel
theorem dX7_becomeAs_67 : decode cX7_becomeAs 67 = .ok (.aload_n 1, 1) := by decide +kernel
theorem dX7_becomeAs_68 : decode cX7_becomeAs 68 = .ok (.getfield 72, 3) := by decide +kernel
theorem dX7_becomeAs_71 : decode cX7_becomeAs 71 = .ok (.putfield 72, 3) := by decide +kernel
theorem dX7_becomeAs_74 : decode cX7_becomeAs 74 = .ok (.aload_n 0, 1) := by decide +kernel
theorem dX7_becomeAs_75 : decode cX7_becomeAs 75 = .ok (.aload_n 1, 1) := by decide +kernel
theorem dX7_becomeAs_76 : decode cX7_becomeAs 76 = .ok (.getfield 75, 3) := by decide +kernel
theorem dX7_becomeAs_79 : decode cX7_becomeAs 79 = .ok (.putfield 75, 3) := by decide +kernel
theorem dX7_becomeAs_82 : decode cX7_becomeAs 82 = .ok (.aload_n 0, 1) := by decide +kernel
theorem dX7_becomeAs_83 : decode cX7_becomeAs 83 = .ok (.aload_n 1, 1) := by decide +kernel
theorem dX7_becomeAs_84 : decode cX7_becomeAs 84 = .ok (.getfield 28, 3) := by decide +kernel
theorem dX7_becomeAs_87 : decode cX7_becomeAs 87 = .ok (.putfield 28, 3) := by decide +kernel
theorem dX7_becomeAs_90 : decode cX7_becomeAs 90 = .ok (.aload_n 0, 1) := by decide +kernel
theorem dX7_becomeAs_91 : decode cX7_becomeAs 91 = .ok (.aload_n 1, 1) := by decide +kernel
theorem dX7_becomeAs_92 : decode cX7_becomeAs 92 = .ok (.getfield 78, 3) := by decide +kernel
theorem dX7_becomeAs_95 : decode cX7_becomeAs 95 = .ok (.putfield 78, 3) := by decide +kernel
theorem dX7_becomeAs_98 : decode cX7_becomeAs 98 = .ok (.iconst 0, 1) := by decide +kernel
theorem dX7_becomeAs_99 : decode cX7_becomeAs 99 = .ok (.istore_n 2, 1) := by decide +kernel
theorem dX7_becomeAs_100 : decode cX7_becomeAs 100 = .ok (.iload_n 2, 1) := by decide +kernel
theorem dX7_becomeAs_101 : decode cX7_becomeAs 101 = .ok (.bipush 14, 2) := by decide +kernel
theorem dX7_becomeAs_103 : decode cX7_becomeAs 103 = .ok (.if_icmp .ge 21, 3) := by decide +kernel
theorem dX7_becomeAs_106 : decode cX7_becomeAs 106 = .ok (.aload_n 0, 1) := by decide +kernel
theorem dX7_becomeAs_107 : decode cX7_becomeAs 107 = .ok (.getfield 34, 3) := by decide +kernel
theorem dX7_becomeAs_110 : decode cX7_becomeAs 110 = .ok (.iload_n 2, 1) := by decide +kernel
theorem dX7_becomeAs_111 : decode cX7_becomeAs 111 = .ok (.aload_n 1, 1) := by decide +kernel
theorem dX7_becomeAs_112 : decode cX7_becomeAs 112 = .ok (.getfield 34, 3) := by decide +kernel
theorem dX7_becomeAs_115 : decode cX7_becomeAs 115 = .ok (.iload_n 2, 1) := by decide +kernel
theorem dX7_becomeAs_116 : decode cX7_becomeAs 116 = .ok (.aaload, 1) := by decide +kernel
theorem dX7_becomeAs_117 : decode cX7_becomeAs 117 = .ok (.aastore, 1) := by decide +kernel
theorem dX7_becomeAs_118 : decode cX7_becomeAs 118 = .ok (.iinc 2 1, 3) := by decide +kernel
theorem dX7_becomeAs_121 : decode cX7_becomeAs 121 = .ok (.goto (-21), 3) := by decide +kernel
theorem dX7_becomeAs_124 : decode cX7_becomeAs 124 = .ok (.aload_n 1, 1) := by decide +kernel
theorem dX7_becomeAs_125 : decode cX7_becomeAs 125 = .ok (.getfield 39, 3) := by decide +kernel
theorem dX7_becomeAs_128 : decode cX7_becomeAs 128 = .ok (.iconst 0, 1) := by decide +kernel
theorem dX7_becomeAs_129 : decode cX7_becomeAs 129 = .ok (.aload_n 0, 1) := by decide +kernel
theorem dX7_becomeAs_130 : decode cX7_becomeAs 130 = .ok (.getfield 39, 3) := by decide +kernel
theorem dX7_becomeAs_133 : decode cX7_becomeAs 133 = .ok (.iconst 0, 1) := by decide +kernel
theorem dX7_becomeAs_134 : decode cX7_becomeAs 134 = .ok (.iconst 3, 1) := by decide +kernel
theorem dX7_becomeAs_135 : decode cX7_becomeAs 135 = .ok (.invokestatic 63, 3) := by decide +kernel
theorem dX7_becomeAs_138 : decode cX7_becomeAs 138 = .ok (.return_, 1) := by decide +kernel
theorem dX7_hasRoom_0 : decode cX7_hasRoom 0 = .ok (.aload_n 0, 1) := by decide +kernel
theorem dX7_hasRoom_1 : decode cX7_hasRoom 1 = .ok (.getfield 56, 3) := by decide +kernel
theorem dX7_hasRoom_4 : decode cX7_hasRoom 4 = .ok (.bipush 10, 2) := by decide +kernel
theorem dX7_hasRoom_6 : decode cX7_hasRoom 6 = .ok (.if_icmp .ge 7, 3) := by decide +kernel
theorem dX7_hasRoom_9 : decode cX7_hasRoom 9 = .ok (.iconst 1, 1) := by decide +kernel
theorem dX7_hasRoom_10 : decode cX7_hasRoom 10 = .ok (.goto 4, 3) := by decide +kernel
theorem dX7_hasRoom_13 : decode cX7_hasRoom 13 = .ok (.iconst 0, 1) := by decide +kernel
theorem dX7_hasRoom_14 : decode cX7_hasRoom 14 = .ok (.ireturn, 1) := by decide +kernel
theorem dX7_weightAt_0 : decode cX7_weightAt 0 = .ok (.iload_n 1, 1) := by decide +kernel
theorem dX7_weightAt_1 : decode cX7_weightAt 1 = .ok (.ifCond .lt 26, 3) := by decide +kernel
theorem dX7_weightAt_4 : decode cX7_weightAt 4 = .ok (.iload_n 1, 1) := by decide +kernel
theorem dX7_weightAt_5 : decode cX7_weightAt 5 = .ok (.aload_n 0, 1) := by decide +kernel
theorem dX7_weightAt_6 : decode cX7_weightAt 6 = .ok (.getfield 56, 3) := by decide +kernel
theorem dX7_weightAt_9 : decode cX7_weightAt 9 = .ok (.if_icmp .ge 18, 3) := by decide +kernel
theorem dX7_weightAt_12 : decode cX7_weightAt 12 = .ok (.iload_n 1, 1) := by decide +kernel
theorem dX7_weightAt_13 : decode cX7_weightAt 13 = .ok (.bipush 10, 2) := by decide +kernel
theorem dX7_weightAt_15 : decode cX7_weightAt 15 = .ok (.if_icmp .ge 12, 3) := by decide +kernel
theorem dX7_weightAt_18 : decode cX7_weightAt 18 = .ok (.aload_n 0, 1) := by decide +kernel
theorem dX7_weightAt_19 : decode cX7_weightAt 19 = .ok (.getfield 11, 3) := by decide +kernel
theorem dX7_weightAt_22 : decode cX7_weightAt 22 = .ok (.iload_n 1, 1) := by decide +kernel
theorem dX7_weightAt_23 : decode cX7_weightAt 23 = .ok (.aaload, 1) := by decide +kernel
theorem dX7_weightAt_24 : decode cX7_weightAt 24 = .ok (.goto 4, 3) := by decide +kernel
theorem dX7_weightAt_27 : decode cX7_weightAt 27 = .ok (.aconst_null, 1) := by decide +kernel
theorem dX7_weightAt_28 : decode cX7_weightAt 28 = .ok (.areturn, 1) := by decide +kernel
theorem dX7_addWeight_0 : decode cX7_addWeight 0 = .ok (.aload_n 0, 1) := by decide +kernel
theorem dX7_addWeight_1 : decode cX7_addWeight 1 = .ok (.invokevirtual 81, 3) := by decide +kernel
theorem dX7_addWeight_4 : decode cX7_addWeight 4 = .ok (.ifCond .ne 6, 3) := by decide +kernel
theorem dX7_addWeight_7 : decode cX7_addWeight 7 = .ok (.ldc 85, 2) := by decide +kernel
theorem dX7_addWeight_9 : decode cX7_addWeight 9 = .ok (.ireturn, 1) := by decide +kernel
theorem dX7_addWeight_10 : decode cX7_addWeight 10 = .ok (.aload_n 0, 1) := by decide +kernel
theorem dX7_addWeight_11 : decode cX7_addWeight 11 = .ok (.getfield 11, 3) := by decide +kernel
theorem dX7_addWeight_14 : decode cX7_addWeight 14 = .ok (.aload_n 0, 1) := by decide +kernel
theorem dX7_addWeight_15 : decode cX7_addWeight 15 = .ok (.getfield 56, 3) := by decide +kernel
theorem dX7_addWeight_18 : decode cX7_addWeight 18 = .ok (.aaload, 1) := by decide +kernel
theorem dX7_addWeight_19 : decode cX7_addWeight 19 = .ok (.iload_n 1, 1) := by decide +kernel
theorem dX7_addWeight_20 : decode cX7_addWeight 20 = .ok (.iload_n 2, 1) := by decide +kernel
theorem dX7_addWeight_21 : decode cX7_addWeight 21 = .ok (.invokevirtual 86, 3) := by decide +kernel
theorem dX7_addWeight_24 : decode cX7_addWeight 24 = .ok (.aload_n 0, 1) := by decide +kernel
theorem dX7_addWeight_25 : decode cX7_addWeight 25 = .ok (.dup, 1) := by decide +kernel
theorem dX7_addWeight_26 : decode cX7_addWeight 26 = .ok (.getfield 56, 3) := by decide +kernel
theorem dX7_addWeight_29 : decode cX7_addWeight 29 = .ok (.iconst 1, 1) := by decide +kernel
theorem dX7_addWeight_30 : decode cX7_addWeight 30 = .ok (.iadd, 1) := by decide +kernel
theorem dX7_addWeight_31 : decode cX7_addWeight 31 = .ok (.putfield 56, 3) := by decide +kernel
theorem dX7_addWeight_34 : decode cX7_addWeight 34 = .ok (.aload_n 0, 1) := by decide +kernel
theorem dX7_addWeight_35 : decode cX7_addWeight 35 = .ok (.getfield 56, 3) := by decide +kernel
theorem dX7_addWeight_38 : decode cX7_addWeight 38 = .ok (.iconst 1, 1) := by decide +kernel
theorem dX7_addWeight_39 : decode cX7_addWeight 39 = .ok (.isub, 1) := by decide +kernel
theorem dX7_addWeight_40 : decode cX7_addWeight 40 = .ok (.ireturn, 1) := by decide +kernel
theorem dX7_draw_0 : decode cX7_draw 0 = .ok (.aload_n 0, 1) := by decide +kernel
theorem dX7_draw_1 : decode cX7_draw 1 = .ok (.aload_n 0, 1) := by decide +kernel
theorem dX7_draw_2 : decode cX7_draw 2 = .ok (.getfield 28, 3) := by decide +kernel
theorem dX7_draw_5 : decode cX7_draw 5 = .ok (.ldc 90, 2) := by decide +kernel
theorem dX7_draw_7 : decode cX7_draw 7 = .ok (.imul, 1) := by decide +kernel
theorem dX7_draw_8 : decode cX7_draw 8 = .ok (.sipush 12345, 3) := by decide +kernel
theorem dX7_draw_11 : decode cX7_draw 11 = .ok (.iadd, 1) := by decide +kernel
theorem dX7_draw_12 : decode cX7_draw 12 = .ok (.putfield 28, 3) := by decide +kernel
theorem dX7_draw_15 : decode cX7_draw 15 = .ok (.aload_n 0, 1) := by decide +kernel
theorem dX7_draw_16 : decode cX7_draw 16 = .ok (.getfield 28, 3) := by decide +kernel
theorem dX7_draw_19 : decode cX7_draw 19 = .ok (.bipush 8, 2) := by decide +kernel
theorem dX7_draw_21 : decode cX7_draw 21 = .ok (.iushr, 1) := by decide +kernel
theorem dX7_draw_22 : decode cX7_draw 22 = .ok (.ireturn, 1) := by decide +kernel
theorem dX7_drawWeight_0 : decode cX7_drawWeight 0 = .ok (.aload_n 0, 1) := by decide +kernel
theorem dX7_drawWeight_1 : decode cX7_drawWeight 1 = .ok (.invokevirtual 91, 3) := by decide +kernel
theorem dX7_drawWeight_4 : decode cX7_drawWeight 4 = .ok (.bipush 6, 2) := by decide +kernel
theorem dX7_drawWeight_6 : decode cX7_drawWeight 6 = .ok (.irem, 1) := by decide +kernel
theorem dX7_drawWeight_7 : decode cX7_drawWeight 7 = .ok (.istore_n 1, 1) := by decide +kernel
theorem dX7_drawWeight_8 : decode cX7_drawWeight 8 = .ok (.iconst 1, 1) := by decide +kernel
theorem dX7_drawWeight_9 : decode cX7_drawWeight 9 = .ok (.aload_n 0, 1) := by decide +kernel
theorem dX7_drawWeight_10 : decode cX7_drawWeight 10 = .ok (.invokevirtual 91, 3) := by decide +kernel
theorem dX7_drawWeight_13 : decode cX7_drawWeight 13 = .ok (.sipush 400, 3) := by decide +kernel
theorem dX7_drawWeight_16 : decode cX7_drawWeight 16 = .ok (.irem, 1) := by decide +kernel
theorem dX7_drawWeight_17 : decode cX7_drawWeight 17 = .ok (.iadd, 1) := by decide +kernel
theorem dX7_drawWeight_18 : decode cX7_drawWeight 18 = .ok (.istore_n 2, 1) := by decide +kernel
theorem dX7_drawWeight_19 : decode cX7_drawWeight 19 = .ok (.aload_n 0, 1) := by decide +kernel
theorem dX7_drawWeight_20 : decode cX7_drawWeight 20 = .ok (.iload_n 1, 1) := by decide +kernel
theorem dX7_drawWeight_21 : decode cX7_drawWeight 21 = .ok (.iload_n 2, 1) := by decide +kernel
theorem dX7_drawWeight_22 : decode cX7_drawWeight 22 = .ok (.invokevirtual 95, 3) := by decide +kernel
theorem dX7_drawWeight_25 : decode cX7_drawWeight 25 = .ok (.pop, 1) := by decide +kernel
theorem dX7_drawWeight_26 : decode cX7_drawWeight 26 = .ok (.return_, 1) := by decide +kernel
theorem dX7_armAt_0 : decode cX7_armAt 0 = .ok (.iconst 2, 1) := by decide +kernel
theorem dX7_armAt_1 : decode cX7_armAt 1 = .ok (.iload_n 1, 1) := by decide +kernel
theorem dX7_armAt_2 : decode cX7_armAt 2 = .ok (.imul, 1) := by decide +kernel
theorem dX7_armAt_3 : decode cX7_armAt 3 = .ok (.iload_n 2, 1) := by decide +kernel
theorem dX7_armAt_4 : decode cX7_armAt 4 = .ok (.iadd, 1) := by decide +kernel
theorem dX7_armAt_5 : decode cX7_armAt 5 = .ok (.istore_n 3, 1) := by decide +kernel
theorem dX7_armAt_6 : decode cX7_armAt 6 = .ok (.iload_n 3, 1) := by decide +kernel
theorem dX7_armAt_7 : decode cX7_armAt 7 = .ok (.ifCond .lt 21, 3) := by decide +kernel
theorem dX7_armAt_10 : decode cX7_armAt 10 = .ok (.iload_n 3, 1) := by decide +kernel
theorem dX7_armAt_11 : decode cX7_armAt 11 = .ok (.aload_n 0, 1) := by decide +kernel
theorem dX7_armAt_12 : decode cX7_armAt 12 = .ok (.getfield 17, 3) := by decide +kernel
theorem dX7_armAt_15 : decode cX7_armAt 15 = .ok (.arraylength, 1) := by decide +kernel
theorem dX7_armAt_16 : decode cX7_armAt 16 = .ok (.if_icmp .ge 12, 3) := by decide +kernel
theorem dX7_armAt_19 : decode cX7_armAt 19 = .ok (.aload_n 0, 1) := by decide +kernel
theorem dX7_armAt_20 : decode cX7_armAt 20 = .ok (.getfield 17, 3) := by decide +kernel
theorem dX7_armAt_23 : decode cX7_armAt 23 = .ok (.iload_n 3, 1) := by decide +kernel
theorem dX7_armAt_24 : decode cX7_armAt 24 = .ok (.iaload, 1) := by decide +kernel
theorem dX7_armAt_25 : decode cX7_armAt 25 = .ok (.goto 5, 3) := by decide +kernel
theorem dX7_armAt_28 : decode cX7_armAt 28 = .ok (.bipush 100, 2) := by decide +kernel
theorem dX7_armAt_30 : decode cX7_armAt 30 = .ok (.ireturn, 1) := by decide +kernel
theorem dX7_bendArm_0 : decode cX7_bendArm 0 = .ok (.iconst 2, 1) := by decide +kernel
theorem dX7_bendArm_1 : decode cX7_bendArm 1 = .ok (.iload_n 1, 1) := by decide +kernel
theorem dX7_bendArm_2 : decode cX7_bendArm 2 = .ok (.imul, 1) := by decide +kernel
theorem dX7_bendArm_3 : decode cX7_bendArm 3 = .ok (.iload_n 2, 1) := by decide +kernel
theorem dX7_bendArm_4 : decode cX7_bendArm 4 = .ok (.iadd, 1) := by decide +kernel
theorem dX7_bendArm_5 : decode cX7_bendArm 5 = .ok (.istore 4, 2) := by decide +kernel
theorem dX7_bendArm_7 : decode cX7_bendArm 7 = .ok (.iload 4, 2) := by decide +kernel
theorem dX7_bendArm_9 : decode cX7_bendArm 9 = .ok (.ifCond .lt 21, 3) := by decide +kernel
theorem dX7_bendArm_12 : decode cX7_bendArm 12 = .ok (.iload 4, 2) := by decide +kernel
theorem dX7_bendArm_14 : decode cX7_bendArm 14 = .ok (.aload_n 0, 1) := by decide +kernel
theorem dX7_bendArm_15 : decode cX7_bendArm 15 = .ok (.getfield 17, 3) := by decide +kernel
theorem dX7_bendArm_18 : decode cX7_bendArm 18 = .ok (.arraylength, 1) := by decide +kernel
theorem dX7_bendArm_19 : decode cX7_bendArm 19 = .ok (.if_icmp .ge 11, 3) := by decide +kernel
theorem dX7_bendArm_22 : decode cX7_bendArm 22 = .ok (.aload_n 0, 1) := by decide +kernel
theorem dX7_bendArm_23 : decode cX7_bendArm 23 = .ok (.getfield 17, 3) := by decide +kernel
theorem dX7_bendArm_26 : decode cX7_bendArm 26 = .ok (.iload 4, 2) := by decide +kernel
theorem dX7_bendArm_28 : decode cX7_bendArm 28 = .ok (.iload_n 3, 1) := by decide +kernel
theorem dX7_bendArm_29 : decode cX7_bendArm 29 = .ok (.iastore, 1) := by decide +kernel
theorem dX7_bendArm_30 : decode cX7_bendArm 30 = .ok (.return_, 1) := by decide +kernel
theorem dX7_setCount_0 : decode cX7_setCount 0 = .ok (.iconst 1, 1) := by decide +kernel
theorem dX7_setCount_1 : decode cX7_setCount 1 = .ok (.aload_n 0, 1) := by decide +kernel
theorem dX7_setCount_2 : decode cX7_setCount 2 = .ok (.getfield 56, 3) := by decide +kernel
theorem dX7_setCount_5 : decode cX7_setCount 5 = .ok (.ishl, 1) := by decide +kernel
theorem dX7_setCount_6 : decode cX7_setCount 6 = .ok (.ireturn, 1) := by decide +kernel
theorem dX7_allSet_0 : decode cX7_allSet 0 = .ok (.aload_n 0, 1) := by decide +kernel
theorem dX7_allSet_1 : decode cX7_allSet 1 = .ok (.invokevirtual 99, 3) := by decide +kernel
theorem dX7_allSet_4 : decode cX7_allSet 4 = .ok (.iconst 1, 1) := by decide +kernel
theorem dX7_allSet_5 : decode cX7_allSet 5 = .ok (.isub, 1) := by decide +kernel
theorem dX7_allSet_6 : decode cX7_allSet 6 = .ok (.ireturn, 1) := by decide +kernel
theorem dX7_isSet_0 : decode cX7_isSet 0 = .ok (.iload_n 1, 1) := by decide +kernel
theorem dX7_isSet_1 : decode cX7_isSet 1 = .ok (.iconst 0, 1) := by decide +kernel
theorem dX7_isSet_2 : decode cX7_isSet 2 = .ok (.aload_n 0, 1) := by decide +kernel
theorem dX7_isSet_3 : decode cX7_isSet 3 = .ok (.invokevirtual 102, 3) := by decide +kernel
theorem dX7_isSet_6 : decode cX7_isSet 6 = .ok (.invokestatic 105, 3) := by decide +kernel
theorem dX7_isSet_9 : decode cX7_isSet 9 = .ok (.ireturn, 1) := by decide +kernel
theorem dX7_grainsOf_0 : decode cX7_grainsOf 0 = .ok (.iconst 0, 1) := by decide +kernel
theorem dX7_grainsOf_1 : decode cX7_grainsOf 1 = .ok (.istore_n 2, 1) := by decide +kernel
theorem dX7_grainsOf_2 : decode cX7_grainsOf 2 = .ok (.iconst 0, 1) := by decide +kernel
theorem dX7_grainsOf_3 : decode cX7_grainsOf 3 = .ok (.istore_n 3, 1) := by decide +kernel
theorem dX7_grainsOf_4 : decode cX7_grainsOf 4 = .ok (.iload_n 3, 1) := by decide +kernel
theorem dX7_grainsOf_5 : decode cX7_grainsOf 5 = .ok (.aload_n 0, 1) := by decide +kernel
theorem dX7_grainsOf_6 : decode cX7_grainsOf 6 = .ok (.getfield 56, 3) := by decide +kernel
theorem dX7_grainsOf_9 : decode cX7_grainsOf 9 = .ok (.if_icmp .ge 27, 3) := by decide +kernel
theorem dX7_grainsOf_12 : decode cX7_grainsOf 12 = .ok (.iload_n 2, 1) := by decide +kernel
theorem dX7_grainsOf_13 : decode cX7_grainsOf 13 = .ok (.iload_n 1, 1) := by decide +kernel
theorem dX7_grainsOf_14 : decode cX7_grainsOf 14 = .ok (.iload_n 3, 1) := by decide +kernel
theorem dX7_grainsOf_15 : decode cX7_grainsOf 15 = .ok (.ishr, 1) := by decide +kernel
theorem dX7_grainsOf_16 : decode cX7_grainsOf 16 = .ok (.iconst 1, 1) := by decide +kernel
theorem dX7_grainsOf_17 : decode cX7_grainsOf 17 = .ok (.iand, 1) := by decide +kernel
theorem dX7_grainsOf_18 : decode cX7_grainsOf 18 = .ok (.aload_n 0, 1) := by decide +kernel
theorem dX7_grainsOf_19 : decode cX7_grainsOf 19 = .ok (.getfield 11, 3) := by decide +kernel
theorem dX7_grainsOf_22 : decode cX7_grainsOf 22 = .ok (.iload_n 3, 1) := by decide +kernel
theorem dX7_grainsOf_23 : decode cX7_grainsOf 23 = .ok (.aaload, 1) := by decide +kernel
theorem dX7_grainsOf_24 : decode cX7_grainsOf 24 = .ok (.getfield 109, 3) := by decide +kernel
theorem dX7_grainsOf_27 : decode cX7_grainsOf 27 = .ok (.imul, 1) := by decide +kernel
theorem dX7_grainsOf_28 : decode cX7_grainsOf 28 = .ok (.iadd, 1) := by decide +kernel
theorem dX7_grainsOf_29 : decode cX7_grainsOf 29 = .ok (.istore_n 2, 1) := by decide +kernel
theorem dX7_grainsOf_30 : decode cX7_grainsOf 30 = .ok (.iinc 3 1, 3) := by decide +kernel
theorem dX7_grainsOf_33 : decode cX7_grainsOf 33 = .ok (.goto (-29), 3) := by decide +kernel
theorem dX7_grainsOf_36 : decode cX7_grainsOf 36 = .ok (.iload_n 2, 1) := by decide +kernel
theorem dX7_grainsOf_37 : decode cX7_grainsOf 37 = .ok (.ireturn, 1) := by decide +kernel
theorem dX7_stampsOf_0 : decode cX7_stampsOf 0 = .ok (.iconst 0, 1) := by decide +kernel
theorem dX7_stampsOf_1 : decode cX7_stampsOf 1 = .ok (.istore_n 2, 1) := by decide +kernel
theorem dX7_stampsOf_2 : decode cX7_stampsOf 2 = .ok (.iconst 0, 1) := by decide +kernel
theorem dX7_stampsOf_3 : decode cX7_stampsOf 3 = .ok (.istore_n 3, 1) := by decide +kernel
theorem dX7_stampsOf_4 : decode cX7_stampsOf 4 = .ok (.iload_n 3, 1) := by decide +kernel
theorem dX7_stampsOf_5 : decode cX7_stampsOf 5 = .ok (.aload_n 0, 1) := by decide +kernel
theorem dX7_stampsOf_6 : decode cX7_stampsOf 6 = .ok (.getfield 56, 3) := by decide +kernel
theorem dX7_stampsOf_9 : decode cX7_stampsOf 9 = .ok (.if_icmp .ge 27, 3) := by decide +kernel
theorem dX7_stampsOf_12 : decode cX7_stampsOf 12 = .ok (.iload_n 2, 1) := by decide +kernel
theorem dX7_stampsOf_13 : decode cX7_stampsOf 13 = .ok (.iload_n 1, 1) := by decide +kernel
theorem dX7_stampsOf_14 : decode cX7_stampsOf 14 = .ok (.iload_n 3, 1) := by decide +kernel
theorem dX7_stampsOf_15 : decode cX7_stampsOf 15 = .ok (.ishr, 1) := by decide +kernel
theorem dX7_stampsOf_16 : decode cX7_stampsOf 16 = .ok (.iconst 1, 1) := by decide +kernel
theorem dX7_stampsOf_17 : decode cX7_stampsOf 17 = .ok (.iand, 1) := by decide +kernel
theorem dX7_stampsOf_18 : decode cX7_stampsOf 18 = .ok (.aload_n 0, 1) := by decide +kernel
theorem dX7_stampsOf_19 : decode cX7_stampsOf 19 = .ok (.getfield 11, 3) := by decide +kernel
theorem dX7_stampsOf_22 : decode cX7_stampsOf 22 = .ok (.iload_n 3, 1) := by decide +kernel
theorem dX7_stampsOf_23 : decode cX7_stampsOf 23 = .ok (.aaload, 1) := by decide +kernel
theorem dX7_stampsOf_24 : decode cX7_stampsOf 24 = .ok (.getfield 112, 3) := by decide +kernel
theorem dX7_stampsOf_27 : decode cX7_stampsOf 27 = .ok (.imul, 1) := by decide +kernel
theorem dX7_stampsOf_28 : decode cX7_stampsOf 28 = .ok (.iadd, 1) := by decide +kernel
theorem dX7_stampsOf_29 : decode cX7_stampsOf 29 = .ok (.istore_n 2, 1) := by decide +kernel
theorem dX7_stampsOf_30 : decode cX7_stampsOf 30 = .ok (.iinc 3 1, 3) := by decide +kernel
theorem dX7_stampsOf_33 : decode cX7_stampsOf 33 = .ok (.goto (-29), 3) := by decide +kernel
theorem dX7_stampsOf_36 : decode cX7_stampsOf 36 = .ok (.iload_n 2, 1) := by decide +kernel
theorem dX7_stampsOf_37 : decode cX7_stampsOf 37 = .ok (.ireturn, 1) := by decide +kernel
theorem dX7_sayOf_0 : decode cX7_sayOf 0 = .ok (.aload_n 0, 1) := by decide +kernel
theorem dX7_sayOf_1 : decode cX7_sayOf 1 = .ok (.iload_n 1, 1) := by decide +kernel
theorem dX7_sayOf_2 : decode cX7_sayOf 2 = .ok (.invokevirtual 115, 3) := by decide +kernel
theorem dX7_sayOf_5 : decode cX7_sayOf 5 = .ok (.iload_n 3, 1) := by decide +kernel
theorem dX7_sayOf_6 : decode cX7_sayOf 6 = .ok (.imul, 1) := by decide +kernel
theorem dX7_sayOf_7 : decode cX7_sayOf 7 = .ok (.istore 5, 2) := by decide +kernel
theorem dX7_sayOf_9 : decode cX7_sayOf 9 = .ok (.aload_n 0, 1) := by decide +kernel
theorem dX7_sayOf_10 : decode cX7_sayOf 10 = .ok (.iload_n 2, 1) := by decide +kernel
theorem dX7_sayOf_11 : decode cX7_sayOf 11 = .ok (.invokevirtual 115, 3) := by decide +kernel
theorem dX7_sayOf_14 : decode cX7_sayOf 14 = .ok (.iload 4, 2) := by decide +kernel
theorem dX7_sayOf_16 : decode cX7_sayOf 16 = .ok (.imul, 1) := by decide +kernel
theorem dX7_sayOf_17 : decode cX7_sayOf 17 = .ok (.istore 6, 2) := by decide +kernel
theorem dX7_sayOf_19 : decode cX7_sayOf 19 = .ok (.iload 5, 2) := by decide +kernel
theorem dX7_sayOf_21 : decode cX7_sayOf 21 = .ok (.iload 6, 2) := by decide +kernel
theorem dX7_sayOf_23 : decode cX7_sayOf 23 = .ok (.if_icmp .ne 5, 3) := by decide +kernel
theorem dX7_sayOf_26 : decode cX7_sayOf 26 = .ok (.iconst 0, 1) := by decide +kernel
theorem dX7_sayOf_27 : decode cX7_sayOf 27 = .ok (.ireturn, 1) := by decide +kernel
theorem dX7_sayOf_28 : decode cX7_sayOf 28 = .ok (.iload 5, 2) := by decide +kernel
theorem dX7_sayOf_30 : decode cX7_sayOf 30 = .ok (.iload 6, 2) := by decide +kernel
theorem dX7_sayOf_32 : decode cX7_sayOf 32 = .ok (.if_icmp .le 7, 3) := by decide +kernel
theorem dX7_sayOf_35 : decode cX7_sayOf 35 = .ok (.iconst 1, 1) := by decide +kernel
theorem dX7_sayOf_36 : decode cX7_sayOf 36 = .ok (.goto 4, 3) := by decide +kernel
theorem dX7_sayOf_39 : decode cX7_sayOf 39 = .ok (.iconst 2, 1) := by decide +kernel
theorem dX7_sayOf_40 : decode cX7_sayOf 40 = .ok (.ireturn, 1) := by decide +kernel
theorem dX7_fits_0 : decode cX7_fits 0 = .ok (.aload_n 0, 1) := by decide +kernel
theorem dX7_fits_1 : decode cX7_fits 1 = .ok (.getfield 24, 3) := by decide +kernel
theorem dX7_fits_4 : decode cX7_fits 4 = .ok (.iload_n 1, 1) := by decide +kernel
theorem dX7_fits_5 : decode cX7_fits 5 = .ok (.iconst 0, 1) := by decide +kernel
theorem dX7_fits_6 : decode cX7_fits 6 = .ok (.invokevirtual 119, 3) := by decide +kernel
theorem dX7_fits_9 : decode cX7_fits 9 = .ok (.iload_n 2, 1) := by decide +kernel
theorem dX7_fits_10 : decode cX7_fits 10 = .ok (.iconst (-1), 1) := by decide +kernel
theorem dX7_fits_11 : decode cX7_fits 11 = .ok (.ixor, 1) := by decide +kernel
theorem dX7_fits_12 : decode cX7_fits 12 = .ok (.iand, 1) := by decide +kernel
theorem dX7_fits_13 : decode cX7_fits 13 = .ok (.istore_n 3, 1) := by decide +kernel
theorem dX7_fits_14 : decode cX7_fits 14 = .ok (.aload_n 0, 1) := by decide +kernel
theorem dX7_fits_15 : decode cX7_fits 15 = .ok (.getfield 24, 3) := by decide +kernel
theorem dX7_fits_18 : decode cX7_fits 18 = .ok (.iload_n 1, 1) := by decide +kernel
theorem dX7_fits_19 : decode cX7_fits 19 = .ok (.iconst 1, 1) := by decide +kernel
theorem dX7_fits_20 : decode cX7_fits 20 = .ok (.invokevirtual 119, 3) := by decide +kernel
theorem dX7_fits_23 : decode cX7_fits 23 = .ok (.iload_n 2, 1) := by decide +kernel
theorem dX7_fits_24 : decode cX7_fits 24 = .ok (.iconst (-1), 1) := by decide +kernel
theorem dX7_fits_25 : decode cX7_fits 25 = .ok (.ixor, 1) := by decide +kernel
theorem dX7_fits_26 : decode cX7_fits 26 = .ok (.iand, 1) := by decide +kernel
theorem dX7_fits_27 : decode cX7_fits 27 = .ok (.istore 4, 2) := by decide +kernel
theorem dX7_fits_29 : decode cX7_fits 29 = .ok (.aload_n 0, 1) := by decide +kernel
theorem dX7_fits_30 : decode cX7_fits 30 = .ok (.iload_n 3, 1) := by decide +kernel
theorem dX7_fits_31 : decode cX7_fits 31 = .ok (.iload 4, 2) := by decide +kernel
theorem dX7_fits_33 : decode cX7_fits 33 = .ok (.aload_n 0, 1) := by decide +kernel
theorem dX7_fits_34 : decode cX7_fits 34 = .ok (.getfield 24, 3) := by decide +kernel
theorem dX7_fits_37 : decode cX7_fits 37 = .ok (.iload_n 1, 1) := by decide +kernel
theorem dX7_fits_38 : decode cX7_fits 38 = .ok (.iconst 3, 1) := by decide +kernel
theorem dX7_fits_39 : decode cX7_fits 39 = .ok (.invokevirtual 119, 3) := by decide +kernel
theorem dX7_fits_42 : decode cX7_fits 42 = .ok (.aload_n 0, 1) := by decide +kernel
theorem dX7_fits_43 : decode cX7_fits 43 = .ok (.getfield 24, 3) := by decide +kernel
theorem dX7_fits_46 : decode cX7_fits 46 = .ok (.iload_n 1, 1) := by decide +kernel
theorem dX7_fits_47 : decode cX7_fits 47 = .ok (.iconst 4, 1) := by decide +kernel
theorem dX7_fits_48 : decode cX7_fits 48 = .ok (.invokevirtual 119, 3) := by decide +kernel
theorem dX7_fits_51 : decode cX7_fits 51 = .ok (.invokevirtual 122, 3) := by decide +kernel
theorem dX7_fits_54 : decode cX7_fits 54 = .ok (.istore 5, 2) := by decide +kernel
theorem dX7_fits_56 : decode cX7_fits 56 = .ok (.iload 5, 2) := by decide +kernel
theorem dX7_fits_58 : decode cX7_fits 58 = .ok (.aload_n 0, 1) := by decide +kernel
theorem dX7_fits_59 : decode cX7_fits 59 = .ok (.getfield 24, 3) := by decide +kernel
theorem dX7_fits_62 : decode cX7_fits 62 = .ok (.iload_n 1, 1) := by decide +kernel
theorem dX7_fits_63 : decode cX7_fits 63 = .ok (.iconst 2, 1) := by decide +kernel
theorem dX7_fits_64 : decode cX7_fits 64 = .ok (.invokevirtual 119, 3) := by decide +kernel
theorem dX7_fits_67 : decode cX7_fits 67 = .ok (.if_icmp .ne 7, 3) := by decide +kernel
theorem dX7_fits_70 : decode cX7_fits 70 = .ok (.iconst 1, 1) := by decide +kernel
theorem dX7_fits_71 : decode cX7_fits 71 = .ok (.goto 4, 3) := by decide +kernel
theorem dX7_fits_74 : decode cX7_fits 74 = .ok (.iconst 0, 1) := by decide +kernel
theorem dX7_fits_75 : decode cX7_fits 75 = .ok (.ireturn, 1) := by decide +kernel
theorem dX7_fitCount_0 : decode cX7_fitCount 0 = .ok (.iconst 0, 1) := by decide +kernel
theorem dX7_fitCount_1 : decode cX7_fitCount 1 = .ok (.istore_n 2, 1) := by decide +kernel
theorem dX7_fitCount_2 : decode cX7_fitCount 2 = .ok (.iconst 0, 1) := by decide +kernel
theorem dX7_fitCount_3 : decode cX7_fitCount 3 = .ok (.istore_n 3, 1) := by decide +kernel
theorem dX7_fitCount_4 : decode cX7_fitCount 4 = .ok (.iload_n 3, 1) := by decide +kernel
theorem dX7_fitCount_5 : decode cX7_fitCount 5 = .ok (.aload_n 0, 1) := by decide +kernel
theorem dX7_fitCount_6 : decode cX7_fitCount 6 = .ok (.getfield 24, 3) := by decide +kernel
theorem dX7_fitCount_9 : decode cX7_fitCount 9 = .ok (.getfield 126, 3) := by decide +kernel
theorem dX7_fitCount_12 : decode cX7_fitCount 12 = .ok (.if_icmp .ge 26, 3) := by decide +kernel
theorem dX7_fitCount_15 : decode cX7_fitCount 15 = .ok (.iload_n 2, 1) := by decide +kernel
theorem dX7_fitCount_16 : decode cX7_fitCount 16 = .ok (.aload_n 0, 1) := by decide +kernel
theorem dX7_fitCount_17 : decode cX7_fitCount 17 = .ok (.iload_n 3, 1) := by decide +kernel
theorem dX7_fitCount_18 : decode cX7_fitCount 18 = .ok (.iload_n 1, 1) := by decide +kernel
theorem dX7_fitCount_19 : decode cX7_fitCount 19 = .ok (.invokevirtual 129, 3) := by decide +kernel
theorem dX7_fitCount_22 : decode cX7_fitCount 22 = .ok (.ifCond .eq 7, 3) := by decide +kernel
theorem dX7_fitCount_25 : decode cX7_fitCount 25 = .ok (.iconst 1, 1) := by decide +kernel
theorem dX7_fitCount_26 : decode cX7_fitCount 26 = .ok (.goto 4, 3) := by decide +kernel
theorem dX7_fitCount_29 : decode cX7_fitCount 29 = .ok (.iconst 0, 1) := by decide +kernel
theorem dX7_fitCount_30 : decode cX7_fitCount 30 = .ok (.iadd, 1) := by decide +kernel
theorem dX7_fitCount_31 : decode cX7_fitCount 31 = .ok (.istore_n 2, 1) := by decide +kernel
theorem dX7_fitCount_32 : decode cX7_fitCount 32 = .ok (.iinc 3 1, 3) := by decide +kernel
theorem dX7_fitCount_35 : decode cX7_fitCount 35 = .ok (.goto (-31), 3) := by decide +kernel
theorem dX7_fitCount_38 : decode cX7_fitCount 38 = .ok (.iload_n 2, 1) := by decide +kernel
theorem dX7_fitCount_39 : decode cX7_fitCount 39 = .ok (.ireturn, 1) := by decide +kernel
theorem dX7_weighingLoss_0 : decode cX7_weighingLoss 0 = .ok (.iconst 1, 1) := by decide +kernel
theorem dX7_weighingLoss_1 : decode cX7_weighingLoss 1 = .ok (.istore_n 2, 1) := by decide +kernel
theorem dX7_weighingLoss_2 : decode cX7_weighingLoss 2 = .ok (.aload_n 0, 1) := by decide +kernel
theorem dX7_weighingLoss_3 : decode cX7_weighingLoss 3 = .ok (.aload_n 0, 1) := by decide +kernel
theorem dX7_weighingLoss_4 : decode cX7_weighingLoss 4 = .ok (.getfield 39, 3) := by decide +kernel
theorem dX7_weighingLoss_7 : decode cX7_weighingLoss 7 = .ok (.iconst 0, 1) := by decide +kernel
theorem dX7_weighingLoss_8 : decode cX7_weighingLoss 8 = .ok (.iaload, 1) := by decide +kernel
theorem dX7_weighingLoss_9 : decode cX7_weighingLoss 9 = .ok (.invokevirtual 133, 3) := by decide +kernel
theorem dX7_weighingLoss_12 : decode cX7_weighingLoss 12 = .ok (.astore_n 3, 1) := by decide +kernel
theorem dX7_weighingLoss_13 : decode cX7_weighingLoss 13 = .ok (.aload_n 3, 1) := by decide +kernel
theorem dX7_weighingLoss_14 : decode cX7_weighingLoss 14 = .ok (.ifnull 26, 3) := by decide +kernel
theorem dX7_weighingLoss_17 : decode cX7_weighingLoss 17 = .ok (.aload_n 3, 1) := by decide +kernel
theorem dX7_weighingLoss_18 : decode cX7_weighingLoss 18 = .ok (.aload_n 1, 1) := by decide +kernel
theorem dX7_weighingLoss_19 : decode cX7_weighingLoss 19 = .ok (.getfield 109, 3) := by decide +kernel
theorem dX7_weighingLoss_22 : decode cX7_weighingLoss 22 = .ok (.aload_n 1, 1) := by decide +kernel
theorem dX7_weighingLoss_23 : decode cX7_weighingLoss 23 = .ok (.getfield 137, 3) := by decide +kernel
theorem dX7_weighingLoss_26 : decode cX7_weighingLoss 26 = .ok (.aload_n 1, 1) := by decide +kernel
theorem dX7_weighingLoss_27 : decode cX7_weighingLoss 27 = .ok (.getfield 112, 3) := by decide +kernel
theorem dX7_weighingLoss_30 : decode cX7_weighingLoss 30 = .ok (.invokevirtual 140, 3) := by decide +kernel
theorem dX7_weighingLoss_33 : decode cX7_weighingLoss 33 = .ok (.iconst 0, 1) := by decide +kernel
theorem dX7_weighingLoss_34 : decode cX7_weighingLoss 34 = .ok (.bipush 99, 2) := by decide +kernel
theorem dX7_weighingLoss_36 : decode cX7_weighingLoss 36 = .ok (.invokestatic 144, 3) := by decide +kernel
theorem dX7_weighingLoss_39 : decode cX7_weighingLoss 39 = .ok (.istore_n 2, 1) := by decide +kernel
theorem dX7_weighingLoss_40 : decode cX7_weighingLoss 40 = .ok (.aload_n 1, 1) := by decide +kernel
theorem dX7_weighingLoss_41 : decode cX7_weighingLoss 41 = .ok (.iload_n 2, 1) := by decide +kernel
theorem dX7_weighingLoss_42 : decode cX7_weighingLoss 42 = .ok (.invokevirtual 147, 3) := by decide +kernel
theorem dX7_weighingLoss_45 : decode cX7_weighingLoss 45 = .ok (.aload_n 1, 1) := by decide +kernel
theorem dX7_weighingLoss_46 : decode cX7_weighingLoss 46 = .ok (.getfield 109, 3) := by decide +kernel
theorem dX7_weighingLoss_49 : decode cX7_weighingLoss 49 = .ok (.invokestatic 150, 3) := by decide +kernel
theorem dX7_weighingLoss_52 : decode cX7_weighingLoss 52 = .ok (.ireturn, 1) := by decide +kernel
theorem dX7_fallLoss_0 : decode cX7_fallLoss 0 = .ok (.bipush 10, 2) := by decide +kernel
theorem dX7_fallLoss_2 : decode cX7_fallLoss 2 = .ok (.aload_n 0, 1) := by decide +kernel
theorem dX7_fallLoss_3 : decode cX7_fallLoss 3 = .ok (.aload_n 1, 1) := by decide +kernel
theorem dX7_fallLoss_4 : decode cX7_fallLoss 4 = .ok (.invokevirtual 155, 3) := by decide +kernel
theorem dX7_fallLoss_7 : decode cX7_fallLoss 7 = .ok (.imul, 1) := by decide +kernel
theorem dX7_fallLoss_8 : decode cX7_fallLoss 8 = .ok (.aload_n 1, 1) := by decide +kernel
theorem dX7_fallLoss_9 : decode cX7_fallLoss 9 = .ok (.getfield 109, 3) := by decide +kernel
theorem dX7_fallLoss_12 : decode cX7_fallLoss 12 = .ok (.invokestatic 150, 3) := by decide +kernel
theorem dX7_fallLoss_15 : decode cX7_fallLoss 15 = .ok (.ireturn, 1) := by decide +kernel
theorem dX7_lawFor_0 : decode cX7_lawFor 0 = .ok (.aload_n 0, 1) := by decide +kernel
theorem dX7_lawFor_1 : decode cX7_lawFor 1 = .ok (.aload_n 0, 1) := by decide +kernel
theorem dX7_lawFor_2 : decode cX7_lawFor 2 = .ok (.getfield 39, 3) := by decide +kernel
theorem dX7_lawFor_5 : decode cX7_lawFor 5 = .ok (.iconst 1, 1) := by decide +kernel
theorem dX7_lawFor_6 : decode cX7_lawFor 6 = .ok (.iaload, 1) := by decide +kernel
theorem dX7_lawFor_7 : decode cX7_lawFor 7 = .ok (.invokevirtual 133, 3) := by decide +kernel
theorem dX7_lawFor_10 : decode cX7_lawFor 10 = .ok (.astore_n 2, 1) := by decide +kernel
theorem dX7_lawFor_11 : decode cX7_lawFor 11 = .ok (.aload_n 2, 1) := by decide +kernel
theorem dX7_lawFor_12 : decode cX7_lawFor 12 = .ok (.ifnonnull 16, 3) := by decide +kernel
theorem dX7_lawFor_15 : decode cX7_lawFor 15 = .ok (.aload_n 1, 1) := by decide +kernel
theorem dX7_lawFor_16 : decode cX7_lawFor 16 = .ok (.getfield 112, 3) := by decide +kernel
theorem dX7_lawFor_19 : decode cX7_lawFor 19 = .ok (.aload_n 1, 1) := by decide +kernel
theorem dX7_lawFor_20 : decode cX7_lawFor 20 = .ok (.getfield 112, 3) := by decide +kernel
theorem dX7_lawFor_23 : decode cX7_lawFor 23 = .ok (.bipush 10, 2) := by decide +kernel
theorem dX7_lawFor_25 : decode cX7_lawFor 25 = .ok (.idiv, 1) := by decide +kernel
theorem dX7_lawFor_26 : decode cX7_lawFor 26 = .ok (.isub, 1) := by decide +kernel
theorem dX7_lawFor_27 : decode cX7_lawFor 27 = .ok (.ireturn, 1) := by decide +kernel
theorem dX7_lawFor_28 : decode cX7_lawFor 28 = .ok (.aload_n 2, 1) := by decide +kernel
theorem dX7_lawFor_29 : decode cX7_lawFor 29 = .ok (.aload_n 1, 1) := by decide +kernel
theorem dX7_lawFor_30 : decode cX7_lawFor 30 = .ok (.getfield 112, 3) := by decide +kernel
theorem dX7_lawFor_33 : decode cX7_lawFor 33 = .ok (.aload_n 0, 1) := by decide +kernel
theorem dX7_lawFor_34 : decode cX7_lawFor 34 = .ok (.getfield 75, 3) := by decide +kernel
theorem dX7_lawFor_37 : decode cX7_lawFor 37 = .ok (.iconst 0, 1) := by decide +kernel
theorem dX7_lawFor_38 : decode cX7_lawFor 38 = .ok (.invokevirtual 140, 3) := by decide +kernel
theorem dX7_lawFor_41 : decode cX7_lawFor 41 = .ok (.iconst 0, 1) := by decide +kernel
theorem dX7_lawFor_42 : decode cX7_lawFor 42 = .ok (.sipush 999, 3) := by decide +kernel
theorem dX7_lawFor_45 : decode cX7_lawFor 45 = .ok (.invokestatic 144, 3) := by decide +kernel
theorem dX7_lawFor_48 : decode cX7_lawFor 48 = .ok (.ireturn, 1) := by decide +kernel
theorem dX7_fineOf_0 : decode cX7_fineOf 0 = .ok (.aload_n 1, 1) := by decide +kernel
theorem dX7_fineOf_1 : decode cX7_fineOf 1 = .ok (.getfield 112, 3) := by decide +kernel
theorem dX7_fineOf_4 : decode cX7_fineOf 4 = .ok (.aload_n 1, 1) := by decide +kernel
theorem dX7_fineOf_5 : decode cX7_fineOf 5 = .ok (.getfield 109, 3) := by decide +kernel
theorem dX7_fineOf_8 : decode cX7_fineOf 8 = .ok (.isub, 1) := by decide +kernel
theorem dX7_fineOf_9 : decode cX7_fineOf 9 = .ok (.istore_n 2, 1) := by decide +kernel
theorem dX7_fineOf_10 : decode cX7_fineOf 10 = .ok (.aload_n 0, 1) := by decide +kernel
theorem dX7_fineOf_11 : decode cX7_fineOf 11 = .ok (.aload_n 0, 1) := by decide +kernel
theorem dX7_fineOf_12 : decode cX7_fineOf 12 = .ok (.getfield 39, 3) := by decide +kernel
theorem dX7_fineOf_15 : decode cX7_fineOf 15 = .ok (.iconst 2, 1) := by decide +kernel
theorem dX7_fineOf_16 : decode cX7_fineOf 16 = .ok (.iaload, 1) := by decide +kernel
theorem dX7_fineOf_17 : decode cX7_fineOf 17 = .ok (.invokevirtual 133, 3) := by decide +kernel
theorem dX7_fineOf_20 : decode cX7_fineOf 20 = .ok (.astore_n 3, 1) := by decide +kernel
theorem dX7_fineOf_21 : decode cX7_fineOf 21 = .ok (.aload_n 3, 1) := by decide +kernel
theorem dX7_fineOf_22 : decode cX7_fineOf 22 = .ok (.ifnonnull 11, 3) := by decide +kernel
theorem dX7_fineOf_25 : decode cX7_fineOf 25 = .ok (.iconst 0, 1) := by decide +kernel
theorem dX7_fineOf_26 : decode cX7_fineOf 26 = .ok (.iload_n 2, 1) := by decide +kernel
theorem dX7_fineOf_27 : decode cX7_fineOf 27 = .ok (.invokestatic 159, 3) := by decide +kernel
theorem dX7_fineOf_30 : decode cX7_fineOf 30 = .ok (.goto 13, 3) := by decide +kernel
theorem dX7_fineOf_33 : decode cX7_fineOf 33 = .ok (.aload_n 3, 1) := by decide +kernel
theorem dX7_fineOf_34 : decode cX7_fineOf 34 = .ok (.iload_n 2, 1) := by decide +kernel
theorem dX7_fineOf_35 : decode cX7_fineOf 35 = .ok (.aload_n 1, 1) := by decide +kernel
theorem dX7_fineOf_36 : decode cX7_fineOf 36 = .ok (.getfield 137, 3) := by decide +kernel
theorem dX7_fineOf_39 : decode cX7_fineOf 39 = .ok (.iconst 0, 1) := by decide +kernel
theorem dX7_fineOf_40 : decode cX7_fineOf 40 = .ok (.invokevirtual 140, 3) := by decide +kernel
theorem dX7_fineOf_43 : decode cX7_fineOf 43 = .ok (.ireturn, 1) := by decide +kernel
theorem dX7_wearOnce_0 : decode cX7_wearOnce 0 = .ok (.aload_n 1, 1) := by decide +kernel
theorem dX7_wearOnce_1 : decode cX7_wearOnce 1 = .ok (.dup, 1) := by decide +kernel
theorem dX7_wearOnce_2 : decode cX7_wearOnce 2 = .ok (.getfield 109, 3) := by decide +kernel
theorem dX7_wearOnce_5 : decode cX7_wearOnce 5 = .ok (.aload_n 0, 1) := by decide +kernel
theorem dX7_wearOnce_6 : decode cX7_wearOnce 6 = .ok (.aload_n 1, 1) := by decide +kernel
theorem dX7_wearOnce_7 : decode cX7_wearOnce 7 = .ok (.invokevirtual 155, 3) := by decide +kernel
theorem dX7_wearOnce_10 : decode cX7_wearOnce 10 = .ok (.isub, 1) := by decide +kernel
theorem dX7_wearOnce_11 : decode cX7_wearOnce 11 = .ok (.putfield 109, 3) := by decide +kernel
theorem dX7_wearOnce_14 : decode cX7_wearOnce 14 = .ok (.aload_n 1, 1) := by decide +kernel
theorem dX7_wearOnce_15 : decode cX7_wearOnce 15 = .ok (.dup, 1) := by decide +kernel
theorem dX7_wearOnce_16 : decode cX7_wearOnce 16 = .ok (.getfield 137, 3) := by decide +kernel
theorem dX7_wearOnce_19 : decode cX7_wearOnce 19 = .ok (.iconst 1, 1) := by decide +kernel
theorem dX7_wearOnce_20 : decode cX7_wearOnce 20 = .ok (.iadd, 1) := by decide +kernel
theorem dX7_wearOnce_21 : decode cX7_wearOnce 21 = .ok (.putfield 137, 3) := by decide +kernel
theorem dX7_wearOnce_24 : decode cX7_wearOnce 24 = .ok (.return_, 1) := by decide +kernel
theorem dX7_wearAll_0 : decode cX7_wearAll 0 = .ok (.iconst 0, 1) := by decide +kernel
theorem dX7_wearAll_1 : decode cX7_wearAll 1 = .ok (.istore_n 2, 1) := by decide +kernel
theorem dX7_wearAll_2 : decode cX7_wearAll 2 = .ok (.iload_n 2, 1) := by decide +kernel
theorem dX7_wearAll_3 : decode cX7_wearAll 3 = .ok (.aload_n 0, 1) := by decide +kernel
theorem dX7_wearAll_4 : decode cX7_wearAll 4 = .ok (.getfield 56, 3) := by decide +kernel
theorem dX7_wearAll_7 : decode cX7_wearAll 7 = .ok (.if_icmp .ge 27, 3) := by decide +kernel
theorem dX7_wearAll_10 : decode cX7_wearAll 10 = .ok (.iload_n 1, 1) := by decide +kernel
theorem dX7_wearAll_11 : decode cX7_wearAll 11 = .ok (.iload_n 2, 1) := by decide +kernel
theorem dX7_wearAll_12 : decode cX7_wearAll 12 = .ok (.ishr, 1) := by decide +kernel
theorem dX7_wearAll_13 : decode cX7_wearAll 13 = .ok (.iconst 1, 1) := by decide +kernel
theorem dX7_wearAll_14 : decode cX7_wearAll 14 = .ok (.iand, 1) := by decide +kernel
theorem dX7_wearAll_15 : decode cX7_wearAll 15 = .ok (.ifCond .eq 13, 3) := by decide +kernel
theorem dX7_wearAll_18 : decode cX7_wearAll 18 = .ok (.aload_n 0, 1) := by decide +kernel
theorem dX7_wearAll_19 : decode cX7_wearAll 19 = .ok (.aload_n 0, 1) := by decide +kernel
theorem dX7_wearAll_20 : decode cX7_wearAll 20 = .ok (.getfield 11, 3) := by decide +kernel
theorem dX7_wearAll_23 : decode cX7_wearAll 23 = .ok (.iload_n 2, 1) := by decide +kernel
theorem dX7_wearAll_24 : decode cX7_wearAll 24 = .ok (.aaload, 1) := by decide +kernel
theorem dX7_wearAll_25 : decode cX7_wearAll 25 = .ok (.invokevirtual 162, 3) := by decide +kernel
theorem dX7_wearAll_28 : decode cX7_wearAll 28 = .ok (.iinc 2 1, 3) := by decide +kernel
theorem dX7_wearAll_31 : decode cX7_wearAll 31 = .ok (.goto (-29), 3) := by decide +kernel
theorem dX7_wearAll_34 : decode cX7_wearAll 34 = .ok (.return_, 1) := by decide +kernel
theorem dX7_letFall_0 : decode cX7_letFall 0 = .ok (.aload_n 0, 1) := by decide +kernel
theorem dX7_letFall_1 : decode cX7_letFall 1 = .ok (.aload_n 1, 1) := by decide +kernel
theorem dX7_letFall_2 : decode cX7_letFall 2 = .ok (.invokevirtual 165, 3) := by decide +kernel
theorem dX7_letFall_5 : decode cX7_letFall 5 = .ok (.istore_n 2, 1) := by decide +kernel
theorem dX7_letFall_6 : decode cX7_letFall 6 = .ok (.aload_n 1, 1) := by decide +kernel
theorem dX7_letFall_7 : decode cX7_letFall 7 = .ok (.dup, 1) := by decide +kernel
theorem dX7_letFall_8 : decode cX7_letFall 8 = .ok (.getfield 109, 3) := by decide +kernel
theorem dX7_letFall_11 : decode cX7_letFall 11 = .ok (.iload_n 2, 1) := by decide +kernel
theorem dX7_letFall_12 : decode cX7_letFall 12 = .ok (.isub, 1) := by decide +kernel
theorem dX7_letFall_13 : decode cX7_letFall 13 = .ok (.putfield 109, 3) := by decide +kernel
theorem dX7_letFall_16 : decode cX7_letFall 16 = .ok (.iload_n 2, 1) := by decide +kernel
theorem dX7_letFall_17 : decode cX7_letFall 17 = .ok (.ireturn, 1) := by decide +kernel
theorem dX7_giveShot_0 : decode cX7_giveShot 0 = .ok (.iload_n 2, 1) := by decide +kernel
theorem dX7_giveShot_1 : decode cX7_giveShot 1 = .ok (.sipush 999, 3) := by decide +kernel
theorem dX7_giveShot_4 : decode cX7_giveShot 4 = .ok (.aload_n 1, 1) := by decide +kernel
theorem dX7_giveShot_5 : decode cX7_giveShot 5 = .ok (.getfield 109, 3) := by decide +kernel
theorem dX7_giveShot_8 : decode cX7_giveShot 8 = .ok (.isub, 1) := by decide +kernel
theorem dX7_giveShot_9 : decode cX7_giveShot 9 = .ok (.invokestatic 150, 3) := by decide +kernel
theorem dX7_giveShot_12 : decode cX7_giveShot 12 = .ok (.istore_n 3, 1) := by decide +kernel
theorem dX7_giveShot_13 : decode cX7_giveShot 13 = .ok (.aload_n 1, 1) := by decide +kernel
theorem dX7_giveShot_14 : decode cX7_giveShot 14 = .ok (.dup, 1) := by decide +kernel
theorem dX7_giveShot_15 : decode cX7_giveShot 15 = .ok (.getfield 109, 3) := by decide +kernel
theorem dX7_giveShot_18 : decode cX7_giveShot 18 = .ok (.iload_n 3, 1) := by decide +kernel
theorem dX7_giveShot_19 : decode cX7_giveShot 19 = .ok (.iadd, 1) := by decide +kernel
theorem dX7_giveShot_20 : decode cX7_giveShot 20 = .ok (.putfield 109, 3) := by decide +kernel
theorem dX7_giveShot_23 : decode cX7_giveShot 23 = .ok (.aload_n 0, 1) := by decide +kernel
theorem dX7_giveShot_24 : decode cX7_giveShot 24 = .ok (.ldc 168, 2) := by decide +kernel
theorem dX7_giveShot_26 : decode cX7_giveShot 26 = .ok (.aload_n 0, 1) := by decide +kernel
theorem dX7_giveShot_27 : decode cX7_giveShot 27 = .ok (.getfield 72, 3) := by decide +kernel
theorem dX7_giveShot_30 : decode cX7_giveShot 30 = .ok (.iload_n 3, 1) := by decide +kernel
theorem dX7_giveShot_31 : decode cX7_giveShot 31 = .ok (.iadd, 1) := by decide +kernel
theorem dX7_giveShot_32 : decode cX7_giveShot 32 = .ok (.invokestatic 150, 3) := by decide +kernel
theorem dX7_giveShot_35 : decode cX7_giveShot 35 = .ok (.putfield 72, 3) := by decide +kernel
theorem dX7_giveShot_38 : decode cX7_giveShot 38 = .ok (.iload_n 3, 1) := by decide +kernel
theorem dX7_giveShot_39 : decode cX7_giveShot 39 = .ok (.ireturn, 1) := by decide +kernel
theorem dX7_makeRight_0 : decode cX7_makeRight 0 = .ok (.iconst 0, 1) := by decide +kernel
theorem dX7_makeRight_1 : decode cX7_makeRight 1 = .ok (.istore_n 1, 1) := by decide +kernel
theorem dX7_makeRight_2 : decode cX7_makeRight 2 = .ok (.iconst 0, 1) := by decide +kernel
theorem dX7_makeRight_3 : decode cX7_makeRight 3 = .ok (.istore_n 2, 1) := by decide +kernel
theorem dX7_makeRight_4 : decode cX7_makeRight 4 = .ok (.iload_n 2, 1) := by decide +kernel
theorem dX7_makeRight_5 : decode cX7_makeRight 5 = .ok (.aload_n 0, 1) := by decide +kernel
theorem dX7_makeRight_6 : decode cX7_makeRight 6 = .ok (.getfield 56, 3) := by decide +kernel
theorem dX7_makeRight_9 : decode cX7_makeRight 9 = .ok (.if_icmp .ge 48, 3) := by decide +kernel
theorem dX7_makeRight_12 : decode cX7_makeRight 12 = .ok (.aload_n 0, 1) := by decide +kernel
theorem dX7_makeRight_13 : decode cX7_makeRight 13 = .ok (.aload_n 0, 1) := by decide +kernel
theorem dX7_makeRight_14 : decode cX7_makeRight 14 = .ok (.getfield 11, 3) := by decide +kernel
theorem dX7_makeRight_17 : decode cX7_makeRight 17 = .ok (.iload_n 2, 1) := by decide +kernel
theorem dX7_makeRight_18 : decode cX7_makeRight 18 = .ok (.aaload, 1) := by decide +kernel
theorem dX7_makeRight_19 : decode cX7_makeRight 19 = .ok (.invokevirtual 169, 3) := by decide +kernel
theorem dX7_makeRight_22 : decode cX7_makeRight 22 = .ok (.aload_n 0, 1) := by decide +kernel
theorem dX7_makeRight_23 : decode cX7_makeRight 23 = .ok (.getfield 11, 3) := by decide +kernel
theorem dX7_makeRight_26 : decode cX7_makeRight 26 = .ok (.iload_n 2, 1) := by decide +kernel
theorem dX7_makeRight_27 : decode cX7_makeRight 27 = .ok (.aaload, 1) := by decide +kernel
theorem dX7_makeRight_28 : decode cX7_makeRight 28 = .ok (.getfield 109, 3) := by decide +kernel
theorem dX7_makeRight_31 : decode cX7_makeRight 31 = .ok (.isub, 1) := by decide +kernel
theorem dX7_makeRight_32 : decode cX7_makeRight 32 = .ok (.istore_n 3, 1) := by decide +kernel
theorem dX7_makeRight_33 : decode cX7_makeRight 33 = .ok (.iload_n 3, 1) := by decide +kernel
theorem dX7_makeRight_34 : decode cX7_makeRight 34 = .ok (.ifCond .le 17, 3) := by decide +kernel
theorem dX7_makeRight_37 : decode cX7_makeRight 37 = .ok (.iload_n 1, 1) := by decide +kernel
theorem dX7_makeRight_38 : decode cX7_makeRight 38 = .ok (.aload_n 0, 1) := by decide +kernel
theorem dX7_makeRight_39 : decode cX7_makeRight 39 = .ok (.aload_n 0, 1) := by decide +kernel
theorem dX7_makeRight_40 : decode cX7_makeRight 40 = .ok (.getfield 11, 3) := by decide +kernel
theorem dX7_makeRight_43 : decode cX7_makeRight 43 = .ok (.iload_n 2, 1) := by decide +kernel
theorem dX7_makeRight_44 : decode cX7_makeRight 44 = .ok (.aaload, 1) := by decide +kernel
theorem dX7_makeRight_45 : decode cX7_makeRight 45 = .ok (.iload_n 3, 1) := by decide +kernel
theorem dX7_makeRight_46 : decode cX7_makeRight 46 = .ok (.invokevirtual 172, 3) := by decide +kernel
theorem dX7_makeRight_49 : decode cX7_makeRight 49 = .ok (.iadd, 1) := by decide +kernel
theorem dX7_makeRight_50 : decode cX7_makeRight 50 = .ok (.istore_n 1, 1) := by decide +kernel
theorem dX7_makeRight_51 : decode cX7_makeRight 51 = .ok (.iinc 2 1, 3) := by decide +kernel
theorem dX7_makeRight_54 : decode cX7_makeRight 54 = .ok (.goto (-50), 3) := by decide +kernel
theorem dX7_makeRight_57 : decode cX7_makeRight 57 = .ok (.iload_n 1, 1) := by decide +kernel
theorem dX7_makeRight_58 : decode cX7_makeRight 58 = .ok (.ireturn, 1) := by decide +kernel
theorem dX7_passDay_0 : decode cX7_passDay 0 = .ok (.iconst 0, 1) := by decide +kernel
theorem dX7_passDay_1 : decode cX7_passDay 1 = .ok (.istore_n 1, 1) := by decide +kernel
theorem dX7_passDay_2 : decode cX7_passDay 2 = .ok (.iconst 0, 1) := by decide +kernel
theorem dX7_passDay_3 : decode cX7_passDay 3 = .ok (.istore_n 2, 1) := by decide +kernel
theorem dX7_passDay_4 : decode cX7_passDay 4 = .ok (.iload_n 2, 1) := by decide +kernel
theorem dX7_passDay_5 : decode cX7_passDay 5 = .ok (.aload_n 0, 1) := by decide +kernel
theorem dX7_passDay_6 : decode cX7_passDay 6 = .ok (.getfield 56, 3) := by decide +kernel
theorem dX7_passDay_9 : decode cX7_passDay 9 = .ok (.if_icmp .ge 34, 3) := by decide +kernel
theorem dX7_passDay_12 : decode cX7_passDay 12 = .ok (.aload_n 0, 1) := by decide +kernel
theorem dX7_passDay_13 : decode cX7_passDay 13 = .ok (.invokevirtual 91, 3) := by decide +kernel
theorem dX7_passDay_16 : decode cX7_passDay 16 = .ok (.bipush 100, 2) := by decide +kernel
theorem dX7_passDay_18 : decode cX7_passDay 18 = .ok (.irem, 1) := by decide +kernel
theorem dX7_passDay_19 : decode cX7_passDay 19 = .ok (.iconst 5, 1) := by decide +kernel
theorem dX7_passDay_20 : decode cX7_passDay 20 = .ok (.if_icmp .ge 17, 3) := by decide +kernel
theorem dX7_passDay_23 : decode cX7_passDay 23 = .ok (.aload_n 0, 1) := by decide +kernel
theorem dX7_passDay_24 : decode cX7_passDay 24 = .ok (.aload_n 0, 1) := by decide +kernel
theorem dX7_passDay_25 : decode cX7_passDay 25 = .ok (.getfield 11, 3) := by decide +kernel
theorem dX7_passDay_28 : decode cX7_passDay 28 = .ok (.iload_n 2, 1) := by decide +kernel
theorem dX7_passDay_29 : decode cX7_passDay 29 = .ok (.aaload, 1) := by decide +kernel
theorem dX7_passDay_30 : decode cX7_passDay 30 = .ok (.invokevirtual 176, 3) := by decide +kernel
theorem dX7_passDay_33 : decode cX7_passDay 33 = .ok (.pop, 1) := by decide +kernel
theorem dX7_passDay_34 : decode cX7_passDay 34 = .ok (.iinc 1 1, 3) := by decide +kernel
theorem dX7_passDay_37 : decode cX7_passDay 37 = .ok (.iinc 2 1, 3) := by decide +kernel
theorem dX7_passDay_40 : decode cX7_passDay 40 = .ok (.goto (-36), 3) := by decide +kernel
theorem dX7_passDay_43 : decode cX7_passDay 43 = .ok (.aload_n 0, 1) := by decide +kernel
theorem dX7_passDay_44 : decode cX7_passDay 44 = .ok (.getfield 75, 3) := by decide +kernel
theorem dX7_passDay_47 : decode cX7_passDay 47 = .ok (.bipush 7, 2) := by decide +kernel
theorem dX7_passDay_49 : decode cX7_passDay 49 = .ok (.irem, 1) := by decide +kernel
theorem dX7_passDay_50 : decode cX7_passDay 50 = .ok (.ifCond .ne 8, 3) := by decide +kernel
theorem dX7_passDay_53 : decode cX7_passDay 53 = .ok (.aload_n 0, 1) := by decide +kernel
theorem dX7_passDay_54 : decode cX7_passDay 54 = .ok (.invokevirtual 179, 3) := by decide +kernel
theorem dX7_passDay_57 : decode cX7_passDay 57 = .ok (.pop, 1) := by decide +kernel
theorem dX7_passDay_58 : decode cX7_passDay 58 = .ok (.aload_n 0, 1) := by decide +kernel
theorem dX7_passDay_59 : decode cX7_passDay 59 = .ok (.dup, 1) := by decide +kernel
theorem dX7_passDay_60 : decode cX7_passDay 60 = .ok (.getfield 75, 3) := by decide +kernel
theorem dX7_passDay_63 : decode cX7_passDay 63 = .ok (.iconst 1, 1) := by decide +kernel
theorem dX7_passDay_64 : decode cX7_passDay 64 = .ok (.iadd, 1) := by decide +kernel
theorem dX7_passDay_65 : decode cX7_passDay 65 = .ok (.putfield 75, 3) := by decide +kernel
theorem dX7_passDay_68 : decode cX7_passDay 68 = .ok (.iload_n 1, 1) := by decide +kernel
theorem dX7_passDay_69 : decode cX7_passDay 69 = .ok (.ireturn, 1) := by decide +kernel
theorem dX7_spareOf_0 : decode cX7_spareOf 0 = .ok (.aload_n 0, 1) := by decide +kernel
theorem dX7_spareOf_1 : decode cX7_spareOf 1 = .ok (.getfield 43, 3) := by decide +kernel
theorem dX7_spareOf_4 : decode cX7_spareOf 4 = .ok (.aload_n 1, 1) := by decide +kernel
theorem dX7_spareOf_5 : decode cX7_spareOf 5 = .ok (.invokevirtual 59, 3) := by decide +kernel
theorem dX7_spareOf_8 : decode cX7_spareOf 8 = .ok (.aload_n 0, 1) := by decide +kernel
theorem dX7_spareOf_9 : decode cX7_spareOf 9 = .ok (.getfield 43, 3) := by decide +kernel
theorem dX7_spareOf_12 : decode cX7_spareOf 12 = .ok (.areturn, 1) := by decide +kernel
theorem dX7_sortByGrains_0 : decode cX7_sortByGrains 0 = .ok (.iconst 0, 1) := by decide +kernel
theorem dX7_sortByGrains_1 : decode cX7_sortByGrains 1 = .ok (.istore_n 1, 1) := by decide +kernel
theorem dX7_sortByGrains_2 : decode cX7_sortByGrains 2 = .ok (.iload_n 1, 1) := by decide +kernel
theorem dX7_sortByGrains_3 : decode cX7_sortByGrains 3 = .ok (.aload_n 0, 1) := by decide +kernel
theorem dX7_sortByGrains_4 : decode cX7_sortByGrains 4 = .ok (.getfield 56, 3) := by decide +kernel
theorem dX7_sortByGrains_7 : decode cX7_sortByGrains 7 = .ok (.if_icmp .ge 70, 3) := by decide +kernel
theorem dX7_sortByGrains_10 : decode cX7_sortByGrains 10 = .ok (.iload_n 1, 1) := by decide +kernel
theorem dX7_sortByGrains_11 : decode cX7_sortByGrains 11 = .ok (.istore_n 2, 1) := by decide +kernel
theorem dX7_sortByGrains_12 : decode cX7_sortByGrains 12 = .ok (.iload_n 2, 1) := by decide +kernel
theorem dX7_sortByGrains_13 : decode cX7_sortByGrains 13 = .ok (.ifCond .le 51, 3) := by decide +kernel
theorem dX7_sortByGrains_16 : decode cX7_sortByGrains 16 = .ok (.aload_n 0, 1) := by decide +kernel
theorem dX7_sortByGrains_17 : decode cX7_sortByGrains 17 = .ok (.getfield 11, 3) := by decide +kernel
theorem dX7_sortByGrains_20 : decode cX7_sortByGrains 20 = .ok (.aload_n 0, 1) := by decide +kernel
theorem dX7_sortByGrains_21 : decode cX7_sortByGrains 21 = .ok (.getfield 47, 3) := by decide +kernel
theorem dX7_sortByGrains_24 : decode cX7_sortByGrains 24 = .ok (.iload_n 2, 1) := by decide +kernel
theorem dX7_sortByGrains_25 : decode cX7_sortByGrains 25 = .ok (.iconst 1, 1) := by decide +kernel
theorem dX7_sortByGrains_26 : decode cX7_sortByGrains 26 = .ok (.isub, 1) := by decide +kernel
theorem dX7_sortByGrains_27 : decode cX7_sortByGrains 27 = .ok (.iaload, 1) := by decide +kernel
theorem dX7_sortByGrains_28 : decode cX7_sortByGrains 28 = .ok (.aaload, 1) := by decide +kernel
theorem dX7_sortByGrains_29 : decode cX7_sortByGrains 29 = .ok (.getfield 109, 3) := by decide +kernel
theorem dX7_sortByGrains_32 : decode cX7_sortByGrains 32 = .ok (.aload_n 0, 1) := by decide +kernel
theorem dX7_sortByGrains_33 : decode cX7_sortByGrains 33 = .ok (.getfield 11, 3) := by decide +kernel
theorem dX7_sortByGrains_36 : decode cX7_sortByGrains 36 = .ok (.iload_n 1, 1) := by decide +kernel
theorem dX7_sortByGrains_37 : decode cX7_sortByGrains 37 = .ok (.aaload, 1) := by decide +kernel
theorem dX7_sortByGrains_38 : decode cX7_sortByGrains 38 = .ok (.getfield 109, 3) := by decide +kernel
theorem dX7_sortByGrains_41 : decode cX7_sortByGrains 41 = .ok (.if_icmp .le 23, 3) := by decide +kernel
theorem dX7_sortByGrains_44 : decode cX7_sortByGrains 44 = .ok (.aload_n 0, 1) := by decide +kernel
theorem dX7_sortByGrains_45 : decode cX7_sortByGrains 45 = .ok (.getfield 47, 3) := by decide +kernel
theorem dX7_sortByGrains_48 : decode cX7_sortByGrains 48 = .ok (.iload_n 2, 1) := by decide +kernel
theorem dX7_sortByGrains_49 : decode cX7_sortByGrains 49 = .ok (.aload_n 0, 1) := by decide +kernel
theorem dX7_sortByGrains_50 : decode cX7_sortByGrains 50 = .ok (.getfield 47, 3) := by decide +kernel
theorem dX7_sortByGrains_53 : decode cX7_sortByGrains 53 = .ok (.iload_n 2, 1) := by decide +kernel
theorem dX7_sortByGrains_54 : decode cX7_sortByGrains 54 = .ok (.iconst 1, 1) := by decide +kernel
theorem dX7_sortByGrains_55 : decode cX7_sortByGrains 55 = .ok (.isub, 1) := by decide +kernel
theorem dX7_sortByGrains_56 : decode cX7_sortByGrains 56 = .ok (.iaload, 1) := by decide +kernel
theorem dX7_sortByGrains_57 : decode cX7_sortByGrains 57 = .ok (.iastore, 1) := by decide +kernel
theorem dX7_sortByGrains_58 : decode cX7_sortByGrains 58 = .ok (.iinc 2 (-1), 3) := by decide +kernel
theorem dX7_sortByGrains_61 : decode cX7_sortByGrains 61 = .ok (.goto (-49), 3) := by decide +kernel
theorem dX7_sortByGrains_64 : decode cX7_sortByGrains 64 = .ok (.aload_n 0, 1) := by decide +kernel
theorem dX7_sortByGrains_65 : decode cX7_sortByGrains 65 = .ok (.getfield 47, 3) := by decide +kernel
theorem dX7_sortByGrains_68 : decode cX7_sortByGrains 68 = .ok (.iload_n 2, 1) := by decide +kernel
theorem dX7_sortByGrains_69 : decode cX7_sortByGrains 69 = .ok (.iload_n 1, 1) := by decide +kernel
theorem dX7_sortByGrains_70 : decode cX7_sortByGrains 70 = .ok (.iastore, 1) := by decide +kernel
theorem dX7_sortByGrains_71 : decode cX7_sortByGrains 71 = .ok (.iinc 1 1, 3) := by decide +kernel
theorem dX7_sortByGrains_74 : decode cX7_sortByGrains 74 = .ok (.goto (-72), 3) := by decide +kernel
theorem dX7_sortByGrains_77 : decode cX7_sortByGrains 77 = .ok (.return_, 1) := by decide +kernel
theorem dX7_reachOf_0 : decode cX7_reachOf 0 = .ok (.iconst 0, 1) := by decide +kernel
theorem dX7_reachOf_1 : decode cX7_reachOf 1 = .ok (.istore_n 2, 1) := by decide +kernel
theorem dX7_reachOf_2 : decode cX7_reachOf 2 = .ok (.iconst 0, 1) := by decide +kernel
theorem dX7_reachOf_3 : decode cX7_reachOf 3 = .ok (.istore_n 3, 1) := by decide +kernel
theorem dX7_reachOf_4 : decode cX7_reachOf 4 = .ok (.iload_n 3, 1) := by decide +kernel
theorem dX7_reachOf_5 : decode cX7_reachOf 5 = .ok (.aload_n 0, 1) := by decide +kernel
theorem dX7_reachOf_6 : decode cX7_reachOf 6 = .ok (.getfield 56, 3) := by decide +kernel
theorem dX7_reachOf_9 : decode cX7_reachOf 9 = .ok (.if_icmp .ge 57, 3) := by decide +kernel
theorem dX7_reachOf_12 : decode cX7_reachOf 12 = .ok (.aload_n 0, 1) := by decide +kernel
theorem dX7_reachOf_13 : decode cX7_reachOf 13 = .ok (.getfield 47, 3) := by decide +kernel
theorem dX7_reachOf_16 : decode cX7_reachOf 16 = .ok (.iload_n 3, 1) := by decide +kernel
theorem dX7_reachOf_17 : decode cX7_reachOf 17 = .ok (.iaload, 1) := by decide +kernel
theorem dX7_reachOf_18 : decode cX7_reachOf 18 = .ok (.istore 4, 2) := by decide +kernel
theorem dX7_reachOf_20 : decode cX7_reachOf 20 = .ok (.iload_n 1, 1) := by decide +kernel
theorem dX7_reachOf_21 : decode cX7_reachOf 21 = .ok (.iload 4, 2) := by decide +kernel
theorem dX7_reachOf_23 : decode cX7_reachOf 23 = .ok (.ishr, 1) := by decide +kernel
theorem dX7_reachOf_24 : decode cX7_reachOf 24 = .ok (.iconst 1, 1) := by decide +kernel
theorem dX7_reachOf_25 : decode cX7_reachOf 25 = .ok (.iand, 1) := by decide +kernel
theorem dX7_reachOf_26 : decode cX7_reachOf 26 = .ok (.ifCond .eq 34, 3) := by decide +kernel
theorem dX7_reachOf_29 : decode cX7_reachOf 29 = .ok (.aload_n 0, 1) := by decide +kernel
theorem dX7_reachOf_30 : decode cX7_reachOf 30 = .ok (.getfield 11, 3) := by decide +kernel
theorem dX7_reachOf_33 : decode cX7_reachOf 33 = .ok (.iload 4, 2) := by decide +kernel
theorem dX7_reachOf_35 : decode cX7_reachOf 35 = .ok (.aaload, 1) := by decide +kernel
theorem dX7_reachOf_36 : decode cX7_reachOf 36 = .ok (.getfield 109, 3) := by decide +kernel
theorem dX7_reachOf_39 : decode cX7_reachOf 39 = .ok (.iload_n 2, 1) := by decide +kernel
theorem dX7_reachOf_40 : decode cX7_reachOf 40 = .ok (.iconst 1, 1) := by decide +kernel
theorem dX7_reachOf_41 : decode cX7_reachOf 41 = .ok (.iadd, 1) := by decide +kernel
theorem dX7_reachOf_42 : decode cX7_reachOf 42 = .ok (.if_icmp .le 5, 3) := by decide +kernel
theorem dX7_reachOf_45 : decode cX7_reachOf 45 = .ok (.iload_n 2, 1) := by decide +kernel
theorem dX7_reachOf_46 : decode cX7_reachOf 46 = .ok (.ireturn, 1) := by decide +kernel
theorem dX7_reachOf_47 : decode cX7_reachOf 47 = .ok (.iload_n 2, 1) := by decide +kernel
theorem dX7_reachOf_48 : decode cX7_reachOf 48 = .ok (.aload_n 0, 1) := by decide +kernel
theorem dX7_reachOf_49 : decode cX7_reachOf 49 = .ok (.getfield 11, 3) := by decide +kernel
theorem dX7_reachOf_52 : decode cX7_reachOf 52 = .ok (.iload 4, 2) := by decide +kernel
theorem dX7_reachOf_54 : decode cX7_reachOf 54 = .ok (.aaload, 1) := by decide +kernel
theorem dX7_reachOf_55 : decode cX7_reachOf 55 = .ok (.getfield 109, 3) := by decide +kernel
theorem dX7_reachOf_58 : decode cX7_reachOf 58 = .ok (.iadd, 1) := by decide +kernel
theorem dX7_reachOf_59 : decode cX7_reachOf 59 = .ok (.istore_n 2, 1) := by decide +kernel
theorem dX7_reachOf_60 : decode cX7_reachOf 60 = .ok (.iinc 3 1, 3) := by decide +kernel
theorem dX7_reachOf_63 : decode cX7_reachOf 63 = .ok (.goto (-59), 3) := by decide +kernel
theorem dX7_reachOf_66 : decode cX7_reachOf 66 = .ok (.iload_n 2, 1) := by decide +kernel
theorem dX7_reachOf_67 : decode cX7_reachOf 67 = .ok (.ireturn, 1) := by decide +kernel
theorem dX7_lightestFor_0 : decode cX7_lightestFor 0 = .ok (.iconst 0, 1) := by decide +kernel
theorem dX7_lightestFor_1 : decode cX7_lightestFor 1 = .ok (.istore_n 2, 1) := by decide +kernel
theorem dX7_lightestFor_2 : decode cX7_lightestFor 2 = .ok (.iconst 0, 1) := by decide +kernel
theorem dX7_lightestFor_3 : decode cX7_lightestFor 3 = .ok (.istore_n 3, 1) := by decide +kernel
theorem dX7_lightestFor_4 : decode cX7_lightestFor 4 = .ok (.iconst 1, 1) := by decide +kernel
theorem dX7_lightestFor_5 : decode cX7_lightestFor 5 = .ok (.istore 4, 2) := by decide +kernel
theorem dX7_lightestFor_7 : decode cX7_lightestFor 7 = .ok (.iload 4, 2) := by decide +kernel
theorem dX7_lightestFor_9 : decode cX7_lightestFor 9 = .ok (.aload_n 0, 1) := by decide +kernel
theorem dX7_lightestFor_10 : decode cX7_lightestFor 10 = .ok (.invokevirtual 99, 3) := by decide +kernel
theorem dX7_lightestFor_13 : decode cX7_lightestFor 13 = .ok (.if_icmp .ge 43, 3) := by decide +kernel
theorem dX7_lightestFor_16 : decode cX7_lightestFor 16 = .ok (.aload_n 0, 1) := by decide +kernel
theorem dX7_lightestFor_17 : decode cX7_lightestFor 17 = .ok (.iload 4, 2) := by decide +kernel
theorem dX7_lightestFor_19 : decode cX7_lightestFor 19 = .ok (.invokevirtual 182, 3) := by decide +kernel
theorem dX7_lightestFor_22 : decode cX7_lightestFor 22 = .ok (.iload_n 1, 1) := by decide +kernel
theorem dX7_lightestFor_23 : decode cX7_lightestFor 23 = .ok (.if_icmp .ne 27, 3) := by decide +kernel
theorem dX7_lightestFor_26 : decode cX7_lightestFor 26 = .ok (.aload_n 0, 1) := by decide +kernel
theorem dX7_lightestFor_27 : decode cX7_lightestFor 27 = .ok (.iload 4, 2) := by decide +kernel
theorem dX7_lightestFor_29 : decode cX7_lightestFor 29 = .ok (.invokevirtual 115, 3) := by decide +kernel
theorem dX7_lightestFor_32 : decode cX7_lightestFor 32 = .ok (.istore 5, 2) := by decide +kernel
theorem dX7_lightestFor_34 : decode cX7_lightestFor 34 = .ok (.iload_n 2, 1) := by decide +kernel
theorem dX7_lightestFor_35 : decode cX7_lightestFor 35 = .ok (.ifCond .eq 9, 3) := by decide +kernel
theorem dX7_lightestFor_38 : decode cX7_lightestFor 38 = .ok (.iload 5, 2) := by decide +kernel
theorem dX7_lightestFor_40 : decode cX7_lightestFor 40 = .ok (.iload_n 3, 1) := by decide +kernel
theorem dX7_lightestFor_41 : decode cX7_lightestFor 41 = .ok (.if_icmp .ge 9, 3) := by decide +kernel
theorem dX7_lightestFor_44 : decode cX7_lightestFor 44 = .ok (.iload 4, 2) := by decide +kernel
theorem dX7_lightestFor_46 : decode cX7_lightestFor 46 = .ok (.istore_n 2, 1) := by decide +kernel
theorem dX7_lightestFor_47 : decode cX7_lightestFor 47 = .ok (.iload 5, 2) := by decide +kernel
theorem dX7_lightestFor_49 : decode cX7_lightestFor 49 = .ok (.istore_n 3, 1) := by decide +kernel
theorem dX7_lightestFor_50 : decode cX7_lightestFor 50 = .ok (.iinc 4 1, 3) := by decide +kernel
theorem dX7_lightestFor_53 : decode cX7_lightestFor 53 = .ok (.goto (-46), 3) := by decide +kernel
theorem dX7_lightestFor_56 : decode cX7_lightestFor 56 = .ok (.iload_n 2, 1) := by decide +kernel
theorem dX7_lightestFor_57 : decode cX7_lightestFor 57 = .ok (.ireturn, 1) := by decide +kernel
theorem dX7_textAt_0 : decode cX7_textAt 0 = .ok (.iload_n 1, 1) := by decide +kernel
theorem dX7_textAt_1 : decode cX7_textAt 1 = .ok (.ifCond .lt 26, 3) := by decide +kernel
theorem dX7_textAt_4 : decode cX7_textAt 4 = .ok (.iload_n 1, 1) := by decide +kernel
theorem dX7_textAt_5 : decode cX7_textAt 5 = .ok (.aload_n 0, 1) := by decide +kernel
theorem dX7_textAt_6 : decode cX7_textAt 6 = .ok (.getfield 78, 3) := by decide +kernel
theorem dX7_textAt_9 : decode cX7_textAt 9 = .ok (.if_icmp .ge 18, 3) := by decide +kernel
theorem dX7_textAt_12 : decode cX7_textAt 12 = .ok (.iload_n 1, 1) := by decide +kernel
theorem dX7_textAt_13 : decode cX7_textAt 13 = .ok (.bipush 14, 2) := by decide +kernel
theorem dX7_textAt_15 : decode cX7_textAt 15 = .ok (.if_icmp .ge 12, 3) := by decide +kernel
theorem dX7_textAt_18 : decode cX7_textAt 18 = .ok (.aload_n 0, 1) := by decide +kernel
theorem dX7_textAt_19 : decode cX7_textAt 19 = .ok (.getfield 34, 3) := by decide +kernel
theorem dX7_textAt_22 : decode cX7_textAt 22 = .ok (.iload_n 1, 1) := by decide +kernel
theorem dX7_textAt_23 : decode cX7_textAt 23 = .ok (.aaload, 1) := by decide +kernel
theorem dX7_textAt_24 : decode cX7_textAt 24 = .ok (.goto 4, 3) := by decide +kernel
theorem dX7_textAt_27 : decode cX7_textAt 27 = .ok (.aconst_null, 1) := by decide +kernel
theorem dX7_textAt_28 : decode cX7_textAt 28 = .ok (.areturn, 1) := by decide +kernel
theorem dX7_addText_0 : decode cX7_addText 0 = .ok (.aload_n 0, 1) := by decide +kernel
theorem dX7_addText_1 : decode cX7_addText 1 = .ok (.getfield 78, 3) := by decide +kernel
theorem dX7_addText_4 : decode cX7_addText 4 = .ok (.bipush 14, 2) := by decide +kernel
theorem dX7_addText_6 : decode cX7_addText 6 = .ok (.if_icmp .lt 6, 3) := by decide +kernel
theorem dX7_addText_9 : decode cX7_addText 9 = .ok (.ldc 85, 2) := by decide +kernel
theorem dX7_addText_11 : decode cX7_addText 11 = .ok (.ireturn, 1) := by decide +kernel
theorem dX7_addText_12 : decode cX7_addText 12 = .ok (.aload_n 0, 1) := by decide +kernel
theorem dX7_addText_13 : decode cX7_addText 13 = .ok (.getfield 34, 3) := by decide +kernel
theorem dX7_addText_16 : decode cX7_addText 16 = .ok (.aload_n 0, 1) := by decide +kernel
theorem dX7_addText_17 : decode cX7_addText 17 = .ok (.getfield 78, 3) := by decide +kernel
theorem dX7_addText_20 : decode cX7_addText 20 = .ok (.aload_n 1, 1) := by decide +kernel
theorem dX7_addText_21 : decode cX7_addText 21 = .ok (.aastore, 1) := by decide +kernel
theorem dX7_addText_22 : decode cX7_addText 22 = .ok (.aload_n 1, 1) := by decide +kernel
theorem dX7_addText_23 : decode cX7_addText 23 = .ok (.getfield 185, 3) := by decide +kernel
theorem dX7_addText_26 : decode cX7_addText 26 = .ok (.iconst 0, 1) := by decide +kernel
theorem dX7_addText_27 : decode cX7_addText 27 = .ok (.iconst 2, 1) := by decide +kernel
theorem dX7_addText_28 : decode cX7_addText 28 = .ok (.invokestatic 105, 3) := by decide +kernel
theorem dX7_addText_31 : decode cX7_addText 31 = .ok (.ifCond .eq 16, 3) := by decide +kernel
theorem dX7_addText_34 : decode cX7_addText 34 = .ok (.aload_n 0, 1) := by decide +kernel
theorem dX7_addText_35 : decode cX7_addText 35 = .ok (.getfield 39, 3) := by decide +kernel
theorem dX7_addText_38 : decode cX7_addText 38 = .ok (.aload_n 1, 1) := by decide +kernel
theorem dX7_addText_39 : decode cX7_addText 39 = .ok (.getfield 185, 3) := by decide +kernel
theorem dX7_addText_42 : decode cX7_addText 42 = .ok (.aload_n 0, 1) := by decide +kernel
theorem dX7_addText_43 : decode cX7_addText 43 = .ok (.getfield 78, 3) := by decide +kernel
theorem dX7_addText_46 : decode cX7_addText 46 = .ok (.iastore, 1) := by decide +kernel
theorem dX7_addText_47 : decode cX7_addText 47 = .ok (.aload_n 0, 1) := by decide +kernel
theorem dX7_addText_48 : decode cX7_addText 48 = .ok (.dup, 1) := by decide +kernel
theorem dX7_addText_49 : decode cX7_addText 49 = .ok (.getfield 78, 3) := by decide +kernel
theorem dX7_addText_52 : decode cX7_addText 52 = .ok (.iconst 1, 1) := by decide +kernel
theorem dX7_addText_53 : decode cX7_addText 53 = .ok (.iadd, 1) := by decide +kernel
theorem dX7_addText_54 : decode cX7_addText 54 = .ok (.putfield 78, 3) := by decide +kernel
theorem dX7_addText_57 : decode cX7_addText 57 = .ok (.aload_n 0, 1) := by decide +kernel
theorem dX7_addText_58 : decode cX7_addText 58 = .ok (.getfield 78, 3) := by decide +kernel
theorem dX7_addText_61 : decode cX7_addText 61 = .ok (.iconst 1, 1) := by decide +kernel
theorem dX7_addText_62 : decode cX7_addText 62 = .ok (.isub, 1) := by decide +kernel
theorem dX7_addText_63 : decode cX7_addText 63 = .ok (.ireturn, 1) := by decide +kernel
theorem dX7_countingText_0 : decode cX7_countingText 0 = .ok (.iload_n 1, 1) := by decide +kernel
theorem dX7_countingText_1 : decode cX7_countingText 1 = .ok (.iconst 0, 1) := by decide +kernel
theorem dX7_countingText_2 : decode cX7_countingText 2 = .ok (.iconst 2, 1) := by decide +kernel
theorem dX7_countingText_3 : decode cX7_countingText 3 = .ok (.invokestatic 105, 3) := by decide +kernel
theorem dX7_countingText_6 : decode cX7_countingText 6 = .ok (.ifCond .eq 12, 3) := by decide +kernel
theorem dX7_countingText_9 : decode cX7_countingText 9 = .ok (.aload_n 0, 1) := by decide +kernel
theorem dX7_countingText_10 : decode cX7_countingText 10 = .ok (.getfield 39, 3) := by decide +kernel
theorem dX7_countingText_13 : decode cX7_countingText 13 = .ok (.iload_n 1, 1) := by decide +kernel
theorem dX7_countingText_14 : decode cX7_countingText 14 = .ok (.iaload, 1) := by decide +kernel
theorem dX7_countingText_15 : decode cX7_countingText 15 = .ok (.goto 5, 3) := by decide +kernel
theorem dX7_countingText_18 : decode cX7_countingText 18 = .ok (.ldc 38, 2) := by decide +kernel
theorem dX7_countingText_20 : decode cX7_countingText 20 = .ok (.ireturn, 1) := by decide +kernel
theorem dX8_init_0 : decode cX8_init 0 = .ok (.aload_n 0, 1) := by decide +kernel
theorem dX8_init_1 : decode cX8_init 1 = .ok (.invokespecial 1, 3) := by decide +kernel
theorem dX8_init_4 : decode cX8_init 4 = .ok (.aload_n 0, 1) := by decide +kernel
theorem dX8_init_5 : decode cX8_init 5 = .ok (.new 7, 3) := by decide +kernel
theorem dX8_init_8 : decode cX8_init 8 = .ok (.dup, 1) := by decide +kernel
theorem dX8_init_9 : decode cX8_init 9 = .ok (.invokespecial 9, 3) := by decide +kernel
theorem dX8_init_12 : decode cX8_init 12 = .ok (.putfield 10, 3) := by decide +kernel
theorem dX8_init_15 : decode cX8_init 15 = .ok (.aload_n 0, 1) := by decide +kernel
theorem dX8_init_16 : decode cX8_init 16 = .ok (.new 7, 3) := by decide +kernel
theorem dX8_init_19 : decode cX8_init 19 = .ok (.dup, 1) := by decide +kernel
theorem dX8_init_20 : decode cX8_init 20 = .ok (.invokespecial 9, 3) := by decide +kernel
theorem dX8_init_23 : decode cX8_init 23 = .ok (.putfield 16, 3) := by decide +kernel
theorem dX8_init_26 : decode cX8_init 26 = .ok (.aload_n 0, 1) := by decide +kernel
theorem dX8_init_27 : decode cX8_init 27 = .ok (.new 7, 3) := by decide +kernel
theorem dX8_init_30 : decode cX8_init 30 = .ok (.dup, 1) := by decide +kernel
theorem dX8_init_31 : decode cX8_init 31 = .ok (.invokespecial 9, 3) := by decide +kernel
theorem dX8_init_34 : decode cX8_init 34 = .ok (.putfield 19, 3) := by decide +kernel
theorem dX8_init_37 : decode cX8_init 37 = .ok (.aload_n 0, 1) := by decide +kernel
theorem dX8_init_38 : decode cX8_init 38 = .ok (.new 22, 3) := by decide +kernel
theorem dX8_init_41 : decode cX8_init 41 = .ok (.dup, 1) := by decide +kernel
theorem dX8_init_42 : decode cX8_init 42 = .ok (.invokespecial 24, 3) := by decide +kernel
theorem dX8_init_45 : decode cX8_init 45 = .ok (.putfield 25, 3) := by decide +kernel
theorem dX8_init_48 : decode cX8_init 48 = .ok (.aload_n 0, 1) := by decide +kernel
theorem dX8_init_49 : decode cX8_init 49 = .ok (.aload_n 0, 1) := by decide +kernel
theorem dX8_init_50 : decode cX8_init 50 = .ok (.getfield 25, 3) := by decide +kernel
theorem dX8_init_53 : decode cX8_init 53 = .ok (.getfield 29, 3) := by decide +kernel
theorem dX8_init_56 : decode cX8_init 56 = .ok (.putfield 33, 3) := by decide +kernel
theorem dX8_init_59 : decode cX8_init 59 = .ok (.aload_n 0, 1) := by decide +kernel
theorem dX8_init_60 : decode cX8_init 60 = .ok (.iconst 4, 1) := by decide +kernel
theorem dX8_init_61 : decode cX8_init 61 = .ok (.anewarray 34, 3) := by decide +kernel
theorem dX8_init_64 : decode cX8_init 64 = .ok (.putfield 36, 3) := by decide +kernel
theorem dX8_init_67 : decode cX8_init 67 = .ok (.aload_n 0, 1) := by decide +kernel
theorem dX8_init_68 : decode cX8_init 68 = .ok (.iconst 5, 1) := by decide +kernel
theorem dX8_init_69 : decode cX8_init 69 = .ok (.anewarray 40, 3) := by decide +kernel
theorem dX8_init_72 : decode cX8_init 72 = .ok (.putfield 42, 3) := by decide +kernel
theorem dX8_init_75 : decode cX8_init 75 = .ok (.aload_n 0, 1) := by decide +kernel
theorem dX8_init_76 : decode cX8_init 76 = .ok (.bipush 60, 2) := by decide +kernel
theorem dX8_init_78 : decode cX8_init 78 = .ok (.newarray .int, 2) := by decide +kernel
theorem dX8_init_80 : decode cX8_init 80 = .ok (.putfield 46, 3) := by decide +kernel
theorem dX8_init_83 : decode cX8_init 83 = .ok (.iconst 0, 1) := by decide +kernel
theorem dX8_init_84 : decode cX8_init 84 = .ok (.istore_n 1, 1) := by decide +kernel
theorem dX8_init_85 : decode cX8_init 85 = .ok (.iload_n 1, 1) := by decide +kernel
theorem dX8_init_86 : decode cX8_init 86 = .ok (.iconst 4, 1) := by decide +kernel
theorem dX8_init_87 : decode cX8_init 87 = .ok (.if_icmp .ge 22, 3) := by decide +kernel
theorem dX8_init_90 : decode cX8_init 90 = .ok (.aload_n 0, 1) := by decide +kernel
theorem dX8_init_91 : decode cX8_init 91 = .ok (.getfield 36, 3) := by decide +kernel
theorem dX8_init_94 : decode cX8_init 94 = .ok (.iload_n 1, 1) := by decide +kernel
theorem dX8_init_95 : decode cX8_init 95 = .ok (.new 34, 3) := by decide +kernel
theorem dX8_init_98 : decode cX8_init 98 = .ok (.dup, 1) := by decide +kernel
theorem dX8_init_99 : decode cX8_init 99 = .ok (.invokespecial 50, 3) := by decide +kernel
theorem dX8_init_102 : decode cX8_init 102 = .ok (.aastore, 1) := by decide +kernel
theorem dX8_init_103 : decode cX8_init 103 = .ok (.iinc 1 1, 3) := by decide +kernel
theorem dX8_init_106 : decode cX8_init 106 = .ok (.goto (-21), 3) := by decide +kernel
theorem dX8_init_109 : decode cX8_init 109 = .ok (.iconst 0, 1) := by decide +kernel
theorem dX8_init_110 : decode cX8_init 110 = .ok (.istore_n 1, 1) := by decide +kernel
theorem dX8_init_111 : decode cX8_init 111 = .ok (.iload_n 1, 1) := by decide +kernel
theorem dX8_init_112 : decode cX8_init 112 = .ok (.iconst 5, 1) := by decide +kernel
theorem dX8_init_113 : decode cX8_init 113 = .ok (.if_icmp .ge 22, 3) := by decide +kernel
theorem dX8_init_116 : decode cX8_init 116 = .ok (.aload_n 0, 1) := by decide +kernel
theorem dX8_init_117 : decode cX8_init 117 = .ok (.getfield 42, 3) := by decide +kernel
theorem dX8_init_120 : decode cX8_init 120 = .ok (.iload_n 1, 1) := by decide +kernel
theorem dX8_init_121 : decode cX8_init 121 = .ok (.new 40, 3) := by decide +kernel
theorem dX8_init_124 : decode cX8_init 124 = .ok (.dup, 1) := by decide +kernel
theorem dX8_init_125 : decode cX8_init 125 = .ok (.invokespecial 51, 3) := by decide +kernel
theorem dX8_init_128 : decode cX8_init 128 = .ok (.aastore, 1) := by decide +kernel
theorem dX8_init_129 : decode cX8_init 129 = .ok (.iinc 1 1, 3) := by decide +kernel
theorem dX8_init_132 : decode cX8_init 132 = .ok (.goto (-21), 3) := by decide +kernel
theorem dX8_init_135 : decode cX8_init 135 = .ok (.return_, 1) := by decide +kernel
theorem dX8_weight_0 : decode cX8_weight 0 = .ok (.iload_n 1, 1) := by decide +kernel
theorem dX8_weight_1 : decode cX8_weight 1 = .ok (.invokestatic 52, 3) := by decide +kernel
theorem dX8_weight_4 : decode cX8_weight 4 = .ok (.ifCond .eq 14, 3) := by decide +kernel
theorem dX8_weight_7 : decode cX8_weight 7 = .ok (.iload_n 2, 1) := by decide +kernel
theorem dX8_weight_8 : decode cX8_weight 8 = .ok (.iconst 1, 1) := by decide +kernel
theorem dX8_weight_9 : decode cX8_weight 9 = .ok (.sipush 999, 3) := by decide +kernel
theorem dX8_weight_12 : decode cX8_weight 12 = .ok (.invokestatic 56, 3) := by decide +kernel
theorem dX8_weight_15 : decode cX8_weight 15 = .ok (.ifCond .ne 6, 3) := by decide +kernel
theorem dX8_weight_18 : decode cX8_weight 18 = .ok (.ldc 60, 2) := by decide +kernel
theorem dX8_weight_20 : decode cX8_weight 20 = .ok (.ireturn, 1) := by decide +kernel
theorem dX8_weight_21 : decode cX8_weight 21 = .ok (.aload_n 0, 1) := by decide +kernel
theorem dX8_weight_22 : decode cX8_weight 22 = .ok (.getfield 10, 3) := by decide +kernel
theorem dX8_weight_25 : decode cX8_weight 25 = .ok (.invokevirtual 61, 3) := by decide +kernel
theorem dX8_weight_28 : decode cX8_weight 28 = .ok (.ifCond .ne 6, 3) := by decide +kernel
theorem dX8_weight_31 : decode cX8_weight 31 = .ok (.ldc 65, 2) := by decide +kernel
theorem dX8_weight_33 : decode cX8_weight 33 = .ok (.ireturn, 1) := by decide +kernel
theorem dX8_weight_34 : decode cX8_weight 34 = .ok (.aload_n 0, 1) := by decide +kernel
theorem dX8_weight_35 : decode cX8_weight 35 = .ok (.getfield 10, 3) := by decide +kernel
theorem dX8_weight_38 : decode cX8_weight 38 = .ok (.iload_n 1, 1) := by decide +kernel
theorem dX8_weight_39 : decode cX8_weight 39 = .ok (.iload_n 2, 1) := by decide +kernel
theorem dX8_weight_40 : decode cX8_weight 40 = .ok (.invokevirtual 66, 3) := by decide +kernel
theorem dX8_weight_43 : decode cX8_weight 43 = .ok (.ireturn, 1) := by decide +kernel
theorem dX8_told_0 : decode cX8_told 0 = .ok (.aload_n 0, 1) := by decide +kernel
theorem dX8_told_1 : decode cX8_told 1 = .ok (.getfield 10, 3) := by decide +kernel
theorem dX8_told_4 : decode cX8_told 4 = .ok (.iload_n 1, 1) := by decide +kernel
theorem dX8_told_5 : decode cX8_told 5 = .ok (.invokevirtual 70, 3) := by decide +kernel
theorem dX8_told_8 : decode cX8_told 8 = .ok (.astore_n 3, 1) := by decide +kernel
theorem dX8_told_9 : decode cX8_told 9 = .ok (.aload_n 3, 1) := by decide +kernel
theorem dX8_told_10 : decode cX8_told 10 = .ok (.ifnonnull 6, 3) := by decide +kernel
theorem dX8_told_13 : decode cX8_told 13 = .ok (.ldc 60, 2) := by decide +kernel
theorem dX8_told_15 : decode cX8_told 15 = .ok (.ireturn, 1) := by decide +kernel
theorem dX8_told_16 : decode cX8_told 16 = .ok (.iload_n 2, 1) := by decide +kernel
theorem dX8_told_17 : decode cX8_told 17 = .ok (.tableswitch 86 0 6 #[43, 48, 53, 58, 63, 72, 81], 43) := by decide +kernel
theorem dX8_told_60 : decode cX8_told 60 = .ok (.aload_n 3, 1) := by decide +kernel
theorem dX8_told_61 : decode cX8_told 61 = .ok (.getfield 74, 3) := by decide +kernel
theorem dX8_told_64 : decode cX8_told 64 = .ok (.ireturn, 1) := by decide +kernel
theorem dX8_told_65 : decode cX8_told 65 = .ok (.aload_n 3, 1) := by decide +kernel
theorem dX8_told_66 : decode cX8_told 66 = .ok (.getfield 80, 3) := by decide +kernel
theorem dX8_told_69 : decode cX8_told 69 = .ok (.ireturn, 1) := by decide +kernel
theorem dX8_told_70 : decode cX8_told 70 = .ok (.aload_n 3, 1) := by decide +kernel
theorem dX8_told_71 : decode cX8_told 71 = .ok (.getfield 83, 3) := by decide +kernel
theorem dX8_told_74 : decode cX8_told 74 = .ok (.ireturn, 1) := by decide +kernel
theorem dX8_told_75 : decode cX8_told 75 = .ok (.aload_n 3, 1) := by decide +kernel
theorem dX8_told_76 : decode cX8_told 76 = .ok (.getfield 86, 3) := by decide +kernel
theorem dX8_told_79 : decode cX8_told 79 = .ok (.ireturn, 1) := by decide +kernel
theorem dX8_told_80 : decode cX8_told 80 = .ok (.aload_n 0, 1) := by decide +kernel
theorem dX8_told_81 : decode cX8_told 81 = .ok (.getfield 10, 3) := by decide +kernel
theorem dX8_told_84 : decode cX8_told 84 = .ok (.aload_n 3, 1) := by decide +kernel
theorem dX8_told_85 : decode cX8_told 85 = .ok (.invokevirtual 89, 3) := by decide +kernel
theorem dX8_told_88 : decode cX8_told 88 = .ok (.ireturn, 1) := by decide +kernel
theorem dX8_told_89 : decode cX8_told 89 = .ok (.aload_n 0, 1) := by decide +kernel
theorem dX8_told_90 : decode cX8_told 90 = .ok (.getfield 10, 3) := by decide +kernel
theorem dX8_told_93 : decode cX8_told 93 = .ok (.aload_n 3, 1) := by decide +kernel
theorem dX8_told_94 : decode cX8_told 94 = .ok (.invokevirtual 93, 3) := by decide +kernel
theorem dX8_told_97 : decode cX8_told 97 = .ok (.ireturn, 1) := by decide +kernel
theorem dX8_told_98 : decode cX8_told 98 = .ok (.aload_n 3, 1) := by decide +kernel
theorem dX8_told_99 : decode cX8_told 99 = .ok (.invokevirtual 96, 3) := by decide +kernel
theorem dX8_told_102 : decode cX8_told 102 = .ok (.ireturn, 1) := by decide +kernel
theorem dX8_told_103 : decode cX8_told 103 = .ok (.ldc 60, 2) := by decide +kernel
theorem dX8_told_105 : decode cX8_told 105 = .ok (.ireturn, 1) := by decide +kernel
theorem dX8_as_0 : decode cX8_as 0 = .ok (.aload_n 0, 1) := by decide +kernel
theorem dX8_as_1 : decode cX8_as 1 = .ok (.getfield 10, 3) := by decide +kernel
theorem dX8_as_4 : decode cX8_as 4 = .ok (.iload_n 1, 1) := by decide +kernel
theorem dX8_as_5 : decode cX8_as 5 = .ok (.invokevirtual 70, 3) := by decide +kernel
theorem dX8_as_8 : decode cX8_as 8 = .ok (.astore_n 3, 1) := by decide +kernel
theorem dX8_as_9 : decode cX8_as 9 = .ok (.aload_n 3, 1) := by decide +kernel
theorem dX8_as_10 : decode cX8_as 10 = .ok (.ifnull 10, 3) := by decide +kernel
theorem dX8_as_13 : decode cX8_as 13 = .ok (.iload_n 2, 1) := by decide +kernel
theorem dX8_as_14 : decode cX8_as 14 = .ok (.invokestatic 52, 3) := by decide +kernel
theorem dX8_as_17 : decode cX8_as 17 = .ok (.ifCond .ne 6, 3) := by decide +kernel
theorem dX8_as_20 : decode cX8_as 20 = .ok (.ldc 60, 2) := by decide +kernel
theorem dX8_as_22 : decode cX8_as 22 = .ok (.ireturn, 1) := by decide +kernel
theorem dX8_as_23 : decode cX8_as 23 = .ok (.aload_n 3, 1) := by decide +kernel
theorem dX8_as_24 : decode cX8_as 24 = .ok (.iload_n 2, 1) := by decide +kernel
theorem dX8_as_25 : decode cX8_as 25 = .ok (.invokevirtual 100, 3) := by decide +kernel
theorem dX8_as_28 : decode cX8_as 28 = .ok (.ifCond .eq 10, 3) := by decide +kernel
theorem dX8_as_31 : decode cX8_as 31 = .ok (.aload_n 3, 1) := by decide +kernel
theorem dX8_as_32 : decode cX8_as 32 = .ok (.getfield 83, 3) := by decide +kernel
theorem dX8_as_35 : decode cX8_as 35 = .ok (.goto 5, 3) := by decide +kernel
theorem dX8_as_38 : decode cX8_as 38 = .ok (.ldc 103, 2) := by decide +kernel
theorem dX8_as_40 : decode cX8_as 40 = .ok (.ireturn, 1) := by decide +kernel
theorem dX8_turns_0 : decode cX8_turns 0 = .ok (.aload_n 0, 1) := by decide +kernel
theorem dX8_turns_1 : decode cX8_turns 1 = .ok (.getfield 10, 3) := by decide +kernel
theorem dX8_turns_4 : decode cX8_turns 4 = .ok (.iload_n 1, 1) := by decide +kernel
theorem dX8_turns_5 : decode cX8_turns 5 = .ok (.invokevirtual 70, 3) := by decide +kernel
theorem dX8_turns_8 : decode cX8_turns 8 = .ok (.astore_n 3, 1) := by decide +kernel
theorem dX8_turns_9 : decode cX8_turns 9 = .ok (.aload_n 3, 1) := by decide +kernel
theorem dX8_turns_10 : decode cX8_turns 10 = .ok (.ifnull 10, 3) := by decide +kernel
theorem dX8_turns_13 : decode cX8_turns 13 = .ok (.iload_n 2, 1) := by decide +kernel
theorem dX8_turns_14 : decode cX8_turns 14 = .ok (.invokestatic 52, 3) := by decide +kernel
theorem dX8_turns_17 : decode cX8_turns 17 = .ok (.ifCond .ne 6, 3) := by decide +kernel
theorem dX8_turns_20 : decode cX8_turns 20 = .ok (.ldc 60, 2) := by decide +kernel
theorem dX8_turns_22 : decode cX8_turns 22 = .ok (.ireturn, 1) := by decide +kernel
theorem dX8_turns_23 : decode cX8_turns 23 = .ok (.aload_n 3, 1) := by decide +kernel
theorem dX8_turns_24 : decode cX8_turns 24 = .ok (.getfield 74, 3) := by decide +kernel
theorem dX8_turns_27 : decode cX8_turns 27 = .ok (.istore 4, 2) := by decide +kernel
theorem dX8_turns_29 : decode cX8_turns 29 = .ok (.aload_n 3, 1) := by decide +kernel
theorem dX8_turns_30 : decode cX8_turns 30 = .ok (.iload_n 2, 1) := by decide +kernel
theorem dX8_turns_31 : decode cX8_turns 31 = .ok (.putfield 74, 3) := by decide +kernel
theorem dX8_turns_34 : decode cX8_turns 34 = .ok (.iload 4, 2) := by decide +kernel
theorem dX8_turns_36 : decode cX8_turns 36 = .ok (.ireturn, 1) := by decide +kernel
theorem dX8_file_0 : decode cX8_file 0 = .ok (.aload_n 0, 1) := by decide +kernel
theorem dX8_file_1 : decode cX8_file 1 = .ok (.getfield 10, 3) := by decide +kernel
theorem dX8_file_4 : decode cX8_file 4 = .ok (.iload_n 1, 1) := by decide +kernel
theorem dX8_file_5 : decode cX8_file 5 = .ok (.invokevirtual 70, 3) := by decide +kernel
theorem dX8_file_8 : decode cX8_file 8 = .ok (.astore_n 3, 1) := by decide +kernel
theorem dX8_file_9 : decode cX8_file 9 = .ok (.aload_n 3, 1) := by decide +kernel
theorem dX8_file_10 : decode cX8_file 10 = .ok (.ifnull 14, 3) := by decide +kernel
theorem dX8_file_13 : decode cX8_file 13 = .ok (.iload_n 2, 1) := by decide +kernel
theorem dX8_file_14 : decode cX8_file 14 = .ok (.iconst 0, 1) := by decide +kernel
theorem dX8_file_15 : decode cX8_file 15 = .ok (.sipush 999, 3) := by decide +kernel
theorem dX8_file_18 : decode cX8_file 18 = .ok (.invokestatic 56, 3) := by decide +kernel
theorem dX8_file_21 : decode cX8_file 21 = .ok (.ifCond .ne 6, 3) := by decide +kernel
theorem dX8_file_24 : decode cX8_file 24 = .ok (.ldc 60, 2) := by decide +kernel
theorem dX8_file_26 : decode cX8_file 26 = .ok (.ireturn, 1) := by decide +kernel
theorem dX8_file_27 : decode cX8_file 27 = .ok (.aload_n 3, 1) := by decide +kernel
theorem dX8_file_28 : decode cX8_file 28 = .ok (.getfield 83, 3) := by decide +kernel
theorem dX8_file_31 : decode cX8_file 31 = .ok (.istore 4, 2) := by decide +kernel
theorem dX8_file_33 : decode cX8_file 33 = .ok (.aload_n 3, 1) := by decide +kernel
theorem dX8_file_34 : decode cX8_file 34 = .ok (.iload_n 2, 1) := by decide +kernel
theorem dX8_file_35 : decode cX8_file 35 = .ok (.putfield 83, 3) := by decide +kernel
theorem dX8_file_38 : decode cX8_file 38 = .ok (.iload 4, 2) := by decide +kernel
theorem dX8_file_40 : decode cX8_file 40 = .ok (.ireturn, 1) := by decide +kernel
theorem dX8_arm_0 : decode cX8_arm 0 = .ok (.iload_n 1, 1) := by decide +kernel
theorem dX8_arm_1 : decode cX8_arm 1 = .ok (.iconst 0, 1) := by decide +kernel
theorem dX8_arm_2 : decode cX8_arm 2 = .ok (.iconst 3, 1) := by decide +kernel
theorem dX8_arm_3 : decode cX8_arm 3 = .ok (.invokestatic 56, 3) := by decide +kernel
theorem dX8_arm_6 : decode cX8_arm 6 = .ok (.ifCond .eq 23, 3) := by decide +kernel
theorem dX8_arm_9 : decode cX8_arm 9 = .ok (.iload_n 2, 1) := by decide +kernel
theorem dX8_arm_10 : decode cX8_arm 10 = .ok (.iconst 0, 1) := by decide +kernel
theorem dX8_arm_11 : decode cX8_arm 11 = .ok (.iconst 1, 1) := by decide +kernel
theorem dX8_arm_12 : decode cX8_arm 12 = .ok (.invokestatic 56, 3) := by decide +kernel
theorem dX8_arm_15 : decode cX8_arm 15 = .ok (.ifCond .eq 14, 3) := by decide +kernel
theorem dX8_arm_18 : decode cX8_arm 18 = .ok (.iload_n 3, 1) := by decide +kernel
theorem dX8_arm_19 : decode cX8_arm 19 = .ok (.bipush 90, 2) := by decide +kernel
theorem dX8_arm_21 : decode cX8_arm 21 = .ok (.bipush 110, 2) := by decide +kernel
theorem dX8_arm_23 : decode cX8_arm 23 = .ok (.invokestatic 56, 3) := by decide +kernel
theorem dX8_arm_26 : decode cX8_arm 26 = .ok (.ifCond .ne 6, 3) := by decide +kernel
theorem dX8_arm_29 : decode cX8_arm 29 = .ok (.ldc 60, 2) := by decide +kernel
theorem dX8_arm_31 : decode cX8_arm 31 = .ok (.ireturn, 1) := by decide +kernel
theorem dX8_arm_32 : decode cX8_arm 32 = .ok (.aload_n 0, 1) := by decide +kernel
theorem dX8_arm_33 : decode cX8_arm 33 = .ok (.getfield 10, 3) := by decide +kernel
theorem dX8_arm_36 : decode cX8_arm 36 = .ok (.iload_n 1, 1) := by decide +kernel
theorem dX8_arm_37 : decode cX8_arm 37 = .ok (.iload_n 2, 1) := by decide +kernel
theorem dX8_arm_38 : decode cX8_arm 38 = .ok (.invokevirtual 104, 3) := by decide +kernel
theorem dX8_arm_41 : decode cX8_arm 41 = .ok (.istore 4, 2) := by decide +kernel
theorem dX8_arm_43 : decode cX8_arm 43 = .ok (.aload_n 0, 1) := by decide +kernel
theorem dX8_arm_44 : decode cX8_arm 44 = .ok (.getfield 10, 3) := by decide +kernel
theorem dX8_arm_47 : decode cX8_arm 47 = .ok (.iload_n 1, 1) := by decide +kernel
theorem dX8_arm_48 : decode cX8_arm 48 = .ok (.iload_n 2, 1) := by decide +kernel
theorem dX8_arm_49 : decode cX8_arm 49 = .ok (.iload_n 3, 1) := by decide +kernel
theorem dX8_arm_50 : decode cX8_arm 50 = .ok (.invokevirtual 107, 3) := by decide +kernel
theorem dX8_arm_53 : decode cX8_arm 53 = .ok (.iload 4, 2) := by decide +kernel
theorem dX8_arm_55 : decode cX8_arm 55 = .ok (.ireturn, 1) := by decide +kernel
theorem dX8_deal_0 : decode cX8_deal 0 = .ok (.iload_n 1, 1) := by decide +kernel
theorem dX8_deal_1 : decode cX8_deal 1 = .ok (.iconst 1, 1) := by decide +kernel
theorem dX8_deal_2 : decode cX8_deal 2 = .ok (.bipush 10, 2) := by decide +kernel
theorem dX8_deal_4 : decode cX8_deal 4 = .ok (.invokestatic 56, 3) := by decide +kernel
theorem dX8_deal_7 : decode cX8_deal 7 = .ok (.ifCond .ne 6, 3) := by decide +kernel
theorem dX8_deal_10 : decode cX8_deal 10 = .ok (.ldc 60, 2) := by decide +kernel
theorem dX8_deal_12 : decode cX8_deal 12 = .ok (.ireturn, 1) := by decide +kernel
theorem dX8_deal_13 : decode cX8_deal 13 = .ok (.iconst 0, 1) := by decide +kernel
theorem dX8_deal_14 : decode cX8_deal 14 = .ok (.istore_n 2, 1) := by decide +kernel
theorem dX8_deal_15 : decode cX8_deal 15 = .ok (.iload_n 2, 1) := by decide +kernel
theorem dX8_deal_16 : decode cX8_deal 16 = .ok (.iload_n 1, 1) := by decide +kernel
theorem dX8_deal_17 : decode cX8_deal 17 = .ok (.if_icmp .ge 26, 3) := by decide +kernel
theorem dX8_deal_20 : decode cX8_deal 20 = .ok (.aload_n 0, 1) := by decide +kernel
theorem dX8_deal_21 : decode cX8_deal 21 = .ok (.getfield 10, 3) := by decide +kernel
theorem dX8_deal_24 : decode cX8_deal 24 = .ok (.invokevirtual 61, 3) := by decide +kernel
theorem dX8_deal_27 : decode cX8_deal 27 = .ok (.ifCond .eq 16, 3) := by decide +kernel
theorem dX8_deal_30 : decode cX8_deal 30 = .ok (.aload_n 0, 1) := by decide +kernel
theorem dX8_deal_31 : decode cX8_deal 31 = .ok (.getfield 10, 3) := by decide +kernel
theorem dX8_deal_34 : decode cX8_deal 34 = .ok (.invokevirtual 111, 3) := by decide +kernel
theorem dX8_deal_37 : decode cX8_deal 37 = .ok (.iinc 2 1, 3) := by decide +kernel
theorem dX8_deal_40 : decode cX8_deal 40 = .ok (.goto (-25), 3) := by decide +kernel
theorem dX8_deal_43 : decode cX8_deal 43 = .ok (.iload_n 2, 1) := by decide +kernel
theorem dX8_deal_44 : decode cX8_deal 44 = .ok (.ireturn, 1) := by decide +kernel
theorem dX8_seed_0 : decode cX8_seed 0 = .ok (.aload_n 0, 1) := by decide +kernel
theorem dX8_seed_1 : decode cX8_seed 1 = .ok (.getfield 10, 3) := by decide +kernel
theorem dX8_seed_4 : decode cX8_seed 4 = .ok (.getfield 114, 3) := by decide +kernel
theorem dX8_seed_7 : decode cX8_seed 7 = .ok (.istore_n 2, 1) := by decide +kernel
theorem dX8_seed_8 : decode cX8_seed 8 = .ok (.aload_n 0, 1) := by decide +kernel
theorem dX8_seed_9 : decode cX8_seed 9 = .ok (.getfield 10, 3) := by decide +kernel
theorem dX8_seed_12 : decode cX8_seed 12 = .ok (.iload_n 1, 1) := by decide +kernel
theorem dX8_seed_13 : decode cX8_seed 13 = .ok (.putfield 114, 3) := by decide +kernel
theorem dX8_seed_16 : decode cX8_seed 16 = .ok (.iload_n 2, 1) := by decide +kernel
theorem dX8_seed_17 : decode cX8_seed 17 = .ok (.ireturn, 1) := by decide +kernel
theorem dX8_weigh_0 : decode cX8_weigh 0 = .ok (.aload_n 0, 1) := by decide +kernel
theorem dX8_weigh_1 : decode cX8_weigh 1 = .ok (.iload_n 1, 1) := by decide +kernel
theorem dX8_weigh_2 : decode cX8_weigh 2 = .ok (.iload_n 2, 1) := by decide +kernel
theorem dX8_weigh_3 : decode cX8_weigh 3 = .ok (.iload_n 3, 1) := by decide +kernel
theorem dX8_weigh_4 : decode cX8_weigh 4 = .ok (.invokevirtual 117, 3) := by decide +kernel
theorem dX8_weigh_7 : decode cX8_weigh 7 = .ok (.istore 4, 2) := by decide +kernel
theorem dX8_weigh_9 : decode cX8_weigh 9 = .ok (.iload 4, 2) := by decide +kernel
theorem dX8_weigh_11 : decode cX8_weigh 11 = .ok (.ifCond .lt 45, 3) := by decide +kernel
theorem dX8_weigh_14 : decode cX8_weigh 14 = .ok (.aload_n 0, 1) := by decide +kernel
theorem dX8_weigh_15 : decode cX8_weigh 15 = .ok (.getfield 10, 3) := by decide +kernel
theorem dX8_weigh_18 : decode cX8_weigh 18 = .ok (.iload_n 2, 1) := by decide +kernel
theorem dX8_weigh_19 : decode cX8_weigh 19 = .ok (.iload_n 3, 1) := by decide +kernel
theorem dX8_weigh_20 : decode cX8_weigh 20 = .ok (.ior, 1) := by decide +kernel
theorem dX8_weigh_21 : decode cX8_weigh 21 = .ok (.invokevirtual 121, 3) := by decide +kernel
theorem dX8_weigh_24 : decode cX8_weigh 24 = .ok (.aload_n 0, 1) := by decide +kernel
theorem dX8_weigh_25 : decode cX8_weigh 25 = .ok (.getfield 10, 3) := by decide +kernel
theorem dX8_weigh_28 : decode cX8_weigh 28 = .ok (.getfield 125, 3) := by decide +kernel
theorem dX8_weigh_31 : decode cX8_weigh 31 = .ok (.iload_n 2, 1) := by decide +kernel
theorem dX8_weigh_32 : decode cX8_weigh 32 = .ok (.iload_n 3, 1) := by decide +kernel
theorem dX8_weigh_33 : decode cX8_weigh 33 = .ok (.iload 4, 2) := by decide +kernel
theorem dX8_weigh_35 : decode cX8_weigh 35 = .ok (.aload_n 0, 1) := by decide +kernel
theorem dX8_weigh_36 : decode cX8_weigh 36 = .ok (.getfield 10, 3) := by decide +kernel
theorem dX8_weigh_39 : decode cX8_weigh 39 = .ok (.iload_n 1, 1) := by decide +kernel
theorem dX8_weigh_40 : decode cX8_weigh 40 = .ok (.iconst 0, 1) := by decide +kernel
theorem dX8_weigh_41 : decode cX8_weigh 41 = .ok (.invokevirtual 104, 3) := by decide +kernel
theorem dX8_weigh_44 : decode cX8_weigh 44 = .ok (.aload_n 0, 1) := by decide +kernel
theorem dX8_weigh_45 : decode cX8_weigh 45 = .ok (.getfield 10, 3) := by decide +kernel
theorem dX8_weigh_48 : decode cX8_weigh 48 = .ok (.iload_n 1, 1) := by decide +kernel
theorem dX8_weigh_49 : decode cX8_weigh 49 = .ok (.iconst 1, 1) := by decide +kernel
theorem dX8_weigh_50 : decode cX8_weigh 50 = .ok (.invokevirtual 104, 3) := by decide +kernel
theorem dX8_weigh_53 : decode cX8_weigh 53 = .ok (.invokevirtual 129, 3) := by decide +kernel
theorem dX8_weigh_56 : decode cX8_weigh 56 = .ok (.iload 4, 2) := by decide +kernel
theorem dX8_weigh_58 : decode cX8_weigh 58 = .ok (.ireturn, 1) := by decide +kernel
theorem dX8_said_0 : decode cX8_said 0 = .ok (.aload_n 0, 1) := by decide +kernel
theorem dX8_said_1 : decode cX8_said 1 = .ok (.iload_n 1, 1) := by decide +kernel
theorem dX8_said_2 : decode cX8_said 2 = .ok (.iload_n 2, 1) := by decide +kernel
theorem dX8_said_3 : decode cX8_said 3 = .ok (.iload_n 3, 1) := by decide +kernel
theorem dX8_said_4 : decode cX8_said 4 = .ok (.invokevirtual 117, 3) := by decide +kernel
theorem dX8_said_7 : decode cX8_said 7 = .ok (.ireturn, 1) := by decide +kernel
theorem dX8_fall_0 : decode cX8_fall 0 = .ok (.aload_n 0, 1) := by decide +kernel
theorem dX8_fall_1 : decode cX8_fall 1 = .ok (.getfield 10, 3) := by decide +kernel
theorem dX8_fall_4 : decode cX8_fall 4 = .ok (.iload_n 1, 1) := by decide +kernel
theorem dX8_fall_5 : decode cX8_fall 5 = .ok (.invokevirtual 70, 3) := by decide +kernel
theorem dX8_fall_8 : decode cX8_fall 8 = .ok (.astore_n 2, 1) := by decide +kernel
theorem dX8_fall_9 : decode cX8_fall 9 = .ok (.aload_n 2, 1) := by decide +kernel
theorem dX8_fall_10 : decode cX8_fall 10 = .ok (.ifnonnull 8, 3) := by decide +kernel
theorem dX8_fall_13 : decode cX8_fall 13 = .ok (.ldc 60, 2) := by decide +kernel
theorem dX8_fall_15 : decode cX8_fall 15 = .ok (.goto 11, 3) := by decide +kernel
theorem dX8_fall_18 : decode cX8_fall 18 = .ok (.aload_n 0, 1) := by decide +kernel
theorem dX8_fall_19 : decode cX8_fall 19 = .ok (.getfield 10, 3) := by decide +kernel
theorem dX8_fall_22 : decode cX8_fall 22 = .ok (.aload_n 2, 1) := by decide +kernel
theorem dX8_fall_23 : decode cX8_fall 23 = .ok (.invokevirtual 135, 3) := by decide +kernel
theorem dX8_fall_26 : decode cX8_fall 26 = .ok (.ireturn, 1) := by decide +kernel
theorem dX8_shoot_0 : decode cX8_shoot 0 = .ok (.aload_n 0, 1) := by decide +kernel
theorem dX8_shoot_1 : decode cX8_shoot 1 = .ok (.getfield 10, 3) := by decide +kernel
theorem dX8_shoot_4 : decode cX8_shoot 4 = .ok (.iload_n 1, 1) := by decide +kernel
theorem dX8_shoot_5 : decode cX8_shoot 5 = .ok (.invokevirtual 70, 3) := by decide +kernel
theorem dX8_shoot_8 : decode cX8_shoot 8 = .ok (.astore_n 3, 1) := by decide +kernel
theorem dX8_shoot_9 : decode cX8_shoot 9 = .ok (.aload_n 3, 1) := by decide +kernel
theorem dX8_shoot_10 : decode cX8_shoot 10 = .ok (.ifnull 14, 3) := by decide +kernel
theorem dX8_shoot_13 : decode cX8_shoot 13 = .ok (.iload_n 2, 1) := by decide +kernel
theorem dX8_shoot_14 : decode cX8_shoot 14 = .ok (.iconst 1, 1) := by decide +kernel
theorem dX8_shoot_15 : decode cX8_shoot 15 = .ok (.sipush 999, 3) := by decide +kernel
theorem dX8_shoot_18 : decode cX8_shoot 18 = .ok (.invokestatic 56, 3) := by decide +kernel
theorem dX8_shoot_21 : decode cX8_shoot 21 = .ok (.ifCond .ne 6, 3) := by decide +kernel
theorem dX8_shoot_24 : decode cX8_shoot 24 = .ok (.ldc 60, 2) := by decide +kernel
theorem dX8_shoot_26 : decode cX8_shoot 26 = .ok (.ireturn, 1) := by decide +kernel
theorem dX8_shoot_27 : decode cX8_shoot 27 = .ok (.aload_n 0, 1) := by decide +kernel
theorem dX8_shoot_28 : decode cX8_shoot 28 = .ok (.getfield 10, 3) := by decide +kernel
theorem dX8_shoot_31 : decode cX8_shoot 31 = .ok (.aload_n 3, 1) := by decide +kernel
theorem dX8_shoot_32 : decode cX8_shoot 32 = .ok (.iload_n 2, 1) := by decide +kernel
theorem dX8_shoot_33 : decode cX8_shoot 33 = .ok (.invokevirtual 138, 3) := by decide +kernel
theorem dX8_shoot_36 : decode cX8_shoot 36 = .ok (.ireturn, 1) := by decide +kernel
theorem dX8_monday_0 : decode cX8_monday 0 = .ok (.aload_n 0, 1) := by decide +kernel
theorem dX8_monday_1 : decode cX8_monday 1 = .ok (.getfield 10, 3) := by decide +kernel
theorem dX8_monday_4 : decode cX8_monday 4 = .ok (.invokevirtual 142, 3) := by decide +kernel
theorem dX8_monday_7 : decode cX8_monday 7 = .ok (.ireturn, 1) := by decide +kernel
theorem dX8_days_0 : decode cX8_days 0 = .ok (.iload_n 1, 1) := by decide +kernel
theorem dX8_days_1 : decode cX8_days 1 = .ok (.iconst 1, 1) := by decide +kernel
theorem dX8_days_2 : decode cX8_days 2 = .ok (.bipush 60, 2) := by decide +kernel
theorem dX8_days_4 : decode cX8_days 4 = .ok (.invokestatic 56, 3) := by decide +kernel
theorem dX8_days_7 : decode cX8_days 7 = .ok (.ifCond .ne 6, 3) := by decide +kernel
theorem dX8_days_10 : decode cX8_days 10 = .ok (.ldc 60, 2) := by decide +kernel
theorem dX8_days_12 : decode cX8_days 12 = .ok (.ireturn, 1) := by decide +kernel
theorem dX8_days_13 : decode cX8_days 13 = .ok (.iconst 0, 1) := by decide +kernel
theorem dX8_days_14 : decode cX8_days 14 = .ok (.istore_n 2, 1) := by decide +kernel
theorem dX8_days_15 : decode cX8_days 15 = .ok (.iconst 0, 1) := by decide +kernel
theorem dX8_days_16 : decode cX8_days 16 = .ok (.istore_n 3, 1) := by decide +kernel
theorem dX8_days_17 : decode cX8_days 17 = .ok (.iload_n 3, 1) := by decide +kernel
theorem dX8_days_18 : decode cX8_days 18 = .ok (.iload_n 1, 1) := by decide +kernel
theorem dX8_days_19 : decode cX8_days 19 = .ok (.if_icmp .ge 32, 3) := by decide +kernel
theorem dX8_days_22 : decode cX8_days 22 = .ok (.aload_n 0, 1) := by decide +kernel
theorem dX8_days_23 : decode cX8_days 23 = .ok (.getfield 10, 3) := by decide +kernel
theorem dX8_days_26 : decode cX8_days 26 = .ok (.getfield 145, 3) := by decide +kernel
theorem dX8_days_29 : decode cX8_days 29 = .ok (.sipush 9999, 3) := by decide +kernel
theorem dX8_days_32 : decode cX8_days 32 = .ok (.if_icmp .ge 19, 3) := by decide +kernel
theorem dX8_days_35 : decode cX8_days 35 = .ok (.iload_n 2, 1) := by decide +kernel
theorem dX8_days_36 : decode cX8_days 36 = .ok (.aload_n 0, 1) := by decide +kernel
theorem dX8_days_37 : decode cX8_days 37 = .ok (.getfield 10, 3) := by decide +kernel
theorem dX8_days_40 : decode cX8_days 40 = .ok (.invokevirtual 148, 3) := by decide +kernel
theorem dX8_days_43 : decode cX8_days 43 = .ok (.iadd, 1) := by decide +kernel
theorem dX8_days_44 : decode cX8_days 44 = .ok (.istore_n 2, 1) := by decide +kernel
theorem dX8_days_45 : decode cX8_days 45 = .ok (.iinc 3 1, 3) := by decide +kernel
theorem dX8_days_48 : decode cX8_days 48 = .ok (.goto (-31), 3) := by decide +kernel
theorem dX8_days_51 : decode cX8_days 51 = .ok (.iload_n 2, 1) := by decide +kernel
theorem dX8_days_52 : decode cX8_days 52 = .ok (.ireturn, 1) := by decide +kernel
theorem dX8_page_0 : decode cX8_page 0 = .ok (.iload_n 2, 1) := by decide +kernel
theorem dX8_page_1 : decode cX8_page 1 = .ok (.iconst 0, 1) := by decide +kernel
theorem dX8_page_2 : decode cX8_page 2 = .ok (.iconst 3, 1) := by decide +kernel
theorem dX8_page_3 : decode cX8_page 3 = .ok (.invokestatic 56, 3) := by decide +kernel
theorem dX8_page_6 : decode cX8_page 6 = .ok (.ifCond .ne 6, 3) := by decide +kernel
theorem dX8_page_9 : decode cX8_page 9 = .ok (.ldc 60, 2) := by decide +kernel
theorem dX8_page_11 : decode cX8_page 11 = .ok (.ireturn, 1) := by decide +kernel
theorem dX8_page_12 : decode cX8_page 12 = .ok (.aload_n 0, 1) := by decide +kernel
theorem dX8_page_13 : decode cX8_page 13 = .ok (.getfield 10, 3) := by decide +kernel
theorem dX8_page_16 : decode cX8_page 16 = .ok (.getfield 125, 3) := by decide +kernel
theorem dX8_page_19 : decode cX8_page 19 = .ok (.iload_n 1, 1) := by decide +kernel
theorem dX8_page_20 : decode cX8_page 20 = .ok (.invokevirtual 151, 3) := by decide +kernel
theorem dX8_page_23 : decode cX8_page 23 = .ok (.ifCond .ne 6, 3) := by decide +kernel
theorem dX8_page_26 : decode cX8_page 26 = .ok (.ldc 154, 2) := by decide +kernel
theorem dX8_page_28 : decode cX8_page 28 = .ok (.ireturn, 1) := by decide +kernel
theorem dX8_page_29 : decode cX8_page 29 = .ok (.iload_n 2, 1) := by decide +kernel
theorem dX8_page_30 : decode cX8_page 30 = .ok (.iconst 3, 1) := by decide +kernel
theorem dX8_page_31 : decode cX8_page 31 = .ok (.if_icmp .ne 21, 3) := by decide +kernel
theorem dX8_page_34 : decode cX8_page 34 = .ok (.aload_n 0, 1) := by decide +kernel
theorem dX8_page_35 : decode cX8_page 35 = .ok (.getfield 10, 3) := by decide +kernel
theorem dX8_page_38 : decode cX8_page 38 = .ok (.iload_n 1, 1) := by decide +kernel
theorem dX8_page_39 : decode cX8_page 39 = .ok (.iconst 0, 1) := by decide +kernel
theorem dX8_page_40 : decode cX8_page 40 = .ok (.invokevirtual 155, 3) := by decide +kernel
theorem dX8_page_43 : decode cX8_page 43 = .ok (.ifCond .eq 7, 3) := by decide +kernel
theorem dX8_page_46 : decode cX8_page 46 = .ok (.iconst 1, 1) := by decide +kernel
theorem dX8_page_47 : decode cX8_page 47 = .ok (.goto 4, 3) := by decide +kernel
theorem dX8_page_50 : decode cX8_page 50 = .ok (.iconst 0, 1) := by decide +kernel
theorem dX8_page_51 : decode cX8_page 51 = .ok (.ireturn, 1) := by decide +kernel
theorem dX8_page_52 : decode cX8_page 52 = .ok (.aload_n 0, 1) := by decide +kernel
theorem dX8_page_53 : decode cX8_page 53 = .ok (.getfield 10, 3) := by decide +kernel
theorem dX8_page_56 : decode cX8_page 56 = .ok (.getfield 125, 3) := by decide +kernel
theorem dX8_page_59 : decode cX8_page 59 = .ok (.iload_n 1, 1) := by decide +kernel
theorem dX8_page_60 : decode cX8_page 60 = .ok (.iload_n 2, 1) := by decide +kernel
theorem dX8_page_61 : decode cX8_page 61 = .ok (.invokevirtual 159, 3) := by decide +kernel
theorem dX8_page_64 : decode cX8_page 64 = .ok (.ireturn, 1) := by decide +kernel
theorem dX8_behind_0 : decode cX8_behind 0 = .ok (.aload_n 0, 1) := by decide +kernel
theorem dX8_behind_1 : decode cX8_behind 1 = .ok (.getfield 10, 3) := by decide +kernel
theorem dX8_behind_4 : decode cX8_behind 4 = .ok (.iload_n 1, 1) := by decide +kernel
theorem dX8_behind_5 : decode cX8_behind 5 = .ok (.invokevirtual 70, 3) := by decide +kernel
theorem dX8_behind_8 : decode cX8_behind 8 = .ok (.astore_n 3, 1) := by decide +kernel
theorem dX8_behind_9 : decode cX8_behind 9 = .ok (.aload_n 3, 1) := by decide +kernel
theorem dX8_behind_10 : decode cX8_behind 10 = .ok (.ifnull 14, 3) := by decide +kernel
theorem dX8_behind_13 : decode cX8_behind 13 = .ok (.iload_n 2, 1) := by decide +kernel
theorem dX8_behind_14 : decode cX8_behind 14 = .ok (.iconst 0, 1) := by decide +kernel
theorem dX8_behind_15 : decode cX8_behind 15 = .ok (.sipush 500, 3) := by decide +kernel
theorem dX8_behind_18 : decode cX8_behind 18 = .ok (.invokestatic 56, 3) := by decide +kernel
theorem dX8_behind_21 : decode cX8_behind 21 = .ok (.ifCond .ne 6, 3) := by decide +kernel
theorem dX8_behind_24 : decode cX8_behind 24 = .ok (.ldc 60, 2) := by decide +kernel
theorem dX8_behind_26 : decode cX8_behind 26 = .ok (.ireturn, 1) := by decide +kernel
theorem dX8_behind_27 : decode cX8_behind 27 = .ok (.aload_n 0, 1) := by decide +kernel
theorem dX8_behind_28 : decode cX8_behind 28 = .ok (.getfield 10, 3) := by decide +kernel
theorem dX8_behind_31 : decode cX8_behind 31 = .ok (.aload_n 3, 1) := by decide +kernel
theorem dX8_behind_32 : decode cX8_behind 32 = .ok (.invokevirtual 162, 3) := by decide +kernel
theorem dX8_behind_35 : decode cX8_behind 35 = .ok (.astore 4, 2) := by decide +kernel
theorem dX8_behind_37 : decode cX8_behind 37 = .ok (.iconst 0, 1) := by decide +kernel
theorem dX8_behind_38 : decode cX8_behind 38 = .ok (.istore 5, 2) := by decide +kernel
theorem dX8_behind_40 : decode cX8_behind 40 = .ok (.iload 5, 2) := by decide +kernel
theorem dX8_behind_42 : decode cX8_behind 42 = .ok (.iload_n 2, 1) := by decide +kernel
theorem dX8_behind_43 : decode cX8_behind 43 = .ok (.if_icmp .ge 18, 3) := by decide +kernel
theorem dX8_behind_46 : decode cX8_behind 46 = .ok (.aload_n 0, 1) := by decide +kernel
theorem dX8_behind_47 : decode cX8_behind 47 = .ok (.getfield 10, 3) := by decide +kernel
theorem dX8_behind_50 : decode cX8_behind 50 = .ok (.aload 4, 2) := by decide +kernel
theorem dX8_behind_52 : decode cX8_behind 52 = .ok (.invokevirtual 166, 3) := by decide +kernel
theorem dX8_behind_55 : decode cX8_behind 55 = .ok (.iinc 5 1, 3) := by decide +kernel
theorem dX8_behind_58 : decode cX8_behind 58 = .ok (.goto (-18), 3) := by decide +kernel
theorem dX8_behind_61 : decode cX8_behind 61 = .ok (.aload 4, 2) := by decide +kernel
theorem dX8_behind_63 : decode cX8_behind 63 = .ok (.getfield 83, 3) := by decide +kernel
theorem dX8_behind_66 : decode cX8_behind 66 = .ok (.ireturn, 1) := by decide +kernel
theorem dX8_lasts_0 : decode cX8_lasts 0 = .ok (.aload_n 0, 1) := by decide +kernel
theorem dX8_lasts_1 : decode cX8_lasts 1 = .ok (.getfield 10, 3) := by decide +kernel
theorem dX8_lasts_4 : decode cX8_lasts 4 = .ok (.iload_n 1, 1) := by decide +kernel
theorem dX8_lasts_5 : decode cX8_lasts 5 = .ok (.invokevirtual 70, 3) := by decide +kernel
theorem dX8_lasts_8 : decode cX8_lasts 8 = .ok (.astore_n 3, 1) := by decide +kernel
theorem dX8_lasts_9 : decode cX8_lasts 9 = .ok (.aload_n 3, 1) := by decide +kernel
theorem dX8_lasts_10 : decode cX8_lasts 10 = .ok (.ifnull 14, 3) := by decide +kernel
theorem dX8_lasts_13 : decode cX8_lasts 13 = .ok (.iload_n 2, 1) := by decide +kernel
theorem dX8_lasts_14 : decode cX8_lasts 14 = .ok (.iconst 1, 1) := by decide +kernel
theorem dX8_lasts_15 : decode cX8_lasts 15 = .ok (.sipush 999, 3) := by decide +kernel
theorem dX8_lasts_18 : decode cX8_lasts 18 = .ok (.invokestatic 56, 3) := by decide +kernel
theorem dX8_lasts_21 : decode cX8_lasts 21 = .ok (.ifCond .ne 6, 3) := by decide +kernel
theorem dX8_lasts_24 : decode cX8_lasts 24 = .ok (.ldc 60, 2) := by decide +kernel
theorem dX8_lasts_26 : decode cX8_lasts 26 = .ok (.ireturn, 1) := by decide +kernel
theorem dX8_lasts_27 : decode cX8_lasts 27 = .ok (.aload_n 0, 1) := by decide +kernel
theorem dX8_lasts_28 : decode cX8_lasts 28 = .ok (.getfield 10, 3) := by decide +kernel
theorem dX8_lasts_31 : decode cX8_lasts 31 = .ok (.aload_n 3, 1) := by decide +kernel
theorem dX8_lasts_32 : decode cX8_lasts 32 = .ok (.invokevirtual 162, 3) := by decide +kernel
theorem dX8_lasts_35 : decode cX8_lasts 35 = .ok (.astore 4, 2) := by decide +kernel
theorem dX8_lasts_37 : decode cX8_lasts 37 = .ok (.iconst 0, 1) := by decide +kernel
theorem dX8_lasts_38 : decode cX8_lasts 38 = .ok (.istore 5, 2) := by decide +kernel
theorem dX8_lasts_40 : decode cX8_lasts 40 = .ok (.iload 5, 2) := by decide +kernel
theorem dX8_lasts_42 : decode cX8_lasts 42 = .ok (.sipush 999, 3) := by decide +kernel
theorem dX8_lasts_45 : decode cX8_lasts 45 = .ok (.if_icmp .ge 27, 3) := by decide +kernel
theorem dX8_lasts_48 : decode cX8_lasts 48 = .ok (.aload 4, 2) := by decide +kernel
theorem dX8_lasts_50 : decode cX8_lasts 50 = .ok (.getfield 83, 3) := by decide +kernel
theorem dX8_lasts_53 : decode cX8_lasts 53 = .ok (.iload_n 2, 1) := by decide +kernel
theorem dX8_lasts_54 : decode cX8_lasts 54 = .ok (.if_icmp .lt 18, 3) := by decide +kernel
theorem dX8_lasts_57 : decode cX8_lasts 57 = .ok (.aload_n 0, 1) := by decide +kernel
theorem dX8_lasts_58 : decode cX8_lasts 58 = .ok (.getfield 10, 3) := by decide +kernel
theorem dX8_lasts_61 : decode cX8_lasts 61 = .ok (.aload 4, 2) := by decide +kernel
theorem dX8_lasts_63 : decode cX8_lasts 63 = .ok (.invokevirtual 166, 3) := by decide +kernel
theorem dX8_lasts_66 : decode cX8_lasts 66 = .ok (.iinc 5 1, 3) := by decide +kernel
theorem dX8_lasts_69 : decode cX8_lasts 69 = .ok (.goto (-29), 3) := by decide +kernel
theorem dX8_lasts_72 : decode cX8_lasts 72 = .ok (.iload 5, 2) := by decide +kernel
theorem dX8_lasts_74 : decode cX8_lasts 74 = .ok (.ireturn, 1) := by decide +kernel
theorem dX8_canWeigh_0 : decode cX8_canWeigh 0 = .ok (.aload_n 0, 1) := by decide +kernel
theorem dX8_canWeigh_1 : decode cX8_canWeigh 1 = .ok (.getfield 10, 3) := by decide +kernel
theorem dX8_canWeigh_4 : decode cX8_canWeigh 4 = .ok (.iload_n 1, 1) := by decide +kernel
theorem dX8_canWeigh_5 : decode cX8_canWeigh 5 = .ok (.invokevirtual 170, 3) := by decide +kernel
theorem dX8_canWeigh_8 : decode cX8_canWeigh 8 = .ok (.ifCond .ne 6, 3) := by decide +kernel
theorem dX8_canWeigh_11 : decode cX8_canWeigh 11 = .ok (.ldc 60, 2) := by decide +kernel
theorem dX8_canWeigh_13 : decode cX8_canWeigh 13 = .ok (.ireturn, 1) := by decide +kernel
theorem dX8_canWeigh_14 : decode cX8_canWeigh 14 = .ok (.aload_n 0, 1) := by decide +kernel
theorem dX8_canWeigh_15 : decode cX8_canWeigh 15 = .ok (.getfield 10, 3) := by decide +kernel
theorem dX8_canWeigh_18 : decode cX8_canWeigh 18 = .ok (.invokevirtual 173, 3) := by decide +kernel
theorem dX8_canWeigh_21 : decode cX8_canWeigh 21 = .ok (.aload_n 0, 1) := by decide +kernel
theorem dX8_canWeigh_22 : decode cX8_canWeigh 22 = .ok (.getfield 10, 3) := by decide +kernel
theorem dX8_canWeigh_25 : decode cX8_canWeigh 25 = .ok (.iload_n 1, 1) := by decide +kernel
theorem dX8_canWeigh_26 : decode cX8_canWeigh 26 = .ok (.invokevirtual 176, 3) := by decide +kernel
theorem dX8_canWeigh_29 : decode cX8_canWeigh 29 = .ok (.ireturn, 1) := by decide +kernel
theorem dX8_smallest_0 : decode cX8_smallest 0 = .ok (.iload_n 1, 1) := by decide +kernel
theorem dX8_smallest_1 : decode cX8_smallest 1 = .ok (.iconst 1, 1) := by decide +kernel
theorem dX8_smallest_2 : decode cX8_smallest 2 = .ok (.sipush 999, 3) := by decide +kernel
theorem dX8_smallest_5 : decode cX8_smallest 5 = .ok (.invokestatic 56, 3) := by decide +kernel
theorem dX8_smallest_8 : decode cX8_smallest 8 = .ok (.ifCond .ne 6, 3) := by decide +kernel
theorem dX8_smallest_11 : decode cX8_smallest 11 = .ok (.ldc 60, 2) := by decide +kernel
theorem dX8_smallest_13 : decode cX8_smallest 13 = .ok (.ireturn, 1) := by decide +kernel
theorem dX8_smallest_14 : decode cX8_smallest 14 = .ok (.aload_n 0, 1) := by decide +kernel
theorem dX8_smallest_15 : decode cX8_smallest 15 = .ok (.getfield 10, 3) := by decide +kernel
theorem dX8_smallest_18 : decode cX8_smallest 18 = .ok (.invokevirtual 173, 3) := by decide +kernel
theorem dX8_smallest_21 : decode cX8_smallest 21 = .ok (.ldc 154, 2) := by decide +kernel
theorem dX8_smallest_23 : decode cX8_smallest 23 = .ok (.istore_n 2, 1) := by decide +kernel
theorem dX8_smallest_24 : decode cX8_smallest 24 = .ok (.bipush 11, 2) := by decide +kernel
theorem dX8_smallest_26 : decode cX8_smallest 26 = .ok (.istore_n 3, 1) := by decide +kernel
theorem dX8_smallest_27 : decode cX8_smallest 27 = .ok (.aload_n 0, 1) := by decide +kernel
theorem dX8_smallest_28 : decode cX8_smallest 28 = .ok (.getfield 10, 3) := by decide +kernel
theorem dX8_smallest_31 : decode cX8_smallest 31 = .ok (.invokevirtual 180, 3) := by decide +kernel
theorem dX8_smallest_34 : decode cX8_smallest 34 = .ok (.istore 4, 2) := by decide +kernel
theorem dX8_smallest_36 : decode cX8_smallest 36 = .ok (.iconst 1, 1) := by decide +kernel
theorem dX8_smallest_37 : decode cX8_smallest 37 = .ok (.istore 5, 2) := by decide +kernel
theorem dX8_smallest_39 : decode cX8_smallest 39 = .ok (.iload 5, 2) := by decide +kernel
theorem dX8_smallest_41 : decode cX8_smallest 41 = .ok (.iload 4, 2) := by decide +kernel
theorem dX8_smallest_43 : decode cX8_smallest 43 = .ok (.if_icmp .ge 41, 3) := by decide +kernel
theorem dX8_smallest_46 : decode cX8_smallest 46 = .ok (.iload 5, 2) := by decide +kernel
theorem dX8_smallest_48 : decode cX8_smallest 48 = .ok (.invokestatic 183, 3) := by decide +kernel
theorem dX8_smallest_51 : decode cX8_smallest 51 = .ok (.istore 6, 2) := by decide +kernel
theorem dX8_smallest_53 : decode cX8_smallest 53 = .ok (.iload 6, 2) := by decide +kernel
theorem dX8_smallest_55 : decode cX8_smallest 55 = .ok (.iload_n 3, 1) := by decide +kernel
theorem dX8_smallest_56 : decode cX8_smallest 56 = .ok (.if_icmp .ge 22, 3) := by decide +kernel
theorem dX8_smallest_59 : decode cX8_smallest 59 = .ok (.aload_n 0, 1) := by decide +kernel
theorem dX8_smallest_60 : decode cX8_smallest 60 = .ok (.getfield 10, 3) := by decide +kernel
theorem dX8_smallest_63 : decode cX8_smallest 63 = .ok (.iload 5, 2) := by decide +kernel
theorem dX8_smallest_65 : decode cX8_smallest 65 = .ok (.invokevirtual 176, 3) := by decide +kernel
theorem dX8_smallest_68 : decode cX8_smallest 68 = .ok (.iload_n 1, 1) := by decide +kernel
theorem dX8_smallest_69 : decode cX8_smallest 69 = .ok (.if_icmp .lt 9, 3) := by decide +kernel
theorem dX8_smallest_72 : decode cX8_smallest 72 = .ok (.iload 6, 2) := by decide +kernel
theorem dX8_smallest_74 : decode cX8_smallest 74 = .ok (.istore_n 3, 1) := by decide +kernel
theorem dX8_smallest_75 : decode cX8_smallest 75 = .ok (.iload 5, 2) := by decide +kernel
theorem dX8_smallest_77 : decode cX8_smallest 77 = .ok (.istore_n 2, 1) := by decide +kernel
theorem dX8_smallest_78 : decode cX8_smallest 78 = .ok (.iinc 5 1, 3) := by decide +kernel
theorem dX8_smallest_81 : decode cX8_smallest 81 = .ok (.goto (-42), 3) := by decide +kernel
theorem dX8_smallest_84 : decode cX8_smallest 84 = .ok (.iload_n 2, 1) := by decide +kernel
theorem dX8_smallest_85 : decode cX8_smallest 85 = .ok (.ireturn, 1) := by decide +kernel
theorem dX8_gain_0 : decode cX8_gain 0 = .ok (.iload_n 1, 1) := by decide +kernel
theorem dX8_gain_1 : decode cX8_gain 1 = .ok (.iconst 1, 1) := by decide +kernel
theorem dX8_gain_2 : decode cX8_gain 2 = .ok (.sipush 9990, 3) := by decide +kernel
theorem dX8_gain_5 : decode cX8_gain 5 = .ok (.invokestatic 56, 3) := by decide +kernel
theorem dX8_gain_8 : decode cX8_gain 8 = .ok (.ifCond .eq 12, 3) := by decide +kernel
theorem dX8_gain_11 : decode cX8_gain 11 = .ok (.iload_n 2, 1) := by decide +kernel
theorem dX8_gain_12 : decode cX8_gain 12 = .ok (.iconst 0, 1) := by decide +kernel
theorem dX8_gain_13 : decode cX8_gain 13 = .ok (.iconst 1, 1) := by decide +kernel
theorem dX8_gain_14 : decode cX8_gain 14 = .ok (.invokestatic 56, 3) := by decide +kernel
theorem dX8_gain_17 : decode cX8_gain 17 = .ok (.ifCond .ne 6, 3) := by decide +kernel
theorem dX8_gain_20 : decode cX8_gain 20 = .ok (.ldc 60, 2) := by decide +kernel
theorem dX8_gain_22 : decode cX8_gain 22 = .ok (.ireturn, 1) := by decide +kernel
theorem dX8_gain_23 : decode cX8_gain 23 = .ok (.aload_n 0, 1) := by decide +kernel
theorem dX8_gain_24 : decode cX8_gain 24 = .ok (.getfield 10, 3) := by decide +kernel
theorem dX8_gain_27 : decode cX8_gain 27 = .ok (.iload_n 1, 1) := by decide +kernel
theorem dX8_gain_28 : decode cX8_gain 28 = .ok (.invokevirtual 188, 3) := by decide +kernel
theorem dX8_gain_31 : decode cX8_gain 31 = .ok (.istore_n 3, 1) := by decide +kernel
theorem dX8_gain_32 : decode cX8_gain 32 = .ok (.iload_n 3, 1) := by decide +kernel
theorem dX8_gain_33 : decode cX8_gain 33 = .ok (.ifCond .ne 6, 3) := by decide +kernel
theorem dX8_gain_36 : decode cX8_gain 36 = .ok (.ldc 154, 2) := by decide +kernel
theorem dX8_gain_38 : decode cX8_gain 38 = .ok (.ireturn, 1) := by decide +kernel
theorem dX8_gain_39 : decode cX8_gain 39 = .ok (.iload_n 2, 1) := by decide +kernel
theorem dX8_gain_40 : decode cX8_gain 40 = .ok (.ifCond .ne 16, 3) := by decide +kernel
theorem dX8_gain_43 : decode cX8_gain 43 = .ok (.iload_n 1, 1) := by decide +kernel
theorem dX8_gain_44 : decode cX8_gain 44 = .ok (.aload_n 0, 1) := by decide +kernel
theorem dX8_gain_45 : decode cX8_gain 45 = .ok (.getfield 10, 3) := by decide +kernel
theorem dX8_gain_48 : decode cX8_gain 48 = .ok (.iload_n 3, 1) := by decide +kernel
theorem dX8_gain_49 : decode cX8_gain 49 = .ok (.invokevirtual 191, 3) := by decide +kernel
theorem dX8_gain_52 : decode cX8_gain 52 = .ok (.isub, 1) := by decide +kernel
theorem dX8_gain_53 : decode cX8_gain 53 = .ok (.goto 4, 3) := by decide +kernel
theorem dX8_gain_56 : decode cX8_gain 56 = .ok (.iload_n 3, 1) := by decide +kernel
theorem dX8_gain_57 : decode cX8_gain 57 = .ok (.ireturn, 1) := by decide +kernel
theorem dX8_pound_0 : decode cX8_pound 0 = .ok (.iload_n 1, 1) := by decide +kernel
theorem dX8_pound_1 : decode cX8_pound 1 = .ok (.iconst 0, 1) := by decide +kernel
theorem dX8_pound_2 : decode cX8_pound 2 = .ok (.iconst 1, 1) := by decide +kernel
theorem dX8_pound_3 : decode cX8_pound 3 = .ok (.invokestatic 56, 3) := by decide +kernel
theorem dX8_pound_6 : decode cX8_pound 6 = .ok (.ifCond .ne 6, 3) := by decide +kernel
theorem dX8_pound_9 : decode cX8_pound 9 = .ok (.ldc 60, 2) := by decide +kernel
theorem dX8_pound_11 : decode cX8_pound 11 = .ok (.ireturn, 1) := by decide +kernel
theorem dX8_pound_12 : decode cX8_pound 12 = .ok (.aload_n 0, 1) := by decide +kernel
theorem dX8_pound_13 : decode cX8_pound 13 = .ok (.getfield 10, 3) := by decide +kernel
theorem dX8_pound_16 : decode cX8_pound 16 = .ok (.aload_n 0, 1) := by decide +kernel
theorem dX8_pound_17 : decode cX8_pound 17 = .ok (.getfield 10, 3) := by decide +kernel
theorem dX8_pound_20 : decode cX8_pound 20 = .ok (.invokevirtual 194, 3) := by decide +kernel
theorem dX8_pound_23 : decode cX8_pound 23 = .ok (.invokevirtual 191, 3) := by decide +kernel
theorem dX8_pound_26 : decode cX8_pound 26 = .ok (.istore_n 2, 1) := by decide +kernel
theorem dX8_pound_27 : decode cX8_pound 27 = .ok (.aload_n 0, 1) := by decide +kernel
theorem dX8_pound_28 : decode cX8_pound 28 = .ok (.getfield 10, 3) := by decide +kernel
theorem dX8_pound_31 : decode cX8_pound 31 = .ok (.aload_n 0, 1) := by decide +kernel
theorem dX8_pound_32 : decode cX8_pound 32 = .ok (.getfield 10, 3) := by decide +kernel
theorem dX8_pound_35 : decode cX8_pound 35 = .ok (.invokevirtual 194, 3) := by decide +kernel
theorem dX8_pound_38 : decode cX8_pound 38 = .ok (.invokevirtual 197, 3) := by decide +kernel
theorem dX8_pound_41 : decode cX8_pound 41 = .ok (.istore_n 3, 1) := by decide +kernel
theorem dX8_pound_42 : decode cX8_pound 42 = .ok (.iload_n 3, 1) := by decide +kernel
theorem dX8_pound_43 : decode cX8_pound 43 = .ok (.iload_n 2, 1) := by decide +kernel
theorem dX8_pound_44 : decode cX8_pound 44 = .ok (.invokestatic 200, 3) := by decide +kernel
theorem dX8_pound_47 : decode cX8_pound 47 = .ok (.istore 4, 2) := by decide +kernel
theorem dX8_pound_49 : decode cX8_pound 49 = .ok (.iload 4, 2) := by decide +kernel
theorem dX8_pound_51 : decode cX8_pound 51 = .ok (.ifCond .ne 5, 3) := by decide +kernel
theorem dX8_pound_54 : decode cX8_pound 54 = .ok (.iload_n 1, 1) := by decide +kernel
theorem dX8_pound_55 : decode cX8_pound 55 = .ok (.ireturn, 1) := by decide +kernel
theorem dX8_pound_56 : decode cX8_pound 56 = .ok (.iload_n 1, 1) := by decide +kernel
theorem dX8_pound_57 : decode cX8_pound 57 = .ok (.ifCond .ne 10, 3) := by decide +kernel
theorem dX8_pound_60 : decode cX8_pound 60 = .ok (.iload_n 2, 1) := by decide +kernel
theorem dX8_pound_61 : decode cX8_pound 61 = .ok (.iload 4, 2) := by decide +kernel
theorem dX8_pound_63 : decode cX8_pound 63 = .ok (.idiv, 1) := by decide +kernel
theorem dX8_pound_64 : decode cX8_pound 64 = .ok (.goto 7, 3) := by decide +kernel
theorem dX8_pound_67 : decode cX8_pound 67 = .ok (.iload_n 3, 1) := by decide +kernel
theorem dX8_pound_68 : decode cX8_pound 68 = .ok (.iload 4, 2) := by decide +kernel
theorem dX8_pound_70 : decode cX8_pound 70 = .ok (.idiv, 1) := by decide +kernel
theorem dX8_pound_71 : decode cX8_pound 71 = .ok (.ireturn, 1) := by decide +kernel
theorem dX8_falseOne_0 : decode cX8_falseOne 0 = .ok (.aload_n 0, 1) := by decide +kernel
theorem dX8_falseOne_1 : decode cX8_falseOne 1 = .ok (.getfield 10, 3) := by decide +kernel
theorem dX8_falseOne_4 : decode cX8_falseOne 4 = .ok (.iconst 0, 1) := by decide +kernel
theorem dX8_falseOne_5 : decode cX8_falseOne 5 = .ok (.invokevirtual 203, 3) := by decide +kernel
theorem dX8_falseOne_8 : decode cX8_falseOne 8 = .ok (.istore_n 1, 1) := by decide +kernel
theorem dX8_falseOne_9 : decode cX8_falseOne 9 = .ok (.ldc 154, 2) := by decide +kernel
theorem dX8_falseOne_11 : decode cX8_falseOne 11 = .ok (.istore_n 2, 1) := by decide +kernel
theorem dX8_falseOne_12 : decode cX8_falseOne 12 = .ok (.iconst 0, 1) := by decide +kernel
theorem dX8_falseOne_13 : decode cX8_falseOne 13 = .ok (.istore_n 3, 1) := by decide +kernel
theorem dX8_falseOne_14 : decode cX8_falseOne 14 = .ok (.iload_n 3, 1) := by decide +kernel
theorem dX8_falseOne_15 : decode cX8_falseOne 15 = .ok (.aload_n 0, 1) := by decide +kernel
theorem dX8_falseOne_16 : decode cX8_falseOne 16 = .ok (.getfield 10, 3) := by decide +kernel
theorem dX8_falseOne_19 : decode cX8_falseOne 19 = .ok (.getfield 206, 3) := by decide +kernel
theorem dX8_falseOne_22 : decode cX8_falseOne 22 = .ok (.if_icmp .ge 32, 3) := by decide +kernel
theorem dX8_falseOne_25 : decode cX8_falseOne 25 = .ok (.aload_n 0, 1) := by decide +kernel
theorem dX8_falseOne_26 : decode cX8_falseOne 26 = .ok (.getfield 10, 3) := by decide +kernel
theorem dX8_falseOne_29 : decode cX8_falseOne 29 = .ok (.iconst 1, 1) := by decide +kernel
theorem dX8_falseOne_30 : decode cX8_falseOne 30 = .ok (.iload_n 3, 1) := by decide +kernel
theorem dX8_falseOne_31 : decode cX8_falseOne 31 = .ok (.ishl, 1) := by decide +kernel
theorem dX8_falseOne_32 : decode cX8_falseOne 32 = .ok (.invokevirtual 203, 3) := by decide +kernel
theorem dX8_falseOne_35 : decode cX8_falseOne 35 = .ok (.istore 4, 2) := by decide +kernel
theorem dX8_falseOne_37 : decode cX8_falseOne 37 = .ok (.iload 4, 2) := by decide +kernel
theorem dX8_falseOne_39 : decode cX8_falseOne 39 = .ok (.iload_n 1, 1) := by decide +kernel
theorem dX8_falseOne_40 : decode cX8_falseOne 40 = .ok (.if_icmp .le 8, 3) := by decide +kernel
theorem dX8_falseOne_43 : decode cX8_falseOne 43 = .ok (.iload 4, 2) := by decide +kernel
theorem dX8_falseOne_45 : decode cX8_falseOne 45 = .ok (.istore_n 1, 1) := by decide +kernel
theorem dX8_falseOne_46 : decode cX8_falseOne 46 = .ok (.iload_n 3, 1) := by decide +kernel
theorem dX8_falseOne_47 : decode cX8_falseOne 47 = .ok (.istore_n 2, 1) := by decide +kernel
theorem dX8_falseOne_48 : decode cX8_falseOne 48 = .ok (.iinc 3 1, 3) := by decide +kernel
theorem dX8_falseOne_51 : decode cX8_falseOne 51 = .ok (.goto (-37), 3) := by decide +kernel
theorem dX8_falseOne_54 : decode cX8_falseOne 54 = .ok (.iload_n 2, 1) := by decide +kernel
theorem dX8_falseOne_55 : decode cX8_falseOne 55 = .ok (.ireturn, 1) := by decide +kernel
theorem dX8_fine_0 : decode cX8_fine 0 = .ok (.aload_n 0, 1) := by decide +kernel
theorem dX8_fine_1 : decode cX8_fine 1 = .ok (.getfield 10, 3) := by decide +kernel
theorem dX8_fine_4 : decode cX8_fine 4 = .ok (.iload_n 1, 1) := by decide +kernel
theorem dX8_fine_5 : decode cX8_fine 5 = .ok (.invokevirtual 70, 3) := by decide +kernel
theorem dX8_fine_8 : decode cX8_fine 8 = .ok (.astore_n 2, 1) := by decide +kernel
theorem dX8_fine_9 : decode cX8_fine 9 = .ok (.aload_n 2, 1) := by decide +kernel
theorem dX8_fine_10 : decode cX8_fine 10 = .ok (.ifnonnull 8, 3) := by decide +kernel
theorem dX8_fine_13 : decode cX8_fine 13 = .ok (.ldc 60, 2) := by decide +kernel
theorem dX8_fine_15 : decode cX8_fine 15 = .ok (.goto 11, 3) := by decide +kernel
theorem dX8_fine_18 : decode cX8_fine 18 = .ok (.aload_n 0, 1) := by decide +kernel
theorem dX8_fine_19 : decode cX8_fine 19 = .ok (.getfield 10, 3) := by decide +kernel
theorem dX8_fine_22 : decode cX8_fine 22 = .ok (.aload_n 2, 1) := by decide +kernel
theorem dX8_fine_23 : decode cX8_fine 23 = .ok (.invokevirtual 209, 3) := by decide +kernel
theorem dX8_fine_26 : decode cX8_fine 26 = .ok (.ireturn, 1) := by decide +kernel
theorem dX8_feed_0 : decode cX8_feed 0 = .ok (.aload_n 0, 1) := by decide +kernel
theorem dX8_feed_1 : decode cX8_feed 1 = .ok (.getfield 33, 3) := by decide +kernel
theorem dX8_feed_4 : decode cX8_feed 4 = .ok (.getfield 212, 3) := by decide +kernel
theorem dX8_feed_7 : decode cX8_feed 7 = .ok (.bipush 84, 2) := by decide +kernel
theorem dX8_feed_9 : decode cX8_feed 9 = .ok (.if_icmp .le 6, 3) := by decide +kernel
theorem dX8_feed_12 : decode cX8_feed 12 = .ok (.ldc 65, 2) := by decide +kernel
theorem dX8_feed_14 : decode cX8_feed 14 = .ok (.ireturn, 1) := by decide +kernel
theorem dX8_feed_15 : decode cX8_feed 15 = .ok (.aload_n 0, 1) := by decide +kernel
theorem dX8_feed_16 : decode cX8_feed 16 = .ok (.getfield 33, 3) := by decide +kernel
theorem dX8_feed_19 : decode cX8_feed 19 = .ok (.iload_n 1, 1) := by decide +kernel
theorem dX8_feed_20 : decode cX8_feed 20 = .ok (.invokevirtual 217, 3) := by decide +kernel
theorem dX8_feed_23 : decode cX8_feed 23 = .ok (.aload_n 0, 1) := by decide +kernel
theorem dX8_feed_24 : decode cX8_feed 24 = .ok (.getfield 33, 3) := by decide +kernel
theorem dX8_feed_27 : decode cX8_feed 27 = .ok (.iload_n 2, 1) := by decide +kernel
theorem dX8_feed_28 : decode cX8_feed 28 = .ok (.invokevirtual 217, 3) := by decide +kernel
theorem dX8_feed_31 : decode cX8_feed 31 = .ok (.aload_n 0, 1) := by decide +kernel
theorem dX8_feed_32 : decode cX8_feed 32 = .ok (.getfield 33, 3) := by decide +kernel
theorem dX8_feed_35 : decode cX8_feed 35 = .ok (.iload_n 3, 1) := by decide +kernel
theorem dX8_feed_36 : decode cX8_feed 36 = .ok (.invokevirtual 217, 3) := by decide +kernel
theorem dX8_feed_39 : decode cX8_feed 39 = .ok (.aload_n 0, 1) := by decide +kernel
theorem dX8_feed_40 : decode cX8_feed 40 = .ok (.getfield 33, 3) := by decide +kernel
theorem dX8_feed_43 : decode cX8_feed 43 = .ok (.getfield 212, 3) := by decide +kernel
theorem dX8_feed_46 : decode cX8_feed 46 = .ok (.ireturn, 1) := by decide +kernel
theorem dX8_trim_0 : decode cX8_trim 0 = .ok (.iload_n 1, 1) := by decide +kernel
theorem dX8_trim_1 : decode cX8_trim 1 = .ok (.iconst 0, 1) := by decide +kernel
theorem dX8_trim_2 : decode cX8_trim 2 = .ok (.aload_n 0, 1) := by decide +kernel
theorem dX8_trim_3 : decode cX8_trim 3 = .ok (.getfield 33, 3) := by decide +kernel
theorem dX8_trim_6 : decode cX8_trim 6 = .ok (.getfield 212, 3) := by decide +kernel
theorem dX8_trim_9 : decode cX8_trim 9 = .ok (.invokestatic 56, 3) := by decide +kernel
theorem dX8_trim_12 : decode cX8_trim 12 = .ok (.ifCond .ne 6, 3) := by decide +kernel
theorem dX8_trim_15 : decode cX8_trim 15 = .ok (.ldc 60, 2) := by decide +kernel
theorem dX8_trim_17 : decode cX8_trim 17 = .ok (.ireturn, 1) := by decide +kernel
theorem dX8_trim_18 : decode cX8_trim 18 = .ok (.aload_n 0, 1) := by decide +kernel
theorem dX8_trim_19 : decode cX8_trim 19 = .ok (.getfield 33, 3) := by decide +kernel
theorem dX8_trim_22 : decode cX8_trim 22 = .ok (.iload_n 1, 1) := by decide +kernel
theorem dX8_trim_23 : decode cX8_trim 23 = .ok (.putfield 212, 3) := by decide +kernel
theorem dX8_trim_26 : decode cX8_trim 26 = .ok (.iload_n 1, 1) := by decide +kernel
theorem dX8_trim_27 : decode cX8_trim 27 = .ok (.ireturn, 1) := by decide +kernel
theorem dX8_text_0 : decode cX8_text 0 = .ok (.aload_n 0, 1) := by decide +kernel
theorem dX8_text_1 : decode cX8_text 1 = .ok (.getfield 25, 3) := by decide +kernel
theorem dX8_text_4 : decode cX8_text 4 = .ok (.invokevirtual 220, 3) := by decide +kernel
theorem dX8_text_7 : decode cX8_text 7 = .ok (.astore_n 1, 1) := by decide +kernel
theorem dX8_text_8 : decode cX8_text 8 = .ok (.aload_n 0, 1) := by decide +kernel
theorem dX8_text_9 : decode cX8_text 9 = .ok (.getfield 33, 3) := by decide +kernel
theorem dX8_text_12 : decode cX8_text 12 = .ok (.iconst 0, 1) := by decide +kernel
theorem dX8_text_13 : decode cX8_text 13 = .ok (.putfield 212, 3) := by decide +kernel
theorem dX8_text_16 : decode cX8_text 16 = .ok (.aload_n 1, 1) := by decide +kernel
theorem dX8_text_17 : decode cX8_text 17 = .ok (.ifnonnull 14, 3) := by decide +kernel
theorem dX8_text_20 : decode cX8_text 20 = .ok (.bipush (-100), 2) := by decide +kernel
theorem dX8_text_22 : decode cX8_text 22 = .ok (.aload_n 0, 1) := by decide +kernel
theorem dX8_text_23 : decode cX8_text 23 = .ok (.getfield 25, 3) := by decide +kernel
theorem dX8_text_26 : decode cX8_text 26 = .ok (.invokevirtual 224, 3) := by decide +kernel
theorem dX8_text_29 : decode cX8_text 29 = .ok (.isub, 1) := by decide +kernel
theorem dX8_text_30 : decode cX8_text 30 = .ok (.ireturn, 1) := by decide +kernel
theorem dX8_text_31 : decode cX8_text 31 = .ok (.aload_n 0, 1) := by decide +kernel
theorem dX8_text_32 : decode cX8_text 32 = .ok (.getfield 10, 3) := by decide +kernel
theorem dX8_text_35 : decode cX8_text 35 = .ok (.getfield 227, 3) := by decide +kernel
theorem dX8_text_38 : decode cX8_text 38 = .ok (.bipush 14, 2) := by decide +kernel
theorem dX8_text_40 : decode cX8_text 40 = .ok (.if_icmp .lt 6, 3) := by decide +kernel
theorem dX8_text_43 : decode cX8_text 43 = .ok (.ldc 65, 2) := by decide +kernel
theorem dX8_text_45 : decode cX8_text 45 = .ok (.ireturn, 1) := by decide +kernel
theorem dX8_text_46 : decode cX8_text 46 = .ok (.aload_n 0, 1) := by decide +kernel
theorem dX8_text_47 : decode cX8_text 47 = .ok (.getfield 10, 3) := by decide +kernel
theorem dX8_text_50 : decode cX8_text 50 = .ok (.aload_n 1, 1) := by decide +kernel
theorem dX8_text_51 : decode cX8_text 51 = .ok (.invokevirtual 230, 3) := by decide +kernel
theorem dX8_text_54 : decode cX8_text 54 = .ok (.ireturn, 1) := by decide +kernel
theorem dX8_textTold_0 : decode cX8_textTold 0 = .ok (.aload_n 0, 1) := by decide +kernel
theorem dX8_textTold_1 : decode cX8_textTold 1 = .ok (.getfield 10, 3) := by decide +kernel
theorem dX8_textTold_4 : decode cX8_textTold 4 = .ok (.iload_n 1, 1) := by decide +kernel
theorem dX8_textTold_5 : decode cX8_textTold 5 = .ok (.invokevirtual 234, 3) := by decide +kernel
theorem dX8_textTold_8 : decode cX8_textTold 8 = .ok (.astore_n 3, 1) := by decide +kernel
theorem dX8_textTold_9 : decode cX8_textTold 9 = .ok (.aload_n 3, 1) := by decide +kernel
theorem dX8_textTold_10 : decode cX8_textTold 10 = .ok (.ifnull 12, 3) := by decide +kernel
theorem dX8_textTold_13 : decode cX8_textTold 13 = .ok (.iload_n 2, 1) := by decide +kernel
theorem dX8_textTold_14 : decode cX8_textTold 14 = .ok (.iconst 0, 1) := by decide +kernel
theorem dX8_textTold_15 : decode cX8_textTold 15 = .ok (.iconst 1, 1) := by decide +kernel
theorem dX8_textTold_16 : decode cX8_textTold 16 = .ok (.invokestatic 56, 3) := by decide +kernel
theorem dX8_textTold_19 : decode cX8_textTold 19 = .ok (.ifCond .ne 6, 3) := by decide +kernel
theorem dX8_textTold_22 : decode cX8_textTold 22 = .ok (.ldc 60, 2) := by decide +kernel
theorem dX8_textTold_24 : decode cX8_textTold 24 = .ok (.ireturn, 1) := by decide +kernel
theorem dX8_textTold_25 : decode cX8_textTold 25 = .ok (.iload_n 2, 1) := by decide +kernel
theorem dX8_textTold_26 : decode cX8_textTold 26 = .ok (.ifCond .ne 10, 3) := by decide +kernel
theorem dX8_textTold_29 : decode cX8_textTold 29 = .ok (.aload_n 3, 1) := by decide +kernel
theorem dX8_textTold_30 : decode cX8_textTold 30 = .ok (.getfield 238, 3) := by decide +kernel
theorem dX8_textTold_33 : decode cX8_textTold 33 = .ok (.goto 7, 3) := by decide +kernel
theorem dX8_textTold_36 : decode cX8_textTold 36 = .ok (.aload_n 3, 1) := by decide +kernel
theorem dX8_textTold_37 : decode cX8_textTold 37 = .ok (.getfield 243, 3) := by decide +kernel
theorem dX8_textTold_40 : decode cX8_textTold 40 = .ok (.ireturn, 1) := by decide +kernel
theorem dX8_why_0 : decode cX8_why 0 = .ok (.iload_n 1, 1) := by decide +kernel
theorem dX8_why_1 : decode cX8_why 1 = .ok (.iconst 0, 1) := by decide +kernel
theorem dX8_why_2 : decode cX8_why 2 = .ok (.iconst 2, 1) := by decide +kernel
theorem dX8_why_3 : decode cX8_why 3 = .ok (.invokestatic 56, 3) := by decide +kernel
theorem dX8_why_6 : decode cX8_why 6 = .ok (.ifCond .eq 14, 3) := by decide +kernel
theorem dX8_why_9 : decode cX8_why 9 = .ok (.aload_n 0, 1) := by decide +kernel
theorem dX8_why_10 : decode cX8_why 10 = .ok (.getfield 10, 3) := by decide +kernel
theorem dX8_why_13 : decode cX8_why 13 = .ok (.iload_n 1, 1) := by decide +kernel
theorem dX8_why_14 : decode cX8_why 14 = .ok (.invokevirtual 246, 3) := by decide +kernel
theorem dX8_why_17 : decode cX8_why 17 = .ok (.goto 5, 3) := by decide +kernel
theorem dX8_why_20 : decode cX8_why 20 = .ok (.ldc 60, 2) := by decide +kernel
theorem dX8_why_22 : decode cX8_why 22 = .ok (.ireturn, 1) := by decide +kernel
theorem dX8_sheet_0 : decode cX8_sheet 0 = .ok (.aload_n 0, 1) := by decide +kernel
theorem dX8_sheet_1 : decode cX8_sheet 1 = .ok (.iload_n 1, 1) := by decide +kernel
theorem dX8_sheet_2 : decode cX8_sheet 2 = .ok (.invokevirtual 249, 3) := by decide +kernel
theorem dX8_sheet_5 : decode cX8_sheet 5 = .ok (.astore 4, 2) := by decide +kernel
theorem dX8_sheet_7 : decode cX8_sheet 7 = .ok (.aload 4, 2) := by decide +kernel
theorem dX8_sheet_9 : decode cX8_sheet 9 = .ok (.ifnull 12, 3) := by decide +kernel
theorem dX8_sheet_12 : decode cX8_sheet 12 = .ok (.iload_n 2, 1) := by decide +kernel
theorem dX8_sheet_13 : decode cX8_sheet 13 = .ok (.iconst (-1), 1) := by decide +kernel
theorem dX8_sheet_14 : decode cX8_sheet 14 = .ok (.iconst 1, 1) := by decide +kernel
theorem dX8_sheet_15 : decode cX8_sheet 15 = .ok (.invokestatic 56, 3) := by decide +kernel
theorem dX8_sheet_18 : decode cX8_sheet 18 = .ok (.ifCond .ne 6, 3) := by decide +kernel
theorem dX8_sheet_21 : decode cX8_sheet 21 = .ok (.ldc 60, 2) := by decide +kernel
theorem dX8_sheet_23 : decode cX8_sheet 23 = .ok (.ireturn, 1) := by decide +kernel
theorem dX8_sheet_24 : decode cX8_sheet 24 = .ok (.iload_n 2, 1) := by decide +kernel
theorem dX8_sheet_25 : decode cX8_sheet 25 = .ok (.iconst (-1), 1) := by decide +kernel
theorem dX8_sheet_26 : decode cX8_sheet 26 = .ok (.if_icmp .ne 12, 3) := by decide +kernel
theorem dX8_sheet_29 : decode cX8_sheet 29 = .ok (.aload 4, 2) := by decide +kernel
theorem dX8_sheet_31 : decode cX8_sheet 31 = .ok (.iconst (-1), 1) := by decide +kernel
theorem dX8_sheet_32 : decode cX8_sheet 32 = .ok (.iconst 0, 1) := by decide +kernel
theorem dX8_sheet_33 : decode cX8_sheet 33 = .ok (.invokevirtual 253, 3) := by decide +kernel
theorem dX8_sheet_36 : decode cX8_sheet 36 = .ok (.iconst 0, 1) := by decide +kernel
theorem dX8_sheet_37 : decode cX8_sheet 37 = .ok (.ireturn, 1) := by decide +kernel
theorem dX8_sheet_38 : decode cX8_sheet 38 = .ok (.iload_n 3, 1) := by decide +kernel
theorem dX8_sheet_39 : decode cX8_sheet 39 = .ok (.bipush 24, 2) := by decide +kernel
theorem dX8_sheet_41 : decode cX8_sheet 41 = .ok (.if_icmp .le 6, 3) := by decide +kernel
theorem dX8_sheet_44 : decode cX8_sheet 44 = .ok (.ldc 60, 2) := by decide +kernel
theorem dX8_sheet_46 : decode cX8_sheet 46 = .ok (.ireturn, 1) := by decide +kernel
theorem dX8_sheet_47 : decode cX8_sheet 47 = .ok (.iload_n 3, 1) := by decide +kernel
theorem dX8_sheet_48 : decode cX8_sheet 48 = .ok (.ifCond .ge 7, 3) := by decide +kernel
theorem dX8_sheet_51 : decode cX8_sheet 51 = .ok (.ldc_w 257, 3) := by decide +kernel
theorem dX8_sheet_54 : decode cX8_sheet 54 = .ok (.ireturn, 1) := by decide +kernel
theorem dX8_sheet_55 : decode cX8_sheet 55 = .ok (.aload 4, 2) := by decide +kernel
theorem dX8_sheet_57 : decode cX8_sheet 57 = .ok (.iload_n 2, 1) := by decide +kernel
theorem dX8_sheet_58 : decode cX8_sheet 58 = .ok (.iload_n 3, 1) := by decide +kernel
theorem dX8_sheet_59 : decode cX8_sheet 59 = .ok (.invokevirtual 253, 3) := by decide +kernel
theorem dX8_sheet_62 : decode cX8_sheet 62 = .ok (.iload_n 3, 1) := by decide +kernel
theorem dX8_sheet_63 : decode cX8_sheet 63 = .ok (.ireturn, 1) := by decide +kernel
theorem dX8_mark_0 : decode cX8_mark 0 = .ok (.aload_n 0, 1) := by decide +kernel
theorem dX8_mark_1 : decode cX8_mark 1 = .ok (.iload_n 1, 1) := by decide +kernel
theorem dX8_mark_2 : decode cX8_mark 2 = .ok (.invokevirtual 249, 3) := by decide +kernel
theorem dX8_mark_5 : decode cX8_mark 5 = .ok (.astore 4, 2) := by decide +kernel
theorem dX8_mark_7 : decode cX8_mark 7 = .ok (.aload 4, 2) := by decide +kernel
theorem dX8_mark_9 : decode cX8_mark 9 = .ok (.ifnonnull 6, 3) := by decide +kernel
theorem dX8_mark_12 : decode cX8_mark 12 = .ok (.ldc 60, 2) := by decide +kernel
theorem dX8_mark_14 : decode cX8_mark 14 = .ok (.ireturn, 1) := by decide +kernel
theorem dX8_mark_15 : decode cX8_mark 15 = .ok (.aload 4, 2) := by decide +kernel
theorem dX8_mark_17 : decode cX8_mark 17 = .ok (.invokevirtual 258, 3) := by decide +kernel
theorem dX8_mark_20 : decode cX8_mark 20 = .ok (.ifCond .eq 7, 3) := by decide +kernel
theorem dX8_mark_23 : decode cX8_mark 23 = .ok (.ldc_w 261, 3) := by decide +kernel
theorem dX8_mark_26 : decode cX8_mark 26 = .ok (.ireturn, 1) := by decide +kernel
theorem dX8_mark_27 : decode cX8_mark 27 = .ok (.aload 4, 2) := by decide +kernel
theorem dX8_mark_29 : decode cX8_mark 29 = .ok (.iload_n 2, 1) := by decide +kernel
theorem dX8_mark_30 : decode cX8_mark 30 = .ok (.invokevirtual 262, 3) := by decide +kernel
theorem dX8_mark_33 : decode cX8_mark 33 = .ok (.ifCond .ne 7, 3) := by decide +kernel
theorem dX8_mark_36 : decode cX8_mark 36 = .ok (.ldc_w 263, 3) := by decide +kernel
theorem dX8_mark_39 : decode cX8_mark 39 = .ok (.ireturn, 1) := by decide +kernel
theorem dX8_mark_40 : decode cX8_mark 40 = .ok (.aload 4, 2) := by decide +kernel
theorem dX8_mark_42 : decode cX8_mark 42 = .ok (.getfield 264, 3) := by decide +kernel
theorem dX8_mark_45 : decode cX8_mark 45 = .ok (.ifCond .ne 7, 3) := by decide +kernel
theorem dX8_mark_48 : decode cX8_mark 48 = .ok (.iconst 1, 1) := by decide +kernel
theorem dX8_mark_49 : decode cX8_mark 49 = .ok (.goto 4, 3) := by decide +kernel
theorem dX8_mark_52 : decode cX8_mark 52 = .ok (.iconst 0, 1) := by decide +kernel
theorem dX8_mark_53 : decode cX8_mark 53 = .ok (.istore 5, 2) := by decide +kernel
theorem dX8_mark_55 : decode cX8_mark 55 = .ok (.iload 5, 2) := by decide +kernel
theorem dX8_mark_57 : decode cX8_mark 57 = .ok (.ifCond .eq 12, 3) := by decide +kernel
theorem dX8_mark_60 : decode cX8_mark 60 = .ok (.iload_n 3, 1) := by decide +kernel
theorem dX8_mark_61 : decode cX8_mark 61 = .ok (.ldc 154, 2) := by decide +kernel
theorem dX8_mark_63 : decode cX8_mark 63 = .ok (.if_icmp .ne 6, 3) := by decide +kernel
theorem dX8_mark_66 : decode cX8_mark 66 = .ok (.ldc 103, 2) := by decide +kernel
theorem dX8_mark_68 : decode cX8_mark 68 = .ok (.ireturn, 1) := by decide +kernel
theorem dX8_mark_69 : decode cX8_mark 69 = .ok (.iload 5, 2) := by decide +kernel
theorem dX8_mark_71 : decode cX8_mark 71 = .ok (.ifCond .ne 25, 3) := by decide +kernel
theorem dX8_mark_74 : decode cX8_mark 74 = .ok (.iload_n 3, 1) := by decide +kernel
theorem dX8_mark_75 : decode cX8_mark 75 = .ok (.ldc 154, 2) := by decide +kernel
theorem dX8_mark_77 : decode cX8_mark 77 = .ok (.if_icmp .eq 19, 3) := by decide +kernel
theorem dX8_mark_80 : decode cX8_mark 80 = .ok (.iload_n 3, 1) := by decide +kernel
theorem dX8_mark_81 : decode cX8_mark 81 = .ok (.ldc_w 267, 3) := by decide +kernel
theorem dX8_mark_84 : decode cX8_mark 84 = .ok (.ldc_w 268, 3) := by decide +kernel
theorem dX8_mark_87 : decode cX8_mark 87 = .ok (.invokestatic 56, 3) := by decide +kernel
theorem dX8_mark_90 : decode cX8_mark 90 = .ok (.ifCond .ne 6, 3) := by decide +kernel
theorem dX8_mark_93 : decode cX8_mark 93 = .ok (.ldc 60, 2) := by decide +kernel
theorem dX8_mark_95 : decode cX8_mark 95 = .ok (.ireturn, 1) := by decide +kernel
theorem dX8_mark_96 : decode cX8_mark 96 = .ok (.aload 4, 2) := by decide +kernel
theorem dX8_mark_98 : decode cX8_mark 98 = .ok (.getfield 269, 3) := by decide +kernel
theorem dX8_mark_101 : decode cX8_mark 101 = .ok (.iload_n 2, 1) := by decide +kernel
theorem dX8_mark_102 : decode cX8_mark 102 = .ok (.iload 5, 2) := by decide +kernel
theorem dX8_mark_104 : decode cX8_mark 104 = .ok (.ifCond .eq 8, 3) := by decide +kernel
theorem dX8_mark_107 : decode cX8_mark 107 = .ok (.iload_n 3, 1) := by decide +kernel
theorem dX8_mark_108 : decode cX8_mark 108 = .ok (.i2s, 1) := by decide +kernel
theorem dX8_mark_109 : decode cX8_mark 109 = .ok (.goto 4, 3) := by decide +kernel
theorem dX8_mark_112 : decode cX8_mark 112 = .ok (.iload_n 3, 1) := by decide +kernel
theorem dX8_mark_113 : decode cX8_mark 113 = .ok (.iastore, 1) := by decide +kernel
theorem dX8_mark_114 : decode cX8_mark 114 = .ok (.iconst 1, 1) := by decide +kernel
theorem dX8_mark_115 : decode cX8_mark 115 = .ok (.ireturn, 1) := by decide +kernel
theorem dX8_pour_0 : decode cX8_pour 0 = .ok (.aload_n 0, 1) := by decide +kernel
theorem dX8_pour_1 : decode cX8_pour 1 = .ok (.iload_n 1, 1) := by decide +kernel
theorem dX8_pour_2 : decode cX8_pour 2 = .ok (.invokevirtual 249, 3) := by decide +kernel
theorem dX8_pour_5 : decode cX8_pour 5 = .ok (.astore_n 2, 1) := by decide +kernel
theorem dX8_pour_6 : decode cX8_pour 6 = .ok (.aload_n 2, 1) := by decide +kernel
theorem dX8_pour_7 : decode cX8_pour 7 = .ok (.ifnonnull 6, 3) := by decide +kernel
theorem dX8_pour_10 : decode cX8_pour 10 = .ok (.ldc 60, 2) := by decide +kernel
theorem dX8_pour_12 : decode cX8_pour 12 = .ok (.ireturn, 1) := by decide +kernel
theorem dX8_pour_13 : decode cX8_pour 13 = .ok (.aload_n 2, 1) := by decide +kernel
theorem dX8_pour_14 : decode cX8_pour 14 = .ok (.invokevirtual 258, 3) := by decide +kernel
theorem dX8_pour_17 : decode cX8_pour 17 = .ok (.ifCond .eq 7, 3) := by decide +kernel
theorem dX8_pour_20 : decode cX8_pour 20 = .ok (.ldc_w 261, 3) := by decide +kernel
theorem dX8_pour_23 : decode cX8_pour 23 = .ok (.ireturn, 1) := by decide +kernel
theorem dX8_pour_24 : decode cX8_pour 24 = .ok (.iconst 0, 1) := by decide +kernel
theorem dX8_pour_25 : decode cX8_pour 25 = .ok (.istore_n 3, 1) := by decide +kernel
theorem dX8_pour_26 : decode cX8_pour 26 = .ok (.iconst 0, 1) := by decide +kernel
theorem dX8_pour_27 : decode cX8_pour 27 = .ok (.istore 4, 2) := by decide +kernel
theorem dX8_pour_29 : decode cX8_pour 29 = .ok (.iload 4, 2) := by decide +kernel
theorem dX8_pour_31 : decode cX8_pour 31 = .ok (.aload_n 0, 1) := by decide +kernel
theorem dX8_pour_32 : decode cX8_pour 32 = .ok (.getfield 10, 3) := by decide +kernel
theorem dX8_pour_35 : decode cX8_pour 35 = .ok (.getfield 206, 3) := by decide +kernel
theorem dX8_pour_38 : decode cX8_pour 38 = .ok (.if_icmp .ge 75, 3) := by decide +kernel
theorem dX8_pour_41 : decode cX8_pour 41 = .ok (.aload_n 0, 1) := by decide +kernel
theorem dX8_pour_42 : decode cX8_pour 42 = .ok (.getfield 10, 3) := by decide +kernel
theorem dX8_pour_45 : decode cX8_pour 45 = .ok (.iload 4, 2) := by decide +kernel
theorem dX8_pour_47 : decode cX8_pour 47 = .ok (.invokevirtual 70, 3) := by decide +kernel
theorem dX8_pour_50 : decode cX8_pour 50 = .ok (.astore 5, 2) := by decide +kernel
theorem dX8_pour_52 : decode cX8_pour 52 = .ok (.aload 5, 2) := by decide +kernel
theorem dX8_pour_54 : decode cX8_pour 54 = .ok (.ifnull 53, 3) := by decide +kernel
theorem dX8_pour_57 : decode cX8_pour 57 = .ok (.aload_n 2, 1) := by decide +kernel
theorem dX8_pour_58 : decode cX8_pour 58 = .ok (.iload 4, 2) := by decide +kernel
theorem dX8_pour_60 : decode cX8_pour 60 = .ok (.invokevirtual 272, 3) := by decide +kernel
theorem dX8_pour_63 : decode cX8_pour 63 = .ok (.ifCond .eq 44, 3) := by decide +kernel
theorem dX8_pour_66 : decode cX8_pour 66 = .ok (.aload_n 2, 1) := by decide +kernel
theorem dX8_pour_67 : decode cX8_pour 67 = .ok (.getfield 269, 3) := by decide +kernel
theorem dX8_pour_70 : decode cX8_pour 70 = .ok (.iload 4, 2) := by decide +kernel
theorem dX8_pour_72 : decode cX8_pour 72 = .ok (.iaload, 1) := by decide +kernel
theorem dX8_pour_73 : decode cX8_pour 73 = .ok (.iconst 0, 1) := by decide +kernel
theorem dX8_pour_74 : decode cX8_pour 74 = .ok (.sipush 999, 3) := by decide +kernel
theorem dX8_pour_77 : decode cX8_pour 77 = .ok (.invokestatic 275, 3) := by decide +kernel
theorem dX8_pour_80 : decode cX8_pour 80 = .ok (.istore 6, 2) := by decide +kernel
theorem dX8_pour_82 : decode cX8_pour 82 = .ok (.iload_n 3, 1) := by decide +kernel
theorem dX8_pour_83 : decode cX8_pour 83 = .ok (.aload 5, 2) := by decide +kernel
theorem dX8_pour_85 : decode cX8_pour 85 = .ok (.getfield 83, 3) := by decide +kernel
theorem dX8_pour_88 : decode cX8_pour 88 = .ok (.iload 6, 2) := by decide +kernel
theorem dX8_pour_90 : decode cX8_pour 90 = .ok (.if_icmp .ne 7, 3) := by decide +kernel
theorem dX8_pour_93 : decode cX8_pour 93 = .ok (.iconst 0, 1) := by decide +kernel
theorem dX8_pour_94 : decode cX8_pour 94 = .ok (.goto 4, 3) := by decide +kernel
theorem dX8_pour_97 : decode cX8_pour 97 = .ok (.iconst 1, 1) := by decide +kernel
theorem dX8_pour_98 : decode cX8_pour 98 = .ok (.iadd, 1) := by decide +kernel
theorem dX8_pour_99 : decode cX8_pour 99 = .ok (.istore_n 3, 1) := by decide +kernel
theorem dX8_pour_100 : decode cX8_pour 100 = .ok (.aload 5, 2) := by decide +kernel
theorem dX8_pour_102 : decode cX8_pour 102 = .ok (.iload 6, 2) := by decide +kernel
theorem dX8_pour_104 : decode cX8_pour 104 = .ok (.putfield 83, 3) := by decide +kernel
theorem dX8_pour_107 : decode cX8_pour 107 = .ok (.iinc 4 1, 3) := by decide +kernel
theorem dX8_pour_110 : decode cX8_pour 110 = .ok (.goto (-81), 3) := by decide +kernel
theorem dX8_pour_113 : decode cX8_pour 113 = .ok (.iload_n 3, 1) := by decide +kernel
theorem dX8_pour_114 : decode cX8_pour 114 = .ok (.ireturn, 1) := by decide +kernel
theorem dX8_reads_0 : decode cX8_reads 0 = .ok (.aload_n 0, 1) := by decide +kernel
theorem dX8_reads_1 : decode cX8_reads 1 = .ok (.iload_n 1, 1) := by decide +kernel
theorem dX8_reads_2 : decode cX8_reads 2 = .ok (.invokevirtual 249, 3) := by decide +kernel
theorem dX8_reads_5 : decode cX8_reads 5 = .ok (.astore_n 3, 1) := by decide +kernel
theorem dX8_reads_6 : decode cX8_reads 6 = .ok (.aload_n 0, 1) := by decide +kernel
theorem dX8_reads_7 : decode cX8_reads 7 = .ok (.getfield 10, 3) := by decide +kernel
theorem dX8_reads_10 : decode cX8_reads 10 = .ok (.iload_n 2, 1) := by decide +kernel
theorem dX8_reads_11 : decode cX8_reads 11 = .ok (.invokevirtual 70, 3) := by decide +kernel
theorem dX8_reads_14 : decode cX8_reads 14 = .ok (.astore 4, 2) := by decide +kernel
theorem dX8_reads_16 : decode cX8_reads 16 = .ok (.aload_n 3, 1) := by decide +kernel
theorem dX8_reads_17 : decode cX8_reads 17 = .ok (.ifnull 8, 3) := by decide +kernel
theorem dX8_reads_20 : decode cX8_reads 20 = .ok (.aload 4, 2) := by decide +kernel
theorem dX8_reads_22 : decode cX8_reads 22 = .ok (.ifnonnull 6, 3) := by decide +kernel
theorem dX8_reads_25 : decode cX8_reads 25 = .ok (.ldc 60, 2) := by decide +kernel
theorem dX8_reads_27 : decode cX8_reads 27 = .ok (.ireturn, 1) := by decide +kernel
theorem dX8_reads_28 : decode cX8_reads 28 = .ok (.aload_n 3, 1) := by decide +kernel
theorem dX8_reads_29 : decode cX8_reads 29 = .ok (.invokevirtual 258, 3) := by decide +kernel
theorem dX8_reads_32 : decode cX8_reads 32 = .ok (.ifCond .eq 7, 3) := by decide +kernel
theorem dX8_reads_35 : decode cX8_reads 35 = .ok (.ldc_w 261, 3) := by decide +kernel
theorem dX8_reads_38 : decode cX8_reads 38 = .ok (.ireturn, 1) := by decide +kernel
theorem dX8_reads_39 : decode cX8_reads 39 = .ok (.aload_n 0, 1) := by decide +kernel
theorem dX8_reads_40 : decode cX8_reads 40 = .ok (.getfield 10, 3) := by decide +kernel
theorem dX8_reads_43 : decode cX8_reads 43 = .ok (.aload 4, 2) := by decide +kernel
theorem dX8_reads_45 : decode cX8_reads 45 = .ok (.invokevirtual 162, 3) := by decide +kernel
theorem dX8_reads_48 : decode cX8_reads 48 = .ok (.astore 5, 2) := by decide +kernel
theorem dX8_reads_50 : decode cX8_reads 50 = .ok (.iconst 0, 1) := by decide +kernel
theorem dX8_reads_51 : decode cX8_reads 51 = .ok (.istore 6, 2) := by decide +kernel
theorem dX8_reads_53 : decode cX8_reads 53 = .ok (.iload 6, 2) := by decide +kernel
theorem dX8_reads_55 : decode cX8_reads 55 = .ok (.aload_n 3, 1) := by decide +kernel
theorem dX8_reads_56 : decode cX8_reads 56 = .ok (.getfield 278, 3) := by decide +kernel
theorem dX8_reads_59 : decode cX8_reads 59 = .ok (.if_icmp .ge 45, 3) := by decide +kernel
theorem dX8_reads_62 : decode cX8_reads 62 = .ok (.aload_n 3, 1) := by decide +kernel
theorem dX8_reads_63 : decode cX8_reads 63 = .ok (.iload 6, 2) := by decide +kernel
theorem dX8_reads_65 : decode cX8_reads 65 = .ok (.invokevirtual 272, 3) := by decide +kernel
theorem dX8_reads_68 : decode cX8_reads 68 = .ok (.ifCond .eq 21, 3) := by decide +kernel
theorem dX8_reads_71 : decode cX8_reads 71 = .ok (.aload_n 3, 1) := by decide +kernel
theorem dX8_reads_72 : decode cX8_reads 72 = .ok (.getfield 269, 3) := by decide +kernel
theorem dX8_reads_75 : decode cX8_reads 75 = .ok (.iload 6, 2) := by decide +kernel
theorem dX8_reads_77 : decode cX8_reads 77 = .ok (.iaload, 1) := by decide +kernel
theorem dX8_reads_78 : decode cX8_reads 78 = .ok (.aload 5, 2) := by decide +kernel
theorem dX8_reads_80 : decode cX8_reads 80 = .ok (.getfield 83, 3) := by decide +kernel
theorem dX8_reads_83 : decode cX8_reads 83 = .ok (.if_icmp .eq 6, 3) := by decide +kernel
theorem dX8_reads_86 : decode cX8_reads 86 = .ok (.iload 6, 2) := by decide +kernel
theorem dX8_reads_88 : decode cX8_reads 88 = .ok (.ireturn, 1) := by decide +kernel
theorem dX8_reads_89 : decode cX8_reads 89 = .ok (.aload_n 0, 1) := by decide +kernel
theorem dX8_reads_90 : decode cX8_reads 90 = .ok (.getfield 10, 3) := by decide +kernel
theorem dX8_reads_93 : decode cX8_reads 93 = .ok (.aload 5, 2) := by decide +kernel
theorem dX8_reads_95 : decode cX8_reads 95 = .ok (.invokevirtual 166, 3) := by decide +kernel
theorem dX8_reads_98 : decode cX8_reads 98 = .ok (.iinc 6 1, 3) := by decide +kernel
theorem dX8_reads_101 : decode cX8_reads 101 = .ok (.goto (-48), 3) := by decide +kernel
theorem dX8_reads_104 : decode cX8_reads 104 = .ok (.ldc 154, 2) := by decide +kernel
theorem dX8_reads_106 : decode cX8_reads 106 = .ok (.ireturn, 1) := by decide +kernel
theorem dX8_copy_0 : decode cX8_copy 0 = .ok (.aload_n 0, 1) := by decide +kernel
theorem dX8_copy_1 : decode cX8_copy 1 = .ok (.iload_n 1, 1) := by decide +kernel
theorem dX8_copy_2 : decode cX8_copy 2 = .ok (.invokevirtual 249, 3) := by decide +kernel
theorem dX8_copy_5 : decode cX8_copy 5 = .ok (.astore 6, 2) := by decide +kernel
theorem dX8_copy_7 : decode cX8_copy 7 = .ok (.aload_n 0, 1) := by decide +kernel
theorem dX8_copy_8 : decode cX8_copy 8 = .ok (.iload_n 3, 1) := by decide +kernel
theorem dX8_copy_9 : decode cX8_copy 9 = .ok (.invokevirtual 249, 3) := by decide +kernel
theorem dX8_copy_12 : decode cX8_copy 12 = .ok (.astore 7, 2) := by decide +kernel
theorem dX8_copy_14 : decode cX8_copy 14 = .ok (.aload 6, 2) := by decide +kernel
theorem dX8_copy_16 : decode cX8_copy 16 = .ok (.ifnull 8, 3) := by decide +kernel
theorem dX8_copy_19 : decode cX8_copy 19 = .ok (.aload 7, 2) := by decide +kernel
theorem dX8_copy_21 : decode cX8_copy 21 = .ok (.ifnonnull 6, 3) := by decide +kernel
theorem dX8_copy_24 : decode cX8_copy 24 = .ok (.ldc 60, 2) := by decide +kernel
theorem dX8_copy_26 : decode cX8_copy 26 = .ok (.ireturn, 1) := by decide +kernel
theorem dX8_copy_27 : decode cX8_copy 27 = .ok (.aload 6, 2) := by decide +kernel
theorem dX8_copy_29 : decode cX8_copy 29 = .ok (.invokevirtual 258, 3) := by decide +kernel
theorem dX8_copy_32 : decode cX8_copy 32 = .ok (.ifCond .ne 11, 3) := by decide +kernel
theorem dX8_copy_35 : decode cX8_copy 35 = .ok (.aload 7, 2) := by decide +kernel
theorem dX8_copy_37 : decode cX8_copy 37 = .ok (.invokevirtual 258, 3) := by decide +kernel
theorem dX8_copy_40 : decode cX8_copy 40 = .ok (.ifCond .eq 7, 3) := by decide +kernel
theorem dX8_copy_43 : decode cX8_copy 43 = .ok (.ldc_w 261, 3) := by decide +kernel
theorem dX8_copy_46 : decode cX8_copy 46 = .ok (.ireturn, 1) := by decide +kernel
theorem dX8_copy_47 : decode cX8_copy 47 = .ok (.aload 6, 2) := by decide +kernel
theorem dX8_copy_49 : decode cX8_copy 49 = .ok (.getfield 264, 3) := by decide +kernel
theorem dX8_copy_52 : decode cX8_copy 52 = .ok (.aload 7, 2) := by decide +kernel
theorem dX8_copy_54 : decode cX8_copy 54 = .ok (.getfield 264, 3) := by decide +kernel
theorem dX8_copy_57 : decode cX8_copy 57 = .ok (.if_icmp .eq 6, 3) := by decide +kernel
theorem dX8_copy_60 : decode cX8_copy 60 = .ok (.ldc 103, 2) := by decide +kernel
theorem dX8_copy_62 : decode cX8_copy 62 = .ok (.ireturn, 1) := by decide +kernel
theorem dX8_copy_63 : decode cX8_copy 63 = .ok (.aload 6, 2) := by decide +kernel
theorem dX8_copy_65 : decode cX8_copy 65 = .ok (.iload_n 2, 1) := by decide +kernel
theorem dX8_copy_66 : decode cX8_copy 66 = .ok (.iload 5, 2) := by decide +kernel
theorem dX8_copy_68 : decode cX8_copy 68 = .ok (.invokevirtual 281, 3) := by decide +kernel
theorem dX8_copy_71 : decode cX8_copy 71 = .ok (.ifCond .eq 15, 3) := by decide +kernel
theorem dX8_copy_74 : decode cX8_copy 74 = .ok (.aload 7, 2) := by decide +kernel
theorem dX8_copy_76 : decode cX8_copy 76 = .ok (.iload 4, 2) := by decide +kernel
theorem dX8_copy_78 : decode cX8_copy 78 = .ok (.iload 5, 2) := by decide +kernel
theorem dX8_copy_80 : decode cX8_copy 80 = .ok (.invokevirtual 281, 3) := by decide +kernel
theorem dX8_copy_83 : decode cX8_copy 83 = .ok (.ifCond .ne 7, 3) := by decide +kernel
theorem dX8_copy_86 : decode cX8_copy 86 = .ok (.ldc_w 263, 3) := by decide +kernel
theorem dX8_copy_89 : decode cX8_copy 89 = .ok (.ireturn, 1) := by decide +kernel
theorem dX8_copy_90 : decode cX8_copy 90 = .ok (.aload 6, 2) := by decide +kernel
theorem dX8_copy_92 : decode cX8_copy 92 = .ok (.getfield 269, 3) := by decide +kernel
theorem dX8_copy_95 : decode cX8_copy 95 = .ok (.iload_n 2, 1) := by decide +kernel
theorem dX8_copy_96 : decode cX8_copy 96 = .ok (.aload 7, 2) := by decide +kernel
theorem dX8_copy_98 : decode cX8_copy 98 = .ok (.getfield 269, 3) := by decide +kernel
theorem dX8_copy_101 : decode cX8_copy 101 = .ok (.iload 4, 2) := by decide +kernel
theorem dX8_copy_103 : decode cX8_copy 103 = .ok (.iload 5, 2) := by decide +kernel
theorem dX8_copy_105 : decode cX8_copy 105 = .ok (.invokestatic 284, 3) := by decide +kernel
theorem dX8_copy_108 : decode cX8_copy 108 = .ok (.iload 5, 2) := by decide +kernel
theorem dX8_copy_110 : decode cX8_copy 110 = .ok (.ireturn, 1) := by decide +kernel
theorem dX8_lay_0 : decode cX8_lay 0 = .ok (.aload_n 0, 1) := by decide +kernel
theorem dX8_lay_1 : decode cX8_lay 1 = .ok (.iload_n 1, 1) := by decide +kernel
theorem dX8_lay_2 : decode cX8_lay 2 = .ok (.invokevirtual 290, 3) := by decide +kernel
theorem dX8_lay_5 : decode cX8_lay 5 = .ok (.astore 4, 2) := by decide +kernel
theorem dX8_lay_7 : decode cX8_lay 7 = .ok (.aload 4, 2) := by decide +kernel
theorem dX8_lay_9 : decode cX8_lay 9 = .ok (.ifnull 12, 3) := by decide +kernel
theorem dX8_lay_12 : decode cX8_lay 12 = .ok (.iload_n 2, 1) := by decide +kernel
theorem dX8_lay_13 : decode cX8_lay 13 = .ok (.iconst 0, 1) := by decide +kernel
theorem dX8_lay_14 : decode cX8_lay 14 = .ok (.iconst 3, 1) := by decide +kernel
theorem dX8_lay_15 : decode cX8_lay 15 = .ok (.invokestatic 56, 3) := by decide +kernel
theorem dX8_lay_18 : decode cX8_lay 18 = .ok (.ifCond .ne 6, 3) := by decide +kernel
theorem dX8_lay_21 : decode cX8_lay 21 = .ok (.ldc 60, 2) := by decide +kernel
theorem dX8_lay_23 : decode cX8_lay 23 = .ok (.ireturn, 1) := by decide +kernel
theorem dX8_lay_24 : decode cX8_lay 24 = .ok (.aload 4, 2) := by decide +kernel
theorem dX8_lay_26 : decode cX8_lay 26 = .ok (.getfield 294, 3) := by decide +kernel
theorem dX8_lay_29 : decode cX8_lay 29 = .ok (.istore 5, 2) := by decide +kernel
theorem dX8_lay_31 : decode cX8_lay 31 = .ok (.iload_n 2, 1) := by decide +kernel
theorem dX8_lay_32 : decode cX8_lay 32 = .ok (.iconst 1, 1) := by decide +kernel
theorem dX8_lay_33 : decode cX8_lay 33 = .ok (.if_icmp .ne 31, 3) := by decide +kernel
theorem dX8_lay_36 : decode cX8_lay 36 = .ok (.aload_n 0, 1) := by decide +kernel
theorem dX8_lay_37 : decode cX8_lay 37 = .ok (.getfield 10, 3) := by decide +kernel
theorem dX8_lay_40 : decode cX8_lay 40 = .ok (.iload_n 3, 1) := by decide +kernel
theorem dX8_lay_41 : decode cX8_lay 41 = .ok (.invokevirtual 70, 3) := by decide +kernel
theorem dX8_lay_44 : decode cX8_lay 44 = .ok (.astore 6, 2) := by decide +kernel
theorem dX8_lay_46 : decode cX8_lay 46 = .ok (.aload 6, 2) := by decide +kernel
theorem dX8_lay_48 : decode cX8_lay 48 = .ok (.ifnonnull 6, 3) := by decide +kernel
theorem dX8_lay_51 : decode cX8_lay 51 = .ok (.ldc 60, 2) := by decide +kernel
theorem dX8_lay_53 : decode cX8_lay 53 = .ok (.ireturn, 1) := by decide +kernel
theorem dX8_lay_54 : decode cX8_lay 54 = .ok (.aload 4, 2) := by decide +kernel
theorem dX8_lay_56 : decode cX8_lay 56 = .ok (.getfield 297, 3) := by decide +kernel
theorem dX8_lay_59 : decode cX8_lay 59 = .ok (.aload 6, 2) := by decide +kernel
theorem dX8_lay_61 : decode cX8_lay 61 = .ok (.invokevirtual 301, 3) := by decide +kernel
theorem dX8_lay_64 : decode cX8_lay 64 = .ok (.iload_n 2, 1) := by decide +kernel
theorem dX8_lay_65 : decode cX8_lay 65 = .ok (.iconst 2, 1) := by decide +kernel
theorem dX8_lay_66 : decode cX8_lay 66 = .ok (.if_icmp .ne 40, 3) := by decide +kernel
theorem dX8_lay_69 : decode cX8_lay 69 = .ok (.aload_n 0, 1) := by decide +kernel
theorem dX8_lay_70 : decode cX8_lay 70 = .ok (.iload_n 3, 1) := by decide +kernel
theorem dX8_lay_71 : decode cX8_lay 71 = .ok (.invokevirtual 249, 3) := by decide +kernel
theorem dX8_lay_74 : decode cX8_lay 74 = .ok (.astore 6, 2) := by decide +kernel
theorem dX8_lay_76 : decode cX8_lay 76 = .ok (.aload 6, 2) := by decide +kernel
theorem dX8_lay_78 : decode cX8_lay 78 = .ok (.ifnonnull 6, 3) := by decide +kernel
theorem dX8_lay_81 : decode cX8_lay 81 = .ok (.ldc 60, 2) := by decide +kernel
theorem dX8_lay_83 : decode cX8_lay 83 = .ok (.ireturn, 1) := by decide +kernel
theorem dX8_lay_84 : decode cX8_lay 84 = .ok (.aload 6, 2) := by decide +kernel
theorem dX8_lay_86 : decode cX8_lay 86 = .ok (.invokevirtual 258, 3) := by decide +kernel
theorem dX8_lay_89 : decode cX8_lay 89 = .ok (.ifCond .eq 7, 3) := by decide +kernel
theorem dX8_lay_92 : decode cX8_lay 92 = .ok (.ldc_w 261, 3) := by decide +kernel
theorem dX8_lay_95 : decode cX8_lay 95 = .ok (.ireturn, 1) := by decide +kernel
theorem dX8_lay_96 : decode cX8_lay 96 = .ok (.aload 4, 2) := by decide +kernel
theorem dX8_lay_98 : decode cX8_lay 98 = .ok (.getfield 304, 3) := by decide +kernel
theorem dX8_lay_101 : decode cX8_lay 101 = .ok (.aload 6, 2) := by decide +kernel
theorem dX8_lay_103 : decode cX8_lay 103 = .ok (.invokevirtual 308, 3) := by decide +kernel
theorem dX8_lay_106 : decode cX8_lay 106 = .ok (.aload 4, 2) := by decide +kernel
theorem dX8_lay_108 : decode cX8_lay 108 = .ok (.iload_n 3, 1) := by decide +kernel
theorem dX8_lay_109 : decode cX8_lay 109 = .ok (.putfield 311, 3) := by decide +kernel
theorem dX8_lay_112 : decode cX8_lay 112 = .ok (.aload 4, 2) := by decide +kernel
theorem dX8_lay_114 : decode cX8_lay 114 = .ok (.iload_n 2, 1) := by decide +kernel
theorem dX8_lay_115 : decode cX8_lay 115 = .ok (.putfield 294, 3) := by decide +kernel
theorem dX8_lay_118 : decode cX8_lay 118 = .ok (.iload 5, 2) := by decide +kernel
theorem dX8_lay_120 : decode cX8_lay 120 = .ok (.ireturn, 1) := by decide +kernel
theorem dX8_ask_0 : decode cX8_ask 0 = .ok (.aload_n 0, 1) := by decide +kernel
theorem dX8_ask_1 : decode cX8_ask 1 = .ok (.iload_n 1, 1) := by decide +kernel
theorem dX8_ask_2 : decode cX8_ask 2 = .ok (.invokevirtual 290, 3) := by decide +kernel
theorem dX8_ask_5 : decode cX8_ask 5 = .ok (.astore_n 3, 1) := by decide +kernel
theorem dX8_ask_6 : decode cX8_ask 6 = .ok (.aload_n 3, 1) := by decide +kernel
theorem dX8_ask_7 : decode cX8_ask 7 = .ok (.ifnull 10, 3) := by decide +kernel
theorem dX8_ask_10 : decode cX8_ask 10 = .ok (.iload_n 2, 1) := by decide +kernel
theorem dX8_ask_11 : decode cX8_ask 11 = .ok (.invokestatic 52, 3) := by decide +kernel
theorem dX8_ask_14 : decode cX8_ask 14 = .ok (.ifCond .ne 6, 3) := by decide +kernel
theorem dX8_ask_17 : decode cX8_ask 17 = .ok (.ldc 60, 2) := by decide +kernel
theorem dX8_ask_19 : decode cX8_ask 19 = .ok (.ireturn, 1) := by decide +kernel
theorem dX8_ask_20 : decode cX8_ask 20 = .ok (.aload_n 3, 1) := by decide +kernel
theorem dX8_ask_21 : decode cX8_ask 21 = .ok (.getfield 294, 3) := by decide +kernel
theorem dX8_ask_24 : decode cX8_ask 24 = .ok (.ifCond .ne 7, 3) := by decide +kernel
theorem dX8_ask_27 : decode cX8_ask 27 = .ok (.ldc_w 261, 3) := by decide +kernel
theorem dX8_ask_30 : decode cX8_ask 30 = .ok (.ireturn, 1) := by decide +kernel
theorem dX8_ask_31 : decode cX8_ask 31 = .ok (.aload_n 3, 1) := by decide +kernel
theorem dX8_ask_32 : decode cX8_ask 32 = .ok (.getfield 294, 3) := by decide +kernel
theorem dX8_ask_35 : decode cX8_ask 35 = .ok (.iconst 1, 1) := by decide +kernel
theorem dX8_ask_36 : decode cX8_ask 36 = .ok (.if_icmp .ne 14, 3) := by decide +kernel
theorem dX8_ask_39 : decode cX8_ask 39 = .ok (.aload_n 3, 1) := by decide +kernel
theorem dX8_ask_40 : decode cX8_ask 40 = .ok (.getfield 297, 3) := by decide +kernel
theorem dX8_ask_43 : decode cX8_ask 43 = .ok (.iload_n 2, 1) := by decide +kernel
theorem dX8_ask_44 : decode cX8_ask 44 = .ok (.invokevirtual 100, 3) := by decide +kernel
theorem dX8_ask_47 : decode cX8_ask 47 = .ok (.ifCond .ne 6, 3) := by decide +kernel
theorem dX8_ask_50 : decode cX8_ask 50 = .ok (.ldc 103, 2) := by decide +kernel
theorem dX8_ask_52 : decode cX8_ask 52 = .ok (.ireturn, 1) := by decide +kernel
theorem dX8_ask_53 : decode cX8_ask 53 = .ok (.aload_n 3, 1) := by decide +kernel
theorem dX8_ask_54 : decode cX8_ask 54 = .ok (.getfield 297, 3) := by decide +kernel
theorem dX8_ask_57 : decode cX8_ask 57 = .ok (.invokevirtual 96, 3) := by decide +kernel
theorem dX8_ask_60 : decode cX8_ask 60 = .ok (.ireturn, 1) := by decide +kernel
theorem dX8_item_0 : decode cX8_item 0 = .ok (.aload_n 0, 1) := by decide +kernel
theorem dX8_item_1 : decode cX8_item 1 = .ok (.iload_n 1, 1) := by decide +kernel
theorem dX8_item_2 : decode cX8_item 2 = .ok (.invokevirtual 290, 3) := by decide +kernel
theorem dX8_item_5 : decode cX8_item 5 = .ok (.astore_n 3, 1) := by decide +kernel
theorem dX8_item_6 : decode cX8_item 6 = .ok (.aload_n 3, 1) := by decide +kernel
theorem dX8_item_7 : decode cX8_item 7 = .ok (.ifnonnull 6, 3) := by decide +kernel
theorem dX8_item_10 : decode cX8_item 10 = .ok (.ldc 60, 2) := by decide +kernel
theorem dX8_item_12 : decode cX8_item 12 = .ok (.ireturn, 1) := by decide +kernel
theorem dX8_item_13 : decode cX8_item 13 = .ok (.aload_n 3, 1) := by decide +kernel
theorem dX8_item_14 : decode cX8_item 14 = .ok (.getfield 294, 3) := by decide +kernel
theorem dX8_item_17 : decode cX8_item 17 = .ok (.ifCond .ne 7, 3) := by decide +kernel
theorem dX8_item_20 : decode cX8_item 20 = .ok (.ldc_w 261, 3) := by decide +kernel
theorem dX8_item_23 : decode cX8_item 23 = .ok (.ireturn, 1) := by decide +kernel
theorem dX8_item_24 : decode cX8_item 24 = .ok (.aload_n 3, 1) := by decide +kernel
theorem dX8_item_25 : decode cX8_item 25 = .ok (.getfield 294, 3) := by decide +kernel
theorem dX8_item_28 : decode cX8_item 28 = .ok (.iconst 2, 1) := by decide +kernel
theorem dX8_item_29 : decode cX8_item 29 = .ok (.if_icmp .eq 6, 3) := by decide +kernel
theorem dX8_item_32 : decode cX8_item 32 = .ok (.ldc 103, 2) := by decide +kernel
theorem dX8_item_34 : decode cX8_item 34 = .ok (.ireturn, 1) := by decide +kernel
theorem dX8_item_35 : decode cX8_item 35 = .ok (.aload_n 3, 1) := by decide +kernel
theorem dX8_item_36 : decode cX8_item 36 = .ok (.getfield 304, 3) := by decide +kernel
theorem dX8_item_39 : decode cX8_item 39 = .ok (.iload_n 2, 1) := by decide +kernel
theorem dX8_item_40 : decode cX8_item 40 = .ok (.invokevirtual 262, 3) := by decide +kernel
theorem dX8_item_43 : decode cX8_item 43 = .ok (.ifCond .ne 7, 3) := by decide +kernel
theorem dX8_item_46 : decode cX8_item 46 = .ok (.ldc_w 263, 3) := by decide +kernel
theorem dX8_item_49 : decode cX8_item 49 = .ok (.ireturn, 1) := by decide +kernel
theorem dX8_item_50 : decode cX8_item 50 = .ok (.aload_n 3, 1) := by decide +kernel
theorem dX8_item_51 : decode cX8_item 51 = .ok (.getfield 304, 3) := by decide +kernel
theorem dX8_item_54 : decode cX8_item 54 = .ok (.iload_n 2, 1) := by decide +kernel
theorem dX8_item_55 : decode cX8_item 55 = .ok (.invokevirtual 272, 3) := by decide +kernel
theorem dX8_item_58 : decode cX8_item 58 = .ok (.ifCond .eq 15, 3) := by decide +kernel
theorem dX8_item_61 : decode cX8_item 61 = .ok (.aload_n 3, 1) := by decide +kernel
theorem dX8_item_62 : decode cX8_item 62 = .ok (.getfield 304, 3) := by decide +kernel
theorem dX8_item_65 : decode cX8_item 65 = .ok (.getfield 269, 3) := by decide +kernel
theorem dX8_item_68 : decode cX8_item 68 = .ok (.iload_n 2, 1) := by decide +kernel
theorem dX8_item_69 : decode cX8_item 69 = .ok (.iaload, 1) := by decide +kernel
theorem dX8_item_70 : decode cX8_item 70 = .ok (.goto 5, 3) := by decide +kernel
theorem dX8_item_73 : decode cX8_item 73 = .ok (.ldc 103, 2) := by decide +kernel
theorem dX8_item_75 : decode cX8_item 75 = .ok (.ireturn, 1) := by decide +kernel
theorem dX8_rest_0 : decode cX8_rest 0 = .ok (.aload_n 0, 1) := by decide +kernel
theorem dX8_rest_1 : decode cX8_rest 1 = .ok (.iload_n 1, 1) := by decide +kernel
theorem dX8_rest_2 : decode cX8_rest 2 = .ok (.invokevirtual 290, 3) := by decide +kernel
theorem dX8_rest_5 : decode cX8_rest 5 = .ok (.astore_n 3, 1) := by decide +kernel
theorem dX8_rest_6 : decode cX8_rest 6 = .ok (.aload_n 3, 1) := by decide +kernel
theorem dX8_rest_7 : decode cX8_rest 7 = .ok (.ifnonnull 6, 3) := by decide +kernel
theorem dX8_rest_10 : decode cX8_rest 10 = .ok (.ldc 60, 2) := by decide +kernel
theorem dX8_rest_12 : decode cX8_rest 12 = .ok (.ireturn, 1) := by decide +kernel
theorem dX8_rest_13 : decode cX8_rest 13 = .ok (.aload_n 3, 1) := by decide +kernel
theorem dX8_rest_14 : decode cX8_rest 14 = .ok (.getfield 294, 3) := by decide +kernel
theorem dX8_rest_17 : decode cX8_rest 17 = .ok (.ifCond .ne 7, 3) := by decide +kernel
theorem dX8_rest_20 : decode cX8_rest 20 = .ok (.ldc_w 261, 3) := by decide +kernel
theorem dX8_rest_23 : decode cX8_rest 23 = .ok (.ireturn, 1) := by decide +kernel
theorem dX8_rest_24 : decode cX8_rest 24 = .ok (.aload_n 3, 1) := by decide +kernel
theorem dX8_rest_25 : decode cX8_rest 25 = .ok (.getfield 294, 3) := by decide +kernel
theorem dX8_rest_28 : decode cX8_rest 28 = .ok (.iconst 3, 1) := by decide +kernel
theorem dX8_rest_29 : decode cX8_rest 29 = .ok (.if_icmp .eq 6, 3) := by decide +kernel
theorem dX8_rest_32 : decode cX8_rest 32 = .ok (.ldc 103, 2) := by decide +kernel
theorem dX8_rest_34 : decode cX8_rest 34 = .ok (.ireturn, 1) := by decide +kernel
theorem dX8_rest_35 : decode cX8_rest 35 = .ok (.iload_n 2, 1) := by decide +kernel
theorem dX8_rest_36 : decode cX8_rest 36 = .ok (.ifCond .ne 9, 3) := by decide +kernel
theorem dX8_rest_39 : decode cX8_rest 39 = .ok (.ldc_w 314, 3) := by decide +kernel
theorem dX8_rest_42 : decode cX8_rest 42 = .ok (.goto 9, 3) := by decide +kernel
theorem dX8_rest_45 : decode cX8_rest 45 = .ok (.aload_n 3, 1) := by decide +kernel
theorem dX8_rest_46 : decode cX8_rest 46 = .ok (.getfield 311, 3) := by decide +kernel
theorem dX8_rest_49 : decode cX8_rest 49 = .ok (.iload_n 2, 1) := by decide +kernel
theorem dX8_rest_50 : decode cX8_rest 50 = .ok (.irem, 1) := by decide +kernel
theorem dX8_rest_51 : decode cX8_rest 51 = .ok (.ireturn, 1) := by decide +kernel
theorem dX8_tell_0 : decode cX8_tell 0 = .ok (.aload_n 0, 1) := by decide +kernel
theorem dX8_tell_1 : decode cX8_tell 1 = .ok (.getfield 315, 3) := by decide +kernel
theorem dX8_tell_4 : decode cX8_tell 4 = .ok (.bipush 60, 2) := by decide +kernel
theorem dX8_tell_6 : decode cX8_tell 6 = .ok (.if_icmp .lt 6, 3) := by decide +kernel
theorem dX8_tell_9 : decode cX8_tell 9 = .ok (.ldc 65, 2) := by decide +kernel
theorem dX8_tell_11 : decode cX8_tell 11 = .ok (.ireturn, 1) := by decide +kernel
theorem dX8_tell_12 : decode cX8_tell 12 = .ok (.aload_n 0, 1) := by decide +kernel
theorem dX8_tell_13 : decode cX8_tell 13 = .ok (.getfield 46, 3) := by decide +kernel
theorem dX8_tell_16 : decode cX8_tell 16 = .ok (.aload_n 0, 1) := by decide +kernel
theorem dX8_tell_17 : decode cX8_tell 17 = .ok (.getfield 315, 3) := by decide +kernel
theorem dX8_tell_20 : decode cX8_tell 20 = .ok (.iload_n 1, 1) := by decide +kernel
theorem dX8_tell_21 : decode cX8_tell 21 = .ok (.iastore, 1) := by decide +kernel
theorem dX8_tell_22 : decode cX8_tell 22 = .ok (.aload_n 0, 1) := by decide +kernel
theorem dX8_tell_23 : decode cX8_tell 23 = .ok (.dup, 1) := by decide +kernel
theorem dX8_tell_24 : decode cX8_tell 24 = .ok (.getfield 315, 3) := by decide +kernel
theorem dX8_tell_27 : decode cX8_tell 27 = .ok (.iconst 1, 1) := by decide +kernel
theorem dX8_tell_28 : decode cX8_tell 28 = .ok (.iadd, 1) := by decide +kernel
theorem dX8_tell_29 : decode cX8_tell 29 = .ok (.putfield 315, 3) := by decide +kernel
theorem dX8_tell_32 : decode cX8_tell 32 = .ok (.aload_n 0, 1) := by decide +kernel
theorem dX8_tell_33 : decode cX8_tell 33 = .ok (.getfield 315, 3) := by decide +kernel
theorem dX8_tell_36 : decode cX8_tell 36 = .ok (.ireturn, 1) := by decide +kernel
theorem dX8_check_0 : decode cX8_check 0 = .ok (.aload_n 0, 1) := by decide +kernel
theorem dX8_check_1 : decode cX8_check 1 = .ok (.getfield 315, 3) := by decide +kernel
theorem dX8_check_4 : decode cX8_check 4 = .ok (.istore_n 2, 1) := by decide +kernel
theorem dX8_check_5 : decode cX8_check 5 = .ok (.aload_n 0, 1) := by decide +kernel
theorem dX8_check_6 : decode cX8_check 6 = .ok (.iconst 0, 1) := by decide +kernel
theorem dX8_check_7 : decode cX8_check 7 = .ok (.putfield 315, 3) := by decide +kernel
theorem dX8_check_10 : decode cX8_check 10 = .ok (.iload_n 1, 1) := by decide +kernel
theorem dX8_check_11 : decode cX8_check 11 = .ok (.iconst 1, 1) := by decide +kernel
theorem dX8_check_12 : decode cX8_check 12 = .ok (.bipush 30, 2) := by decide +kernel
theorem dX8_check_14 : decode cX8_check 14 = .ok (.invokestatic 56, 3) := by decide +kernel
theorem dX8_check_17 : decode cX8_check 17 = .ok (.ifCond .ne 6, 3) := by decide +kernel
theorem dX8_check_20 : decode cX8_check 20 = .ok (.ldc 60, 2) := by decide +kernel
theorem dX8_check_22 : decode cX8_check 22 = .ok (.ireturn, 1) := by decide +kernel
theorem dX8_check_23 : decode cX8_check 23 = .ok (.aload_n 0, 1) := by decide +kernel
theorem dX8_check_24 : decode cX8_check 24 = .ok (.getfield 318, 3) := by decide +kernel
theorem dX8_check_27 : decode cX8_check 27 = .ok (.ifCond .ne 7, 3) := by decide +kernel
theorem dX8_check_30 : decode cX8_check 30 = .ok (.ldc_w 314, 3) := by decide +kernel
theorem dX8_check_33 : decode cX8_check 33 = .ok (.ireturn, 1) := by decide +kernel
theorem dX8_check_34 : decode cX8_check 34 = .ok (.aload_n 0, 1) := by decide +kernel
theorem dX8_check_35 : decode cX8_check 35 = .ok (.getfield 19, 3) := by decide +kernel
theorem dX8_check_38 : decode cX8_check 38 = .ok (.aload_n 0, 1) := by decide +kernel
theorem dX8_check_39 : decode cX8_check 39 = .ok (.getfield 16, 3) := by decide +kernel
theorem dX8_check_42 : decode cX8_check 42 = .ok (.invokevirtual 322, 3) := by decide +kernel
theorem dX8_check_45 : decode cX8_check 45 = .ok (.iconst 0, 1) := by decide +kernel
theorem dX8_check_46 : decode cX8_check 46 = .ok (.istore_n 3, 1) := by decide +kernel
theorem dX8_check_47 : decode cX8_check 47 = .ok (.iconst 0, 1) := by decide +kernel
theorem dX8_check_48 : decode cX8_check 48 = .ok (.istore 4, 2) := by decide +kernel
theorem dX8_check_50 : decode cX8_check 50 = .ok (.iload 4, 2) := by decide +kernel
theorem dX8_check_52 : decode cX8_check 52 = .ok (.iload_n 1, 1) := by decide +kernel
theorem dX8_check_53 : decode cX8_check 53 = .ok (.if_icmp .ge 83, 3) := by decide +kernel
theorem dX8_check_56 : decode cX8_check 56 = .ok (.aload_n 0, 1) := by decide +kernel
theorem dX8_check_57 : decode cX8_check 57 = .ok (.getfield 19, 3) := by decide +kernel
theorem dX8_check_60 : decode cX8_check 60 = .ok (.getfield 145, 3) := by decide +kernel
theorem dX8_check_63 : decode cX8_check 63 = .ok (.sipush 9999, 3) := by decide +kernel
theorem dX8_check_66 : decode cX8_check 66 = .ok (.if_icmp .ge 70, 3) := by decide +kernel
theorem dX8_check_69 : decode cX8_check 69 = .ok (.aload_n 0, 1) := by decide +kernel
theorem dX8_check_70 : decode cX8_check 70 = .ok (.getfield 19, 3) := by decide +kernel
theorem dX8_check_73 : decode cX8_check 73 = .ok (.invokevirtual 148, 3) := by decide +kernel
theorem dX8_check_76 : decode cX8_check 76 = .ok (.pop, 1) := by decide +kernel
theorem dX8_check_77 : decode cX8_check 77 = .ok (.aload_n 0, 1) := by decide +kernel
theorem dX8_check_78 : decode cX8_check 78 = .ok (.iload_n 3, 1) := by decide +kernel
theorem dX8_check_79 : decode cX8_check 79 = .ok (.iload_n 2, 1) := by decide +kernel
theorem dX8_check_80 : decode cX8_check 80 = .ok (.aload_n 0, 1) := by decide +kernel
theorem dX8_check_81 : decode cX8_check 81 = .ok (.getfield 19, 3) := by decide +kernel
theorem dX8_check_84 : decode cX8_check 84 = .ok (.aload_n 0, 1) := by decide +kernel
theorem dX8_check_85 : decode cX8_check 85 = .ok (.getfield 19, 3) := by decide +kernel
theorem dX8_check_88 : decode cX8_check 88 = .ok (.invokevirtual 194, 3) := by decide +kernel
theorem dX8_check_91 : decode cX8_check 91 = .ok (.invokevirtual 191, 3) := by decide +kernel
theorem dX8_check_94 : decode cX8_check 94 = .ok (.invokevirtual 325, 3) := by decide +kernel
theorem dX8_check_97 : decode cX8_check 97 = .ok (.ifCond .ne 7, 3) := by decide +kernel
theorem dX8_check_100 : decode cX8_check 100 = .ok (.iconst 1, 1) := by decide +kernel
theorem dX8_check_101 : decode cX8_check 101 = .ok (.iload_n 3, 1) := by decide +kernel
theorem dX8_check_102 : decode cX8_check 102 = .ok (.iadd, 1) := by decide +kernel
theorem dX8_check_103 : decode cX8_check 103 = .ok (.ireturn, 1) := by decide +kernel
theorem dX8_check_104 : decode cX8_check 104 = .ok (.iinc 3 1, 3) := by decide +kernel
theorem dX8_check_107 : decode cX8_check 107 = .ok (.aload_n 0, 1) := by decide +kernel
theorem dX8_check_108 : decode cX8_check 108 = .ok (.iload_n 3, 1) := by decide +kernel
theorem dX8_check_109 : decode cX8_check 109 = .ok (.iload_n 2, 1) := by decide +kernel
theorem dX8_check_110 : decode cX8_check 110 = .ok (.aload_n 0, 1) := by decide +kernel
theorem dX8_check_111 : decode cX8_check 111 = .ok (.getfield 19, 3) := by decide +kernel
theorem dX8_check_114 : decode cX8_check 114 = .ok (.getfield 328, 3) := by decide +kernel
theorem dX8_check_117 : decode cX8_check 117 = .ok (.invokevirtual 325, 3) := by decide +kernel
theorem dX8_check_120 : decode cX8_check 120 = .ok (.ifCond .ne 7, 3) := by decide +kernel
theorem dX8_check_123 : decode cX8_check 123 = .ok (.iconst 1, 1) := by decide +kernel
theorem dX8_check_124 : decode cX8_check 124 = .ok (.iload_n 3, 1) := by decide +kernel
theorem dX8_check_125 : decode cX8_check 125 = .ok (.iadd, 1) := by decide +kernel
theorem dX8_check_126 : decode cX8_check 126 = .ok (.ireturn, 1) := by decide +kernel
theorem dX8_check_127 : decode cX8_check 127 = .ok (.iinc 3 1, 3) := by decide +kernel
theorem dX8_check_130 : decode cX8_check 130 = .ok (.iinc 4 1, 3) := by decide +kernel
theorem dX8_check_133 : decode cX8_check 133 = .ok (.goto (-83), 3) := by decide +kernel
theorem dX8_check_136 : decode cX8_check 136 = .ok (.iload_n 3, 1) := by decide +kernel
theorem dX8_check_137 : decode cX8_check 137 = .ok (.iload_n 2, 1) := by decide +kernel
theorem dX8_check_138 : decode cX8_check 138 = .ok (.if_icmp .ne 7, 3) := by decide +kernel
theorem dX8_check_141 : decode cX8_check 141 = .ok (.iconst 0, 1) := by decide +kernel
theorem dX8_check_142 : decode cX8_check 142 = .ok (.goto 6, 3) := by decide +kernel
theorem dX8_check_145 : decode cX8_check 145 = .ok (.iconst 1, 1) := by decide +kernel
theorem dX8_check_146 : decode cX8_check 146 = .ok (.iload_n 3, 1) := by decide +kernel
theorem dX8_check_147 : decode cX8_check 147 = .ok (.iadd, 1) := by decide +kernel
theorem dX8_check_148 : decode cX8_check 148 = .ok (.ireturn, 1) := by decide +kernel
theorem dX8_keep_0 : decode cX8_keep 0 = .ok (.aload_n 0, 1) := by decide +kernel
theorem dX8_keep_1 : decode cX8_keep 1 = .ok (.getfield 16, 3) := by decide +kernel
theorem dX8_keep_4 : decode cX8_keep 4 = .ok (.aload_n 0, 1) := by decide +kernel
theorem dX8_keep_5 : decode cX8_keep 5 = .ok (.getfield 10, 3) := by decide +kernel
theorem dX8_keep_8 : decode cX8_keep 8 = .ok (.invokevirtual 322, 3) := by decide +kernel
theorem dX8_keep_11 : decode cX8_keep 11 = .ok (.aload_n 0, 1) := by decide +kernel
theorem dX8_keep_12 : decode cX8_keep 12 = .ok (.iconst 1, 1) := by decide +kernel
theorem dX8_keep_13 : decode cX8_keep 13 = .ok (.putfield 318, 3) := by decide +kernel
theorem dX8_keep_16 : decode cX8_keep 16 = .ok (.aload_n 0, 1) := by decide +kernel
theorem dX8_keep_17 : decode cX8_keep 17 = .ok (.getfield 16, 3) := by decide +kernel
theorem dX8_keep_20 : decode cX8_keep 20 = .ok (.getfield 206, 3) := by decide +kernel
theorem dX8_keep_23 : decode cX8_keep 23 = .ok (.ireturn, 1) := by decide +kernel
theorem dX8_back_0 : decode cX8_back 0 = .ok (.aload_n 0, 1) := by decide +kernel
theorem dX8_back_1 : decode cX8_back 1 = .ok (.getfield 318, 3) := by decide +kernel
theorem dX8_back_4 : decode cX8_back 4 = .ok (.ifCond .ne 7, 3) := by decide +kernel
theorem dX8_back_7 : decode cX8_back 7 = .ok (.ldc_w 314, 3) := by decide +kernel
theorem dX8_back_10 : decode cX8_back 10 = .ok (.ireturn, 1) := by decide +kernel
theorem dX8_back_11 : decode cX8_back 11 = .ok (.aload_n 0, 1) := by decide +kernel
theorem dX8_back_12 : decode cX8_back 12 = .ok (.getfield 10, 3) := by decide +kernel
theorem dX8_back_15 : decode cX8_back 15 = .ok (.aload_n 0, 1) := by decide +kernel
theorem dX8_back_16 : decode cX8_back 16 = .ok (.getfield 16, 3) := by decide +kernel
theorem dX8_back_19 : decode cX8_back 19 = .ok (.invokevirtual 322, 3) := by decide +kernel
theorem dX8_back_22 : decode cX8_back 22 = .ok (.aload_n 0, 1) := by decide +kernel
theorem dX8_back_23 : decode cX8_back 23 = .ok (.getfield 10, 3) := by decide +kernel
theorem dX8_back_26 : decode cX8_back 26 = .ok (.getfield 206, 3) := by decide +kernel
theorem dX8_back_29 : decode cX8_back 29 = .ok (.ireturn, 1) := by decide +kernel
theorem dX8_count_0 : decode cX8_count 0 = .ok (.iload_n 1, 1) := by decide +kernel
theorem dX8_count_1 : decode cX8_count 1 = .ok (.tableswitch 149 0 9 #[55, 63, 78, 93, 104, 112, 120, 128, 133, 141], 55) := by decide +kernel
theorem dX8_count_56 : decode cX8_count 56 = .ok (.aload_n 0, 1) := by decide +kernel
theorem dX8_count_57 : decode cX8_count 57 = .ok (.getfield 10, 3) := by decide +kernel
theorem dX8_count_60 : decode cX8_count 60 = .ok (.getfield 206, 3) := by decide +kernel
theorem dX8_count_63 : decode cX8_count 63 = .ok (.ireturn, 1) := by decide +kernel
theorem dX8_count_64 : decode cX8_count 64 = .ok (.aload_n 0, 1) := by decide +kernel
theorem dX8_count_65 : decode cX8_count 65 = .ok (.getfield 10, 3) := by decide +kernel
theorem dX8_count_68 : decode cX8_count 68 = .ok (.aload_n 0, 1) := by decide +kernel
theorem dX8_count_69 : decode cX8_count 69 = .ok (.getfield 10, 3) := by decide +kernel
theorem dX8_count_72 : decode cX8_count 72 = .ok (.invokevirtual 194, 3) := by decide +kernel
theorem dX8_count_75 : decode cX8_count 75 = .ok (.invokevirtual 191, 3) := by decide +kernel
theorem dX8_count_78 : decode cX8_count 78 = .ok (.ireturn, 1) := by decide +kernel
theorem dX8_count_79 : decode cX8_count 79 = .ok (.aload_n 0, 1) := by decide +kernel
theorem dX8_count_80 : decode cX8_count 80 = .ok (.getfield 10, 3) := by decide +kernel
theorem dX8_count_83 : decode cX8_count 83 = .ok (.aload_n 0, 1) := by decide +kernel
theorem dX8_count_84 : decode cX8_count 84 = .ok (.getfield 10, 3) := by decide +kernel
theorem dX8_count_87 : decode cX8_count 87 = .ok (.invokevirtual 194, 3) := by decide +kernel
theorem dX8_count_90 : decode cX8_count 90 = .ok (.invokevirtual 197, 3) := by decide +kernel
theorem dX8_count_93 : decode cX8_count 93 = .ok (.ireturn, 1) := by decide +kernel
theorem dX8_count_94 : decode cX8_count 94 = .ok (.aload_n 0, 1) := by decide +kernel
theorem dX8_count_95 : decode cX8_count 95 = .ok (.getfield 10, 3) := by decide +kernel
theorem dX8_count_98 : decode cX8_count 98 = .ok (.getfield 125, 3) := by decide +kernel
theorem dX8_count_101 : decode cX8_count 101 = .ok (.getfield 331, 3) := by decide +kernel
theorem dX8_count_104 : decode cX8_count 104 = .ok (.ireturn, 1) := by decide +kernel
theorem dX8_count_105 : decode cX8_count 105 = .ok (.aload_n 0, 1) := by decide +kernel
theorem dX8_count_106 : decode cX8_count 106 = .ok (.getfield 10, 3) := by decide +kernel
theorem dX8_count_109 : decode cX8_count 109 = .ok (.getfield 328, 3) := by decide +kernel
theorem dX8_count_112 : decode cX8_count 112 = .ok (.ireturn, 1) := by decide +kernel
theorem dX8_count_113 : decode cX8_count 113 = .ok (.aload_n 0, 1) := by decide +kernel
theorem dX8_count_114 : decode cX8_count 114 = .ok (.getfield 10, 3) := by decide +kernel
theorem dX8_count_117 : decode cX8_count 117 = .ok (.getfield 145, 3) := by decide +kernel
theorem dX8_count_120 : decode cX8_count 120 = .ok (.ireturn, 1) := by decide +kernel
theorem dX8_count_121 : decode cX8_count 121 = .ok (.aload_n 0, 1) := by decide +kernel
theorem dX8_count_122 : decode cX8_count 122 = .ok (.getfield 10, 3) := by decide +kernel
theorem dX8_count_125 : decode cX8_count 125 = .ok (.getfield 227, 3) := by decide +kernel
theorem dX8_count_128 : decode cX8_count 128 = .ok (.ireturn, 1) := by decide +kernel
theorem dX8_count_129 : decode cX8_count 129 = .ok (.aload_n 0, 1) := by decide +kernel
theorem dX8_count_130 : decode cX8_count 130 = .ok (.getfield 315, 3) := by decide +kernel
theorem dX8_count_133 : decode cX8_count 133 = .ok (.ireturn, 1) := by decide +kernel
theorem dX8_count_134 : decode cX8_count 134 = .ok (.aload_n 0, 1) := by decide +kernel
theorem dX8_count_135 : decode cX8_count 135 = .ok (.getfield 33, 3) := by decide +kernel
theorem dX8_count_138 : decode cX8_count 138 = .ok (.getfield 212, 3) := by decide +kernel
theorem dX8_count_141 : decode cX8_count 141 = .ok (.ireturn, 1) := by decide +kernel
theorem dX8_count_142 : decode cX8_count 142 = .ok (.aload_n 0, 1) := by decide +kernel
theorem dX8_count_143 : decode cX8_count 143 = .ok (.getfield 10, 3) := by decide +kernel
theorem dX8_count_146 : decode cX8_count 146 = .ok (.getfield 114, 3) := by decide +kernel
theorem dX8_count_149 : decode cX8_count 149 = .ok (.ireturn, 1) := by decide +kernel
theorem dX8_count_150 : decode cX8_count 150 = .ok (.ldc 60, 2) := by decide +kernel
theorem dX8_count_152 : decode cX8_count 152 = .ok (.ireturn, 1) := by decide +kernel
theorem dX8_sayOrRefuse_0 : decode cX8_sayOrRefuse 0 = .ok (.iload_n 1, 1) := by decide +kernel
theorem dX8_sayOrRefuse_1 : decode cX8_sayOrRefuse 1 = .ok (.iconst 0, 1) := by decide +kernel
theorem dX8_sayOrRefuse_2 : decode cX8_sayOrRefuse 2 = .ok (.iconst 3, 1) := by decide +kernel
theorem dX8_sayOrRefuse_3 : decode cX8_sayOrRefuse 3 = .ok (.invokestatic 56, 3) := by decide +kernel
theorem dX8_sayOrRefuse_6 : decode cX8_sayOrRefuse 6 = .ok (.ifCond .eq 25, 3) := by decide +kernel
theorem dX8_sayOrRefuse_9 : decode cX8_sayOrRefuse 9 = .ok (.aload_n 0, 1) := by decide +kernel
theorem dX8_sayOrRefuse_10 : decode cX8_sayOrRefuse 10 = .ok (.getfield 10, 3) := by decide +kernel
theorem dX8_sayOrRefuse_13 : decode cX8_sayOrRefuse 13 = .ok (.iload_n 2, 1) := by decide +kernel
theorem dX8_sayOrRefuse_14 : decode cX8_sayOrRefuse 14 = .ok (.invokevirtual 170, 3) := by decide +kernel
theorem dX8_sayOrRefuse_17 : decode cX8_sayOrRefuse 17 = .ok (.ifCond .eq 14, 3) := by decide +kernel
theorem dX8_sayOrRefuse_20 : decode cX8_sayOrRefuse 20 = .ok (.aload_n 0, 1) := by decide +kernel
theorem dX8_sayOrRefuse_21 : decode cX8_sayOrRefuse 21 = .ok (.getfield 10, 3) := by decide +kernel
theorem dX8_sayOrRefuse_24 : decode cX8_sayOrRefuse 24 = .ok (.iload_n 3, 1) := by decide +kernel
theorem dX8_sayOrRefuse_25 : decode cX8_sayOrRefuse 25 = .ok (.invokevirtual 170, 3) := by decide +kernel
theorem dX8_sayOrRefuse_28 : decode cX8_sayOrRefuse 28 = .ok (.ifCond .ne 6, 3) := by decide +kernel
theorem dX8_sayOrRefuse_31 : decode cX8_sayOrRefuse 31 = .ok (.ldc 60, 2) := by decide +kernel
theorem dX8_sayOrRefuse_33 : decode cX8_sayOrRefuse 33 = .ok (.ireturn, 1) := by decide +kernel
theorem dX8_sayOrRefuse_34 : decode cX8_sayOrRefuse 34 = .ok (.iload_n 2, 1) := by decide +kernel
theorem dX8_sayOrRefuse_35 : decode cX8_sayOrRefuse 35 = .ok (.iload_n 3, 1) := by decide +kernel
theorem dX8_sayOrRefuse_36 : decode cX8_sayOrRefuse 36 = .ok (.iand, 1) := by decide +kernel
theorem dX8_sayOrRefuse_37 : decode cX8_sayOrRefuse 37 = .ok (.ifCond .ne 9, 3) := by decide +kernel
theorem dX8_sayOrRefuse_40 : decode cX8_sayOrRefuse 40 = .ok (.iload_n 2, 1) := by decide +kernel
theorem dX8_sayOrRefuse_41 : decode cX8_sayOrRefuse 41 = .ok (.iload_n 3, 1) := by decide +kernel
theorem dX8_sayOrRefuse_42 : decode cX8_sayOrRefuse 42 = .ok (.ior, 1) := by decide +kernel
theorem dX8_sayOrRefuse_43 : decode cX8_sayOrRefuse 43 = .ok (.ifCond .ne 7, 3) := by decide +kernel
theorem dX8_sayOrRefuse_46 : decode cX8_sayOrRefuse 46 = .ok (.ldc_w 314, 3) := by decide +kernel
theorem dX8_sayOrRefuse_49 : decode cX8_sayOrRefuse 49 = .ok (.ireturn, 1) := by decide +kernel
theorem dX8_sayOrRefuse_50 : decode cX8_sayOrRefuse 50 = .ok (.aload_n 0, 1) := by decide +kernel
theorem dX8_sayOrRefuse_51 : decode cX8_sayOrRefuse 51 = .ok (.getfield 10, 3) := by decide +kernel
theorem dX8_sayOrRefuse_54 : decode cX8_sayOrRefuse 54 = .ok (.iload_n 2, 1) := by decide +kernel
theorem dX8_sayOrRefuse_55 : decode cX8_sayOrRefuse 55 = .ok (.iload_n 3, 1) := by decide +kernel
theorem dX8_sayOrRefuse_56 : decode cX8_sayOrRefuse 56 = .ok (.aload_n 0, 1) := by decide +kernel
theorem dX8_sayOrRefuse_57 : decode cX8_sayOrRefuse 57 = .ok (.getfield 10, 3) := by decide +kernel
theorem dX8_sayOrRefuse_60 : decode cX8_sayOrRefuse 60 = .ok (.iload_n 1, 1) := by decide +kernel
theorem dX8_sayOrRefuse_61 : decode cX8_sayOrRefuse 61 = .ok (.iconst 0, 1) := by decide +kernel
theorem dX8_sayOrRefuse_62 : decode cX8_sayOrRefuse 62 = .ok (.invokevirtual 104, 3) := by decide +kernel
theorem dX8_sayOrRefuse_65 : decode cX8_sayOrRefuse 65 = .ok (.aload_n 0, 1) := by decide +kernel
theorem dX8_sayOrRefuse_66 : decode cX8_sayOrRefuse 66 = .ok (.getfield 10, 3) := by decide +kernel
theorem dX8_sayOrRefuse_69 : decode cX8_sayOrRefuse 69 = .ok (.iload_n 1, 1) := by decide +kernel
theorem dX8_sayOrRefuse_70 : decode cX8_sayOrRefuse 70 = .ok (.iconst 1, 1) := by decide +kernel
theorem dX8_sayOrRefuse_71 : decode cX8_sayOrRefuse 71 = .ok (.invokevirtual 104, 3) := by decide +kernel
theorem dX8_sayOrRefuse_74 : decode cX8_sayOrRefuse 74 = .ok (.invokevirtual 334, 3) := by decide +kernel
theorem dX8_sayOrRefuse_77 : decode cX8_sayOrRefuse 77 = .ok (.ireturn, 1) := by decide +kernel
theorem dX8_sheetAt_0 : decode cX8_sheetAt 0 = .ok (.iload_n 1, 1) := by decide +kernel
theorem dX8_sheetAt_1 : decode cX8_sheetAt 1 = .ok (.iconst 0, 1) := by decide +kernel
theorem dX8_sheetAt_2 : decode cX8_sheetAt 2 = .ok (.iconst 3, 1) := by decide +kernel
theorem dX8_sheetAt_3 : decode cX8_sheetAt 3 = .ok (.invokestatic 56, 3) := by decide +kernel
theorem dX8_sheetAt_6 : decode cX8_sheetAt 6 = .ok (.ifCond .eq 12, 3) := by decide +kernel
theorem dX8_sheetAt_9 : decode cX8_sheetAt 9 = .ok (.aload_n 0, 1) := by decide +kernel
theorem dX8_sheetAt_10 : decode cX8_sheetAt 10 = .ok (.getfield 36, 3) := by decide +kernel
theorem dX8_sheetAt_13 : decode cX8_sheetAt 13 = .ok (.iload_n 1, 1) := by decide +kernel
theorem dX8_sheetAt_14 : decode cX8_sheetAt 14 = .ok (.aaload, 1) := by decide +kernel
theorem dX8_sheetAt_15 : decode cX8_sheetAt 15 = .ok (.goto 4, 3) := by decide +kernel
theorem dX8_sheetAt_18 : decode cX8_sheetAt 18 = .ok (.aconst_null, 1) := by decide +kernel
theorem dX8_sheetAt_19 : decode cX8_sheetAt 19 = .ok (.areturn, 1) := by decide +kernel
theorem dX8_slotAt_0 : decode cX8_slotAt 0 = .ok (.iload_n 1, 1) := by decide +kernel
theorem dX8_slotAt_1 : decode cX8_slotAt 1 = .ok (.iconst 0, 1) := by decide +kernel
theorem dX8_slotAt_2 : decode cX8_slotAt 2 = .ok (.iconst 4, 1) := by decide +kernel
theorem dX8_slotAt_3 : decode cX8_slotAt 3 = .ok (.invokestatic 56, 3) := by decide +kernel
theorem dX8_slotAt_6 : decode cX8_slotAt 6 = .ok (.ifCond .eq 12, 3) := by decide +kernel
theorem dX8_slotAt_9 : decode cX8_slotAt 9 = .ok (.aload_n 0, 1) := by decide +kernel
theorem dX8_slotAt_10 : decode cX8_slotAt 10 = .ok (.getfield 42, 3) := by decide +kernel
theorem dX8_slotAt_13 : decode cX8_slotAt 13 = .ok (.iload_n 1, 1) := by decide +kernel
theorem dX8_slotAt_14 : decode cX8_slotAt 14 = .ok (.aaload, 1) := by decide +kernel
theorem dX8_slotAt_15 : decode cX8_slotAt 15 = .ok (.goto 4, 3) := by decide +kernel
theorem dX8_slotAt_18 : decode cX8_slotAt 18 = .ok (.aconst_null, 1) := by decide +kernel
theorem dX8_slotAt_19 : decode cX8_slotAt 19 = .ok (.areturn, 1) := by decide +kernel
theorem dX8_stands_0 : decode cX8_stands 0 = .ok (.iload_n 1, 1) := by decide +kernel
theorem dX8_stands_1 : decode cX8_stands 1 = .ok (.iload_n 2, 1) := by decide +kernel
theorem dX8_stands_2 : decode cX8_stands 2 = .ok (.if_icmp .ge 23, 3) := by decide +kernel
theorem dX8_stands_5 : decode cX8_stands 5 = .ok (.iload_n 1, 1) := by decide +kernel
theorem dX8_stands_6 : decode cX8_stands 6 = .ok (.bipush 60, 2) := by decide +kernel
theorem dX8_stands_8 : decode cX8_stands 8 = .ok (.if_icmp .ge 17, 3) := by decide +kernel
theorem dX8_stands_11 : decode cX8_stands 11 = .ok (.aload_n 0, 1) := by decide +kernel
theorem dX8_stands_12 : decode cX8_stands 12 = .ok (.getfield 46, 3) := by decide +kernel
theorem dX8_stands_15 : decode cX8_stands 15 = .ok (.iload_n 1, 1) := by decide +kernel
theorem dX8_stands_16 : decode cX8_stands 16 = .ok (.iaload, 1) := by decide +kernel
theorem dX8_stands_17 : decode cX8_stands 17 = .ok (.iload_n 3, 1) := by decide +kernel
theorem dX8_stands_18 : decode cX8_stands 18 = .ok (.if_icmp .ne 7, 3) := by decide +kernel
theorem dX8_stands_21 : decode cX8_stands 21 = .ok (.iconst 1, 1) := by decide +kernel
theorem dX8_stands_22 : decode cX8_stands 22 = .ok (.goto 4, 3) := by decide +kernel
theorem dX8_stands_25 : decode cX8_stands 25 = .ok (.iconst 0, 1) := by decide +kernel
theorem dX8_stands_26 : decode cX8_stands 26 = .ok (.ireturn, 1) := by decide +kernel
theorem dX8_isKind_0 : decode cX8_isKind 0 = .ok (.iload_n 0, 1) := by decide +kernel
theorem dX8_isKind_1 : decode cX8_isKind 1 = .ok (.iconst 0, 1) := by decide +kernel
theorem dX8_isKind_2 : decode cX8_isKind 2 = .ok (.iconst 5, 1) := by decide +kernel
theorem dX8_isKind_3 : decode cX8_isKind 3 = .ok (.invokestatic 56, 3) := by decide +kernel
theorem dX8_isKind_6 : decode cX8_isKind 6 = .ok (.ireturn, 1) := by decide +kernel
theorem dX8_within_0 : decode cX8_within 0 = .ok (.iload_n 0, 1) := by decide +kernel
theorem dX8_within_1 : decode cX8_within 1 = .ok (.iload_n 1, 1) := by decide +kernel
theorem dX8_within_2 : decode cX8_within 2 = .ok (.if_icmp .lt 12, 3) := by decide +kernel
theorem dX8_within_5 : decode cX8_within 5 = .ok (.iload_n 0, 1) := by decide +kernel
theorem dX8_within_6 : decode cX8_within 6 = .ok (.iload_n 2, 1) := by decide +kernel
theorem dX8_within_7 : decode cX8_within 7 = .ok (.if_icmp .gt 7, 3) := by decide +kernel
theorem dX8_within_10 : decode cX8_within 10 = .ok (.iconst 1, 1) := by decide +kernel
theorem dX8_within_11 : decode cX8_within 11 = .ok (.goto 4, 3) := by decide +kernel
theorem dX8_within_14 : decode cX8_within 14 = .ok (.iconst 0, 1) := by decide +kernel
theorem dX8_within_15 : decode cX8_within 15 = .ok (.ireturn, 1) := by decide +kernel
theorem dX8_held_0 : decode cX8_held 0 = .ok (.iload_n 1, 1) := by decide +kernel
theorem dX8_held_1 : decode cX8_held 1 = .ok (.iload_n 2, 1) := by decide +kernel
theorem dX8_held_2 : decode cX8_held 2 = .ok (.iload_n 0, 1) := by decide +kernel
theorem dX8_held_3 : decode cX8_held 3 = .ok (.invokestatic 338, 3) := by decide +kernel
theorem dX8_held_6 : decode cX8_held 6 = .ok (.invokestatic 343, 3) := by decide +kernel
theorem dX8_held_9 : decode cX8_held 9 = .ok (.ireturn, 1) := by decide +kernel
theorem dX8_commonDivisor_0 : decode cX8_commonDivisor 0 = .ok (.iload_n 0, 1) := by decide +kernel
theorem dX8_commonDivisor_1 : decode cX8_commonDivisor 1 = .ok (.istore_n 2, 1) := by decide +kernel
theorem dX8_commonDivisor_2 : decode cX8_commonDivisor 2 = .ok (.iload_n 1, 1) := by decide +kernel
theorem dX8_commonDivisor_3 : decode cX8_commonDivisor 3 = .ok (.istore_n 3, 1) := by decide +kernel
theorem dX8_commonDivisor_4 : decode cX8_commonDivisor 4 = .ok (.iconst 0, 1) := by decide +kernel
theorem dX8_commonDivisor_5 : decode cX8_commonDivisor 5 = .ok (.istore 4, 2) := by decide +kernel
theorem dX8_commonDivisor_7 : decode cX8_commonDivisor 7 = .ok (.iload 4, 2) := by decide +kernel
theorem dX8_commonDivisor_9 : decode cX8_commonDivisor 9 = .ok (.bipush 64, 2) := by decide +kernel
theorem dX8_commonDivisor_11 : decode cX8_commonDivisor 11 = .ok (.if_icmp .ge 23, 3) := by decide +kernel
theorem dX8_commonDivisor_14 : decode cX8_commonDivisor 14 = .ok (.iload_n 3, 1) := by decide +kernel
theorem dX8_commonDivisor_15 : decode cX8_commonDivisor 15 = .ok (.ifCond .eq 19, 3) := by decide +kernel
theorem dX8_commonDivisor_18 : decode cX8_commonDivisor 18 = .ok (.iload_n 2, 1) := by decide +kernel
theorem dX8_commonDivisor_19 : decode cX8_commonDivisor 19 = .ok (.iload_n 3, 1) := by decide +kernel
theorem dX8_commonDivisor_20 : decode cX8_commonDivisor 20 = .ok (.irem, 1) := by decide +kernel
theorem dX8_commonDivisor_21 : decode cX8_commonDivisor 21 = .ok (.istore 5, 2) := by decide +kernel
theorem dX8_commonDivisor_23 : decode cX8_commonDivisor 23 = .ok (.iload_n 3, 1) := by decide +kernel
theorem dX8_commonDivisor_24 : decode cX8_commonDivisor 24 = .ok (.istore_n 2, 1) := by decide +kernel
theorem dX8_commonDivisor_25 : decode cX8_commonDivisor 25 = .ok (.iload 5, 2) := by decide +kernel
theorem dX8_commonDivisor_27 : decode cX8_commonDivisor 27 = .ok (.istore_n 3, 1) := by decide +kernel
theorem dX8_commonDivisor_28 : decode cX8_commonDivisor 28 = .ok (.iinc 4 1, 3) := by decide +kernel
theorem dX8_commonDivisor_31 : decode cX8_commonDivisor 31 = .ok (.goto (-24), 3) := by decide +kernel
theorem dX8_commonDivisor_34 : decode cX8_commonDivisor 34 = .ok (.iload_n 2, 1) := by decide +kernel
theorem dX8_commonDivisor_35 : decode cX8_commonDivisor 35 = .ok (.ireturn, 1) := by decide +kernel
theorem dX9_init_0 : decode cX9_init 0 = .ok (.aload_n 0, 1) := by decide +kernel
theorem dX9_init_1 : decode cX9_init 1 = .ok (.invokespecial 1, 3) := by decide +kernel
theorem dX9_init_4 : decode cX9_init 4 = .ok (.aload_n 0, 1) := by decide +kernel
theorem dX9_init_5 : decode cX9_init 5 = .ok (.sipush 3154, 3) := by decide +kernel
theorem dX9_init_8 : decode cX9_init 8 = .ok (.newarray .int, 2) := by decide +kernel
theorem dX9_init_10 : decode cX9_init 10 = .ok (.putfield 7, 3) := by decide +kernel
theorem dX9_init_13 : decode cX9_init 13 = .ok (.aload_n 0, 1) := by decide +kernel
theorem dX9_init_14 : decode cX9_init 14 = .ok (.sipush 3154, 3) := by decide +kernel
theorem dX9_init_17 : decode cX9_init 17 = .ok (.newarray .int, 2) := by decide +kernel
theorem dX9_init_19 : decode cX9_init 19 = .ok (.putfield 13, 3) := by decide +kernel
theorem dX9_init_22 : decode cX9_init 22 = .ok (.aload_n 0, 1) := by decide +kernel
theorem dX9_init_23 : decode cX9_init 23 = .ok (.sipush 3154, 3) := by decide +kernel
theorem dX9_init_26 : decode cX9_init 26 = .ok (.newarray .int, 2) := by decide +kernel
theorem dX9_init_28 : decode cX9_init 28 = .ok (.putfield 16, 3) := by decide +kernel
theorem dX9_init_31 : decode cX9_init 31 = .ok (.aload_n 0, 1) := by decide +kernel
theorem dX9_init_32 : decode cX9_init 32 = .ok (.iconst 4, 1) := by decide +kernel
theorem dX9_init_33 : decode cX9_init 33 = .ok (.newarray .int, 2) := by decide +kernel
theorem dX9_init_35 : decode cX9_init 35 = .ok (.putfield 19, 3) := by decide +kernel
theorem dX9_init_38 : decode cX9_init 38 = .ok (.aload_n 0, 1) := by decide +kernel
theorem dX9_init_39 : decode cX9_init 39 = .ok (.iconst 4, 1) := by decide +kernel
theorem dX9_init_40 : decode cX9_init 40 = .ok (.newarray .int, 2) := by decide +kernel
theorem dX9_init_42 : decode cX9_init 42 = .ok (.putfield 22, 3) := by decide +kernel
theorem dX9_init_45 : decode cX9_init 45 = .ok (.aload_n 0, 1) := by decide +kernel
theorem dX9_init_46 : decode cX9_init 46 = .ok (.bipush 96, 2) := by decide +kernel
theorem dX9_init_48 : decode cX9_init 48 = .ok (.newarray .int, 2) := by decide +kernel
theorem dX9_init_50 : decode cX9_init 50 = .ok (.putfield 25, 3) := by decide +kernel
theorem dX9_init_53 : decode cX9_init 53 = .ok (.aload_n 0, 1) := by decide +kernel
theorem dX9_init_54 : decode cX9_init 54 = .ok (.iconst 5, 1) := by decide +kernel
theorem dX9_init_55 : decode cX9_init 55 = .ok (.newarray .int, 2) := by decide +kernel
theorem dX9_init_57 : decode cX9_init 57 = .ok (.putfield 28, 3) := by decide +kernel
theorem dX9_init_60 : decode cX9_init 60 = .ok (.aload_n 0, 1) := by decide +kernel
theorem dX9_init_61 : decode cX9_init 61 = .ok (.iconst 5, 1) := by decide +kernel
theorem dX9_init_62 : decode cX9_init 62 = .ok (.newarray .int, 2) := by decide +kernel
theorem dX9_init_64 : decode cX9_init 64 = .ok (.putfield 31, 3) := by decide +kernel
theorem dX9_init_67 : decode cX9_init 67 = .ok (.aload_n 0, 1) := by decide +kernel
theorem dX9_init_68 : decode cX9_init 68 = .ok (.iconst 5, 1) := by decide +kernel
theorem dX9_init_69 : decode cX9_init 69 = .ok (.newarray .int, 2) := by decide +kernel
theorem dX9_init_71 : decode cX9_init 71 = .ok (.putfield 34, 3) := by decide +kernel
theorem dX9_init_74 : decode cX9_init 74 = .ok (.aload_n 0, 1) := by decide +kernel
theorem dX9_init_75 : decode cX9_init 75 = .ok (.iconst 5, 1) := by decide +kernel
theorem dX9_init_76 : decode cX9_init 76 = .ok (.newarray .int, 2) := by decide +kernel
theorem dX9_init_78 : decode cX9_init 78 = .ok (.putfield 37, 3) := by decide +kernel
theorem dX9_init_81 : decode cX9_init 81 = .ok (.aload_n 0, 1) := by decide +kernel
theorem dX9_init_82 : decode cX9_init 82 = .ok (.bipush 120, 2) := by decide +kernel
theorem dX9_init_84 : decode cX9_init 84 = .ok (.newarray .int, 2) := by decide +kernel
theorem dX9_init_86 : decode cX9_init 86 = .ok (.putfield 40, 3) := by decide +kernel
theorem dX9_init_89 : decode cX9_init 89 = .ok (.aload_n 0, 1) := by decide +kernel
theorem dX9_init_90 : decode cX9_init 90 = .ok (.bipush 96, 2) := by decide +kernel
theorem dX9_init_92 : decode cX9_init 92 = .ok (.newarray .int, 2) := by decide +kernel
theorem dX9_init_94 : decode cX9_init 94 = .ok (.putfield 43, 3) := by decide +kernel
theorem dX9_init_97 : decode cX9_init 97 = .ok (.aload_n 0, 1) := by decide +kernel
theorem dX9_init_98 : decode cX9_init 98 = .ok (.sipush 128, 3) := by decide +kernel
theorem dX9_init_101 : decode cX9_init 101 = .ok (.newarray .int, 2) := by decide +kernel
theorem dX9_init_103 : decode cX9_init 103 = .ok (.putfield 46, 3) := by decide +kernel
theorem dX9_init_106 : decode cX9_init 106 = .ok (.aload_n 0, 1) := by decide +kernel
theorem dX9_init_107 : decode cX9_init 107 = .ok (.bipush 100, 2) := by decide +kernel
theorem dX9_init_109 : decode cX9_init 109 = .ok (.newarray .int, 2) := by decide +kernel
theorem dX9_init_111 : decode cX9_init 111 = .ok (.putfield 49, 3) := by decide +kernel
theorem dX9_init_114 : decode cX9_init 114 = .ok (.aload_n 0, 1) := by decide +kernel
theorem dX9_init_115 : decode cX9_init 115 = .ok (.bipush 24, 2) := by decide +kernel
theorem dX9_init_117 : decode cX9_init 117 = .ok (.newarray .int, 2) := by decide +kernel
theorem dX9_init_119 : decode cX9_init 119 = .ok (.putfield 52, 3) := by decide +kernel
theorem dX9_init_122 : decode cX9_init 122 = .ok (.aload_n 0, 1) := by decide +kernel
theorem dX9_init_123 : decode cX9_init 123 = .ok (.bipush 60, 2) := by decide +kernel
theorem dX9_init_125 : decode cX9_init 125 = .ok (.newarray .int, 2) := by decide +kernel
theorem dX9_init_127 : decode cX9_init 127 = .ok (.putfield 55, 3) := by decide +kernel
theorem dX9_init_130 : decode cX9_init 130 = .ok (.aload_n 0, 1) := by decide +kernel
theorem dX9_init_131 : decode cX9_init 131 = .ok (.bipush 60, 2) := by decide +kernel
theorem dX9_init_133 : decode cX9_init 133 = .ok (.newarray .int, 2) := by decide +kernel
theorem dX9_init_135 : decode cX9_init 135 = .ok (.putfield 58, 3) := by decide +kernel
theorem dX9_init_138 : decode cX9_init 138 = .ok (.aload_n 0, 1) := by decide +kernel
theorem dX9_init_139 : decode cX9_init 139 = .ok (.getfield 7, 3) := by decide +kernel
theorem dX9_init_142 : decode cX9_init 142 = .ok (.iconst 4, 1) := by decide +kernel
theorem dX9_init_143 : decode cX9_init 143 = .ok (.iconst 1, 1) := by decide +kernel
theorem dX9_init_144 : decode cX9_init 144 = .ok (.iastore, 1) := by decide +kernel
theorem dX9_init_145 : decode cX9_init 145 = .ok (.iconst 0, 1) := by decide +kernel
theorem dX9_init_146 : decode cX9_init 146 = .ok (.istore_n 1, 1) := by decide +kernel
theorem dX9_init_147 : decode cX9_init 147 = .ok (.iload_n 1, 1) := by decide +kernel
theorem dX9_init_148 : decode cX9_init 148 = .ok (.bipush 8, 2) := by decide +kernel
theorem dX9_init_150 : decode cX9_init 150 = .ok (.if_icmp .ge 20, 3) := by decide +kernel
theorem dX9_init_153 : decode cX9_init 153 = .ok (.aload_n 0, 1) := by decide +kernel
theorem dX9_init_154 : decode cX9_init 154 = .ok (.getfield 7, 3) := by decide +kernel
theorem dX9_init_157 : decode cX9_init 157 = .ok (.bipush 6, 2) := by decide +kernel
theorem dX9_init_159 : decode cX9_init 159 = .ok (.iload_n 1, 1) := by decide +kernel
theorem dX9_init_160 : decode cX9_init 160 = .ok (.iadd, 1) := by decide +kernel
theorem dX9_init_161 : decode cX9_init 161 = .ok (.bipush 100, 2) := by decide +kernel
theorem dX9_init_163 : decode cX9_init 163 = .ok (.iastore, 1) := by decide +kernel
theorem dX9_init_164 : decode cX9_init 164 = .ok (.iinc 1 1, 3) := by decide +kernel
theorem dX9_init_167 : decode cX9_init 167 = .ok (.goto (-20), 3) := by decide +kernel
theorem dX9_init_170 : decode cX9_init 170 = .ok (.iconst 0, 1) := by decide +kernel
theorem dX9_init_171 : decode cX9_init 171 = .ok (.istore_n 1, 1) := by decide +kernel
theorem dX9_init_172 : decode cX9_init 172 = .ok (.iload_n 1, 1) := by decide +kernel
theorem dX9_init_173 : decode cX9_init 173 = .ok (.iconst 4, 1) := by decide +kernel
theorem dX9_init_174 : decode cX9_init 174 = .ok (.if_icmp .ge 16, 3) := by decide +kernel
theorem dX9_init_177 : decode cX9_init 177 = .ok (.aload_n 0, 1) := by decide +kernel
theorem dX9_init_178 : decode cX9_init 178 = .ok (.getfield 19, 3) := by decide +kernel
theorem dX9_init_181 : decode cX9_init 181 = .ok (.iload_n 1, 1) := by decide +kernel
theorem dX9_init_182 : decode cX9_init 182 = .ok (.iconst (-1), 1) := by decide +kernel
theorem dX9_init_183 : decode cX9_init 183 = .ok (.iastore, 1) := by decide +kernel
theorem dX9_init_184 : decode cX9_init 184 = .ok (.iinc 1 1, 3) := by decide +kernel
theorem dX9_init_187 : decode cX9_init 187 = .ok (.goto (-15), 3) := by decide +kernel
theorem dX9_init_190 : decode cX9_init 190 = .ok (.return_, 1) := by decide +kernel
theorem dX9_isIn_0 : decode cX9_isIn 0 = .ok (.lload_n 0, 1) := by decide +kernel
theorem dX9_isIn_1 : decode cX9_isIn 1 = .ok (.lload_n 2, 1) := by decide +kernel
theorem dX9_isIn_2 : decode cX9_isIn 2 = .ok (.lcmp, 1) := by decide +kernel
theorem dX9_isIn_3 : decode cX9_isIn 3 = .ok (.ifCond .lt 14, 3) := by decide +kernel
theorem dX9_isIn_6 : decode cX9_isIn 6 = .ok (.lload_n 0, 1) := by decide +kernel
theorem dX9_isIn_7 : decode cX9_isIn 7 = .ok (.lload 4, 2) := by decide +kernel
theorem dX9_isIn_9 : decode cX9_isIn 9 = .ok (.lcmp, 1) := by decide +kernel
theorem dX9_isIn_10 : decode cX9_isIn 10 = .ok (.ifCond .gt 7, 3) := by decide +kernel
theorem dX9_isIn_13 : decode cX9_isIn 13 = .ok (.iconst 1, 1) := by decide +kernel
theorem dX9_isIn_14 : decode cX9_isIn 14 = .ok (.goto 4, 3) := by decide +kernel
theorem dX9_isIn_17 : decode cX9_isIn 17 = .ok (.iconst 0, 1) := by decide +kernel
theorem dX9_isIn_18 : decode cX9_isIn 18 = .ok (.ireturn, 1) := by decide +kernel
theorem dX9_orNone_0 : decode cX9_orNone 0 = .ok (.iload_n 0, 1) := by decide +kernel
theorem dX9_orNone_1 : decode cX9_orNone 1 = .ok (.ifCond .ge 8, 3) := by decide +kernel
theorem dX9_orNone_4 : decode cX9_orNone 4 = .ok (.ldc 61, 2) := by decide +kernel
theorem dX9_orNone_6 : decode cX9_orNone 6 = .ok (.goto 4, 3) := by decide +kernel
theorem dX9_orNone_9 : decode cX9_orNone 9 = .ok (.iload_n 0, 1) := by decide +kernel
theorem dX9_orNone_10 : decode cX9_orNone 10 = .ok (.ireturn, 1) := by decide +kernel
theorem dX9_within_0 : decode cX9_within 0 = .ok (.iload_n 0, 1) := by decide +kernel
theorem dX9_within_1 : decode cX9_within 1 = .ok (.ifCond .ge 7, 3) := by decide +kernel
theorem dX9_within_4 : decode cX9_within 4 = .ok (.iconst 0, 1) := by decide +kernel
theorem dX9_within_5 : decode cX9_within 5 = .ok (.goto 13, 3) := by decide +kernel
theorem dX9_within_8 : decode cX9_within 8 = .ok (.iload_n 0, 1) := by decide +kernel
theorem dX9_within_9 : decode cX9_within 9 = .ok (.iload_n 1, 1) := by decide +kernel
theorem dX9_within_10 : decode cX9_within 10 = .ok (.if_icmp .le 7, 3) := by decide +kernel
theorem dX9_within_13 : decode cX9_within 13 = .ok (.iload_n 1, 1) := by decide +kernel
theorem dX9_within_14 : decode cX9_within 14 = .ok (.goto 4, 3) := by decide +kernel
theorem dX9_within_17 : decode cX9_within 17 = .ok (.iload_n 0, 1) := by decide +kernel
theorem dX9_within_18 : decode cX9_within 18 = .ok (.ireturn, 1) := by decide +kernel
theorem dX9_becomes_0 : decode cX9_becomes 0 = .ok (.aload_n 0, 1) := by decide +kernel
theorem dX9_becomes_1 : decode cX9_becomes 1 = .ok (.getfield 7, 3) := by decide +kernel
theorem dX9_becomes_4 : decode cX9_becomes 4 = .ok (.iload_n 1, 1) := by decide +kernel
theorem dX9_becomes_5 : decode cX9_becomes 5 = .ok (.iaload, 1) := by decide +kernel
theorem dX9_becomes_6 : decode cX9_becomes 6 = .ok (.istore_n 3, 1) := by decide +kernel
theorem dX9_becomes_7 : decode cX9_becomes 7 = .ok (.aload_n 0, 1) := by decide +kernel
theorem dX9_becomes_8 : decode cX9_becomes 8 = .ok (.getfield 7, 3) := by decide +kernel
theorem dX9_becomes_11 : decode cX9_becomes 11 = .ok (.iload_n 1, 1) := by decide +kernel
theorem dX9_becomes_12 : decode cX9_becomes 12 = .ok (.iload_n 2, 1) := by decide +kernel
theorem dX9_becomes_13 : decode cX9_becomes 13 = .ok (.iastore, 1) := by decide +kernel
theorem dX9_becomes_14 : decode cX9_becomes 14 = .ok (.iload_n 3, 1) := by decide +kernel
theorem dX9_becomes_15 : decode cX9_becomes 15 = .ok (.ireturn, 1) := by decide +kernel
theorem dX9_textAt_0 : decode cX9_textAt 0 = .ok (.sipush 154, 3) := by decide +kernel
theorem dX9_textAt_3 : decode cX9_textAt 3 = .ok (.sipush 200, 3) := by decide +kernel
theorem dX9_textAt_6 : decode cX9_textAt 6 = .ok (.iload_n 1, 1) := by decide +kernel
theorem dX9_textAt_7 : decode cX9_textAt 7 = .ok (.imul, 1) := by decide +kernel
theorem dX9_textAt_8 : decode cX9_textAt 8 = .ok (.iadd, 1) := by decide +kernel
theorem dX9_textAt_9 : decode cX9_textAt 9 = .ok (.ireturn, 1) := by decide +kernel
theorem dX9_of_0 : decode cX9_of 0 = .ok (.aload_n 0, 1) := by decide +kernel
theorem dX9_of_1 : decode cX9_of 1 = .ok (.getfield 7, 3) := by decide +kernel
theorem dX9_of_4 : decode cX9_of 4 = .ok (.bipush 14, 2) := by decide +kernel
theorem dX9_of_6 : decode cX9_of 6 = .ok (.iconst 4, 1) := by decide +kernel
theorem dX9_of_7 : decode cX9_of 7 = .ok (.iload_n 1, 1) := by decide +kernel
theorem dX9_of_8 : decode cX9_of 8 = .ok (.imul, 1) := by decide +kernel
theorem dX9_of_9 : decode cX9_of 9 = .ok (.iadd, 1) := by decide +kernel
theorem dX9_of_10 : decode cX9_of 10 = .ok (.iload_n 2, 1) := by decide +kernel
theorem dX9_of_11 : decode cX9_of 11 = .ok (.iadd, 1) := by decide +kernel
theorem dX9_of_12 : decode cX9_of 12 = .ok (.iaload, 1) := by decide +kernel
theorem dX9_of_13 : decode cX9_of 13 = .ok (.ireturn, 1) := by decide +kernel
theorem dX9_sets_0 : decode cX9_sets 0 = .ok (.aload_n 0, 1) := by decide +kernel
theorem dX9_sets_1 : decode cX9_sets 1 = .ok (.getfield 7, 3) := by decide +kernel
theorem dX9_sets_4 : decode cX9_sets 4 = .ok (.bipush 14, 2) := by decide +kernel
theorem dX9_sets_6 : decode cX9_sets 6 = .ok (.iconst 4, 1) := by decide +kernel
theorem dX9_sets_7 : decode cX9_sets 7 = .ok (.iload_n 1, 1) := by decide +kernel
theorem dX9_sets_8 : decode cX9_sets 8 = .ok (.imul, 1) := by decide +kernel
theorem dX9_sets_9 : decode cX9_sets 9 = .ok (.iadd, 1) := by decide +kernel
theorem dX9_sets_10 : decode cX9_sets 10 = .ok (.iload_n 2, 1) := by decide +kernel
theorem dX9_sets_11 : decode cX9_sets 11 = .ok (.iadd, 1) := by decide +kernel
theorem dX9_sets_12 : decode cX9_sets 12 = .ok (.iload_n 3, 1) := by decide +kernel
theorem dX9_sets_13 : decode cX9_sets 13 = .ok (.iastore, 1) := by decide +kernel
theorem dX9_sets_14 : decode cX9_sets 14 = .ok (.return_, 1) := by decide +kernel
theorem dX9_isWeight_0 : decode cX9_isWeight 0 = .ok (.iload_n 1, 1) := by decide +kernel
theorem dX9_isWeight_1 : decode cX9_isWeight 1 = .ok (.i2l, 1) := by decide +kernel
theorem dX9_isWeight_2 : decode cX9_isWeight 2 = .ok (.lconst 0, 1) := by decide +kernel
theorem dX9_isWeight_3 : decode cX9_isWeight 3 = .ok (.aload_n 0, 1) := by decide +kernel
theorem dX9_isWeight_4 : decode cX9_isWeight 4 = .ok (.getfield 7, 3) := by decide +kernel
theorem dX9_isWeight_7 : decode cX9_isWeight 7 = .ok (.iconst 0, 1) := by decide +kernel
theorem dX9_isWeight_8 : decode cX9_isWeight 8 = .ok (.iaload, 1) := by decide +kernel
theorem dX9_isWeight_9 : decode cX9_isWeight 9 = .ok (.iconst 1, 1) := by decide +kernel
theorem dX9_isWeight_10 : decode cX9_isWeight 10 = .ok (.isub, 1) := by decide +kernel
theorem dX9_isWeight_11 : decode cX9_isWeight 11 = .ok (.i2l, 1) := by decide +kernel
theorem dX9_isWeight_12 : decode cX9_isWeight 12 = .ok (.invokestatic 62, 3) := by decide +kernel
theorem dX9_isWeight_15 : decode cX9_isWeight 15 = .ok (.ireturn, 1) := by decide +kernel
theorem dX9_isSet_0 : decode cX9_isSet 0 = .ok (.iload_n 1, 1) := by decide +kernel
theorem dX9_isSet_1 : decode cX9_isSet 1 = .ok (.i2l, 1) := by decide +kernel
theorem dX9_isSet_2 : decode cX9_isSet 2 = .ok (.lconst 0, 1) := by decide +kernel
theorem dX9_isSet_3 : decode cX9_isSet 3 = .ok (.iconst 1, 1) := by decide +kernel
theorem dX9_isSet_4 : decode cX9_isSet 4 = .ok (.aload_n 0, 1) := by decide +kernel
theorem dX9_isSet_5 : decode cX9_isSet 5 = .ok (.getfield 7, 3) := by decide +kernel
theorem dX9_isSet_8 : decode cX9_isSet 8 = .ok (.iconst 0, 1) := by decide +kernel
theorem dX9_isSet_9 : decode cX9_isSet 9 = .ok (.iaload, 1) := by decide +kernel
theorem dX9_isSet_10 : decode cX9_isSet 10 = .ok (.ishl, 1) := by decide +kernel
theorem dX9_isSet_11 : decode cX9_isSet 11 = .ok (.iconst 1, 1) := by decide +kernel
theorem dX9_isSet_12 : decode cX9_isSet 12 = .ok (.isub, 1) := by decide +kernel
theorem dX9_isSet_13 : decode cX9_isSet 13 = .ok (.i2l, 1) := by decide +kernel
theorem dX9_isSet_14 : decode cX9_isSet 14 = .ok (.invokestatic 62, 3) := by decide +kernel
theorem dX9_isSet_17 : decode cX9_isSet 17 = .ok (.ireturn, 1) := by decide +kernel
theorem dX9_isText_0 : decode cX9_isText 0 = .ok (.iload_n 1, 1) := by decide +kernel
theorem dX9_isText_1 : decode cX9_isText 1 = .ok (.i2l, 1) := by decide +kernel
theorem dX9_isText_2 : decode cX9_isText 2 = .ok (.lconst 0, 1) := by decide +kernel
theorem dX9_isText_3 : decode cX9_isText 3 = .ok (.aload_n 0, 1) := by decide +kernel
theorem dX9_isText_4 : decode cX9_isText 4 = .ok (.getfield 7, 3) := by decide +kernel
theorem dX9_isText_7 : decode cX9_isText 7 = .ok (.iconst 1, 1) := by decide +kernel
theorem dX9_isText_8 : decode cX9_isText 8 = .ok (.iaload, 1) := by decide +kernel
theorem dX9_isText_9 : decode cX9_isText 9 = .ok (.iconst 1, 1) := by decide +kernel
theorem dX9_isText_10 : decode cX9_isText 10 = .ok (.isub, 1) := by decide +kernel
theorem dX9_isText_11 : decode cX9_isText 11 = .ok (.i2l, 1) := by decide +kernel
theorem dX9_isText_12 : decode cX9_isText 12 = .ok (.invokestatic 62, 3) := by decide +kernel
theorem dX9_isText_15 : decode cX9_isText 15 = .ok (.ireturn, 1) := by decide +kernel
theorem dX9_drawn_0 : decode cX9_drawn 0 = .ok (.aload_n 0, 1) := by decide +kernel
theorem dX9_drawn_1 : decode cX9_drawn 1 = .ok (.getfield 7, 3) := by decide +kernel
theorem dX9_drawn_4 : decode cX9_drawn 4 = .ok (.iconst 4, 1) := by decide +kernel
theorem dX9_drawn_5 : decode cX9_drawn 5 = .ok (.aload_n 0, 1) := by decide +kernel
theorem dX9_drawn_6 : decode cX9_drawn 6 = .ok (.getfield 7, 3) := by decide +kernel
theorem dX9_drawn_9 : decode cX9_drawn 9 = .ok (.iconst 4, 1) := by decide +kernel
theorem dX9_drawn_10 : decode cX9_drawn 10 = .ok (.iaload, 1) := by decide +kernel
theorem dX9_drawn_11 : decode cX9_drawn 11 = .ok (.ldc 66, 2) := by decide +kernel
theorem dX9_drawn_13 : decode cX9_drawn 13 = .ok (.imul, 1) := by decide +kernel
theorem dX9_drawn_14 : decode cX9_drawn 14 = .ok (.sipush 12345, 3) := by decide +kernel
theorem dX9_drawn_17 : decode cX9_drawn 17 = .ok (.iadd, 1) := by decide +kernel
theorem dX9_drawn_18 : decode cX9_drawn 18 = .ok (.iastore, 1) := by decide +kernel
theorem dX9_drawn_19 : decode cX9_drawn 19 = .ok (.aload_n 0, 1) := by decide +kernel
theorem dX9_drawn_20 : decode cX9_drawn 20 = .ok (.getfield 7, 3) := by decide +kernel
theorem dX9_drawn_23 : decode cX9_drawn 23 = .ok (.iconst 4, 1) := by decide +kernel
theorem dX9_drawn_24 : decode cX9_drawn 24 = .ok (.iaload, 1) := by decide +kernel
theorem dX9_drawn_25 : decode cX9_drawn 25 = .ok (.bipush 8, 2) := by decide +kernel
theorem dX9_drawn_27 : decode cX9_drawn 27 = .ok (.iushr, 1) := by decide +kernel
theorem dX9_drawn_28 : decode cX9_drawn 28 = .ok (.ireturn, 1) := by decide +kernel
theorem dX9_ones_0 : decode cX9_ones 0 = .ok (.iconst 0, 1) := by decide +kernel
theorem dX9_ones_1 : decode cX9_ones 1 = .ok (.istore_n 1, 1) := by decide +kernel
theorem dX9_ones_2 : decode cX9_ones 2 = .ok (.iconst 0, 1) := by decide +kernel
theorem dX9_ones_3 : decode cX9_ones 3 = .ok (.istore_n 2, 1) := by decide +kernel
theorem dX9_ones_4 : decode cX9_ones 4 = .ok (.iload_n 2, 1) := by decide +kernel
theorem dX9_ones_5 : decode cX9_ones 5 = .ok (.bipush 10, 2) := by decide +kernel
theorem dX9_ones_7 : decode cX9_ones 7 = .ok (.if_icmp .ge 17, 3) := by decide +kernel
theorem dX9_ones_10 : decode cX9_ones 10 = .ok (.iload_n 1, 1) := by decide +kernel
theorem dX9_ones_11 : decode cX9_ones 11 = .ok (.iload_n 0, 1) := by decide +kernel
theorem dX9_ones_12 : decode cX9_ones 12 = .ok (.iload_n 2, 1) := by decide +kernel
theorem dX9_ones_13 : decode cX9_ones 13 = .ok (.ishr, 1) := by decide +kernel
theorem dX9_ones_14 : decode cX9_ones 14 = .ok (.iconst 1, 1) := by decide +kernel
theorem dX9_ones_15 : decode cX9_ones 15 = .ok (.iand, 1) := by decide +kernel
theorem dX9_ones_16 : decode cX9_ones 16 = .ok (.iadd, 1) := by decide +kernel
theorem dX9_ones_17 : decode cX9_ones 17 = .ok (.istore_n 1, 1) := by decide +kernel
theorem dX9_ones_18 : decode cX9_ones 18 = .ok (.iinc 2 1, 3) := by decide +kernel
theorem dX9_ones_21 : decode cX9_ones 21 = .ok (.goto (-17), 3) := by decide +kernel
theorem dX9_ones_24 : decode cX9_ones 24 = .ok (.iload_n 1, 1) := by decide +kernel
theorem dX9_ones_25 : decode cX9_ones 25 = .ok (.ireturn, 1) := by decide +kernel
theorem dX9_sumOf_0 : decode cX9_sumOf 0 = .ok (.iconst 0, 1) := by decide +kernel
theorem dX9_sumOf_1 : decode cX9_sumOf 1 = .ok (.istore_n 3, 1) := by decide +kernel
theorem dX9_sumOf_2 : decode cX9_sumOf 2 = .ok (.iconst 0, 1) := by decide +kernel
theorem dX9_sumOf_3 : decode cX9_sumOf 3 = .ok (.istore 4, 2) := by decide +kernel
theorem dX9_sumOf_5 : decode cX9_sumOf 5 = .ok (.iload 4, 2) := by decide +kernel
theorem dX9_sumOf_7 : decode cX9_sumOf 7 = .ok (.aload_n 0, 1) := by decide +kernel
theorem dX9_sumOf_8 : decode cX9_sumOf 8 = .ok (.getfield 7, 3) := by decide +kernel
theorem dX9_sumOf_11 : decode cX9_sumOf 11 = .ok (.iconst 0, 1) := by decide +kernel
theorem dX9_sumOf_12 : decode cX9_sumOf 12 = .ok (.iaload, 1) := by decide +kernel
theorem dX9_sumOf_13 : decode cX9_sumOf 13 = .ok (.if_icmp .ge 33, 3) := by decide +kernel
theorem dX9_sumOf_16 : decode cX9_sumOf 16 = .ok (.iload_n 3, 1) := by decide +kernel
theorem dX9_sumOf_17 : decode cX9_sumOf 17 = .ok (.iload_n 1, 1) := by decide +kernel
theorem dX9_sumOf_18 : decode cX9_sumOf 18 = .ok (.iload 4, 2) := by decide +kernel
theorem dX9_sumOf_20 : decode cX9_sumOf 20 = .ok (.ishr, 1) := by decide +kernel
theorem dX9_sumOf_21 : decode cX9_sumOf 21 = .ok (.iconst 1, 1) := by decide +kernel
theorem dX9_sumOf_22 : decode cX9_sumOf 22 = .ok (.iand, 1) := by decide +kernel
theorem dX9_sumOf_23 : decode cX9_sumOf 23 = .ok (.iconst 1, 1) := by decide +kernel
theorem dX9_sumOf_24 : decode cX9_sumOf 24 = .ok (.if_icmp .ne 13, 3) := by decide +kernel
theorem dX9_sumOf_27 : decode cX9_sumOf 27 = .ok (.aload_n 0, 1) := by decide +kernel
theorem dX9_sumOf_28 : decode cX9_sumOf 28 = .ok (.iload 4, 2) := by decide +kernel
theorem dX9_sumOf_30 : decode cX9_sumOf 30 = .ok (.iload_n 2, 1) := by decide +kernel
theorem dX9_sumOf_31 : decode cX9_sumOf 31 = .ok (.invokevirtual 67, 3) := by decide +kernel
theorem dX9_sumOf_34 : decode cX9_sumOf 34 = .ok (.goto 4, 3) := by decide +kernel
theorem dX9_sumOf_37 : decode cX9_sumOf 37 = .ok (.iconst 0, 1) := by decide +kernel
theorem dX9_sumOf_38 : decode cX9_sumOf 38 = .ok (.iadd, 1) := by decide +kernel
theorem dX9_sumOf_39 : decode cX9_sumOf 39 = .ok (.istore_n 3, 1) := by decide +kernel
theorem dX9_sumOf_40 : decode cX9_sumOf 40 = .ok (.iinc 4 1, 3) := by decide +kernel
theorem dX9_sumOf_43 : decode cX9_sumOf 43 = .ok (.goto (-38), 3) := by decide +kernel
theorem dX9_sumOf_46 : decode cX9_sumOf 46 = .ok (.iload_n 3, 1) := by decide +kernel
theorem dX9_sumOf_47 : decode cX9_sumOf 47 = .ok (.ireturn, 1) := by decide +kernel
theorem dX9_allOf_0 : decode cX9_allOf 0 = .ok (.aload_n 0, 1) := by decide +kernel
theorem dX9_allOf_1 : decode cX9_allOf 1 = .ok (.iconst 1, 1) := by decide +kernel
theorem dX9_allOf_2 : decode cX9_allOf 2 = .ok (.aload_n 0, 1) := by decide +kernel
theorem dX9_allOf_3 : decode cX9_allOf 3 = .ok (.getfield 7, 3) := by decide +kernel
theorem dX9_allOf_6 : decode cX9_allOf 6 = .ok (.iconst 0, 1) := by decide +kernel
theorem dX9_allOf_7 : decode cX9_allOf 7 = .ok (.iaload, 1) := by decide +kernel
theorem dX9_allOf_8 : decode cX9_allOf 8 = .ok (.ishl, 1) := by decide +kernel
theorem dX9_allOf_9 : decode cX9_allOf 9 = .ok (.iconst 1, 1) := by decide +kernel
theorem dX9_allOf_10 : decode cX9_allOf 10 = .ok (.isub, 1) := by decide +kernel
theorem dX9_allOf_11 : decode cX9_allOf 11 = .ok (.iload_n 1, 1) := by decide +kernel
theorem dX9_allOf_12 : decode cX9_allOf 12 = .ok (.invokevirtual 71, 3) := by decide +kernel
theorem dX9_allOf_15 : decode cX9_allOf 15 = .ok (.ireturn, 1) := by decide +kernel
theorem dX9_comes_0 : decode cX9_comes 0 = .ok (.aload_n 0, 1) := by decide +kernel
theorem dX9_comes_1 : decode cX9_comes 1 = .ok (.getfield 7, 3) := by decide +kernel
theorem dX9_comes_4 : decode cX9_comes 4 = .ok (.iconst 0, 1) := by decide +kernel
theorem dX9_comes_5 : decode cX9_comes 5 = .ok (.iaload, 1) := by decide +kernel
theorem dX9_comes_6 : decode cX9_comes 6 = .ok (.istore_n 3, 1) := by decide +kernel
theorem dX9_comes_7 : decode cX9_comes 7 = .ok (.aload_n 0, 1) := by decide +kernel
theorem dX9_comes_8 : decode cX9_comes 8 = .ok (.getfield 7, 3) := by decide +kernel
theorem dX9_comes_11 : decode cX9_comes 11 = .ok (.iconst 0, 1) := by decide +kernel
theorem dX9_comes_12 : decode cX9_comes 12 = .ok (.dup2, 1) := by decide +kernel
theorem dX9_comes_13 : decode cX9_comes 13 = .ok (.iaload, 1) := by decide +kernel
theorem dX9_comes_14 : decode cX9_comes 14 = .ok (.iconst 1, 1) := by decide +kernel
theorem dX9_comes_15 : decode cX9_comes 15 = .ok (.iadd, 1) := by decide +kernel
theorem dX9_comes_16 : decode cX9_comes 16 = .ok (.iastore, 1) := by decide +kernel
theorem dX9_comes_17 : decode cX9_comes 17 = .ok (.aload_n 0, 1) := by decide +kernel
theorem dX9_comes_18 : decode cX9_comes 18 = .ok (.iload_n 3, 1) := by decide +kernel
theorem dX9_comes_19 : decode cX9_comes 19 = .ok (.iconst 0, 1) := by decide +kernel
theorem dX9_comes_20 : decode cX9_comes 20 = .ok (.iload_n 1, 1) := by decide +kernel
theorem dX9_comes_21 : decode cX9_comes 21 = .ok (.invokevirtual 74, 3) := by decide +kernel
theorem dX9_comes_24 : decode cX9_comes 24 = .ok (.aload_n 0, 1) := by decide +kernel
theorem dX9_comes_25 : decode cX9_comes 25 = .ok (.iload_n 3, 1) := by decide +kernel
theorem dX9_comes_26 : decode cX9_comes 26 = .ok (.iconst 1, 1) := by decide +kernel
theorem dX9_comes_27 : decode cX9_comes 27 = .ok (.iload_n 2, 1) := by decide +kernel
theorem dX9_comes_28 : decode cX9_comes 28 = .ok (.invokevirtual 74, 3) := by decide +kernel
theorem dX9_comes_31 : decode cX9_comes 31 = .ok (.aload_n 0, 1) := by decide +kernel
theorem dX9_comes_32 : decode cX9_comes 32 = .ok (.iload_n 3, 1) := by decide +kernel
theorem dX9_comes_33 : decode cX9_comes 33 = .ok (.iconst 2, 1) := by decide +kernel
theorem dX9_comes_34 : decode cX9_comes 34 = .ok (.iload_n 2, 1) := by decide +kernel
theorem dX9_comes_35 : decode cX9_comes 35 = .ok (.invokevirtual 74, 3) := by decide +kernel
theorem dX9_comes_38 : decode cX9_comes 38 = .ok (.aload_n 0, 1) := by decide +kernel
theorem dX9_comes_39 : decode cX9_comes 39 = .ok (.iload_n 3, 1) := by decide +kernel
theorem dX9_comes_40 : decode cX9_comes 40 = .ok (.iconst 3, 1) := by decide +kernel
theorem dX9_comes_41 : decode cX9_comes 41 = .ok (.iconst 0, 1) := by decide +kernel
theorem dX9_comes_42 : decode cX9_comes 42 = .ok (.invokevirtual 74, 3) := by decide +kernel
theorem dX9_comes_45 : decode cX9_comes 45 = .ok (.return_, 1) := by decide +kernel
theorem dX9_weight_0 : decode cX9_weight 0 = .ok (.iload_n 1, 1) := by decide +kernel
theorem dX9_weight_1 : decode cX9_weight 1 = .ok (.i2l, 1) := by decide +kernel
theorem dX9_weight_2 : decode cX9_weight 2 = .ok (.lconst 0, 1) := by decide +kernel
theorem dX9_weight_3 : decode cX9_weight 3 = .ok (.ldc2_w 78, 3) := by decide +kernel
theorem dX9_weight_6 : decode cX9_weight 6 = .ok (.invokestatic 62, 3) := by decide +kernel
theorem dX9_weight_9 : decode cX9_weight 9 = .ok (.ifCond .eq 15, 3) := by decide +kernel
theorem dX9_weight_12 : decode cX9_weight 12 = .ok (.iload_n 2, 1) := by decide +kernel
theorem dX9_weight_13 : decode cX9_weight 13 = .ok (.i2l, 1) := by decide +kernel
theorem dX9_weight_14 : decode cX9_weight 14 = .ok (.lconst 1, 1) := by decide +kernel
theorem dX9_weight_15 : decode cX9_weight 15 = .ok (.ldc2_w 80, 3) := by decide +kernel
theorem dX9_weight_18 : decode cX9_weight 18 = .ok (.invokestatic 62, 3) := by decide +kernel
theorem dX9_weight_21 : decode cX9_weight 21 = .ok (.ifCond .ne 6, 3) := by decide +kernel
theorem dX9_weight_24 : decode cX9_weight 24 = .ok (.ldc 82, 2) := by decide +kernel
theorem dX9_weight_26 : decode cX9_weight 26 = .ok (.ireturn, 1) := by decide +kernel
theorem dX9_weight_27 : decode cX9_weight 27 = .ok (.aload_n 0, 1) := by decide +kernel
theorem dX9_weight_28 : decode cX9_weight 28 = .ok (.getfield 7, 3) := by decide +kernel
theorem dX9_weight_31 : decode cX9_weight 31 = .ok (.iconst 0, 1) := by decide +kernel
theorem dX9_weight_32 : decode cX9_weight 32 = .ok (.iaload, 1) := by decide +kernel
theorem dX9_weight_33 : decode cX9_weight 33 = .ok (.bipush 10, 2) := by decide +kernel
theorem dX9_weight_35 : decode cX9_weight 35 = .ok (.if_icmp .ne 6, 3) := by decide +kernel
theorem dX9_weight_38 : decode cX9_weight 38 = .ok (.ldc 83, 2) := by decide +kernel
theorem dX9_weight_40 : decode cX9_weight 40 = .ok (.ireturn, 1) := by decide +kernel
theorem dX9_weight_41 : decode cX9_weight 41 = .ok (.aload_n 0, 1) := by decide +kernel
theorem dX9_weight_42 : decode cX9_weight 42 = .ok (.iload_n 1, 1) := by decide +kernel
theorem dX9_weight_43 : decode cX9_weight 43 = .ok (.iload_n 2, 1) := by decide +kernel
theorem dX9_weight_44 : decode cX9_weight 44 = .ok (.invokevirtual 84, 3) := by decide +kernel
theorem dX9_weight_47 : decode cX9_weight 47 = .ok (.aload_n 0, 1) := by decide +kernel
theorem dX9_weight_48 : decode cX9_weight 48 = .ok (.getfield 7, 3) := by decide +kernel
theorem dX9_weight_51 : decode cX9_weight 51 = .ok (.iconst 0, 1) := by decide +kernel
theorem dX9_weight_52 : decode cX9_weight 52 = .ok (.iaload, 1) := by decide +kernel
theorem dX9_weight_53 : decode cX9_weight 53 = .ok (.iconst 1, 1) := by decide +kernel
theorem dX9_weight_54 : decode cX9_weight 54 = .ok (.isub, 1) := by decide +kernel
theorem dX9_weight_55 : decode cX9_weight 55 = .ok (.ireturn, 1) := by decide +kernel
theorem dX9_losesIf_0 : decode cX9_losesIf 0 = .ok (.iconst 1, 1) := by decide +kernel
theorem dX9_losesIf_1 : decode cX9_losesIf 1 = .ok (.istore 4, 2) := by decide +kernel
theorem dX9_losesIf_3 : decode cX9_losesIf 3 = .ok (.aload_n 0, 1) := by decide +kernel
theorem dX9_losesIf_4 : decode cX9_losesIf 4 = .ok (.iconst 0, 1) := by decide +kernel
theorem dX9_losesIf_5 : decode cX9_losesIf 5 = .ok (.invokevirtual 88, 3) := by decide +kernel
theorem dX9_losesIf_8 : decode cX9_losesIf 8 = .ok (.istore 5, 2) := by decide +kernel
theorem dX9_losesIf_10 : decode cX9_losesIf 10 = .ok (.iload 5, 2) := by decide +kernel
theorem dX9_losesIf_12 : decode cX9_losesIf 12 = .ok (.ifCond .lt 45, 3) := by decide +kernel
theorem dX9_losesIf_15 : decode cX9_losesIf 15 = .ok (.aload_n 0, 1) := by decide +kernel
theorem dX9_losesIf_16 : decode cX9_losesIf 16 = .ok (.getfield 46, 3) := by decide +kernel
theorem dX9_losesIf_19 : decode cX9_losesIf 19 = .ok (.bipush 103, 2) := by decide +kernel
theorem dX9_losesIf_21 : decode cX9_losesIf 21 = .ok (.iload_n 2, 1) := by decide +kernel
theorem dX9_losesIf_22 : decode cX9_losesIf 22 = .ok (.iastore, 1) := by decide +kernel
theorem dX9_losesIf_23 : decode cX9_losesIf 23 = .ok (.aload_n 0, 1) := by decide +kernel
theorem dX9_losesIf_24 : decode cX9_losesIf 24 = .ok (.getfield 46, 3) := by decide +kernel
theorem dX9_losesIf_27 : decode cX9_losesIf 27 = .ok (.bipush 116, 2) := by decide +kernel
theorem dX9_losesIf_29 : decode cX9_losesIf 29 = .ok (.iload_n 3, 1) := by decide +kernel
theorem dX9_losesIf_30 : decode cX9_losesIf 30 = .ok (.iastore, 1) := by decide +kernel
theorem dX9_losesIf_31 : decode cX9_losesIf 31 = .ok (.aload_n 0, 1) := by decide +kernel
theorem dX9_losesIf_32 : decode cX9_losesIf 32 = .ok (.getfield 46, 3) := by decide +kernel
theorem dX9_losesIf_35 : decode cX9_losesIf 35 = .ok (.bipush 115, 2) := by decide +kernel
theorem dX9_losesIf_37 : decode cX9_losesIf 37 = .ok (.aload_n 0, 1) := by decide +kernel
theorem dX9_losesIf_38 : decode cX9_losesIf 38 = .ok (.iload_n 1, 1) := by decide +kernel
theorem dX9_losesIf_39 : decode cX9_losesIf 39 = .ok (.iconst 1, 1) := by decide +kernel
theorem dX9_losesIf_40 : decode cX9_losesIf 40 = .ok (.invokevirtual 67, 3) := by decide +kernel
theorem dX9_losesIf_43 : decode cX9_losesIf 43 = .ok (.iastore, 1) := by decide +kernel
theorem dX9_losesIf_44 : decode cX9_losesIf 44 = .ok (.aload_n 0, 1) := by decide +kernel
theorem dX9_losesIf_45 : decode cX9_losesIf 45 = .ok (.iload 5, 2) := by decide +kernel
theorem dX9_losesIf_47 : decode cX9_losesIf 47 = .ok (.invokevirtual 92, 3) := by decide +kernel
theorem dX9_losesIf_50 : decode cX9_losesIf 50 = .ok (.bipush 99, 2) := by decide +kernel
theorem dX9_losesIf_52 : decode cX9_losesIf 52 = .ok (.invokestatic 95, 3) := by decide +kernel
theorem dX9_losesIf_55 : decode cX9_losesIf 55 = .ok (.istore 4, 2) := by decide +kernel
theorem dX9_losesIf_57 : decode cX9_losesIf 57 = .ok (.aload_n 0, 1) := by decide +kernel
theorem dX9_losesIf_58 : decode cX9_losesIf 58 = .ok (.iload_n 1, 1) := by decide +kernel
theorem dX9_losesIf_59 : decode cX9_losesIf 59 = .ok (.iconst 0, 1) := by decide +kernel
theorem dX9_losesIf_60 : decode cX9_losesIf 60 = .ok (.invokevirtual 67, 3) := by decide +kernel
theorem dX9_losesIf_63 : decode cX9_losesIf 63 = .ok (.tableswitch 87 1 5 #[33, 42, 51, 62, 81], 33) := by decide +kernel
theorem dX9_losesIf_96 : decode cX9_losesIf 96 = .ok (.iload 4, 2) := by decide +kernel
theorem dX9_losesIf_98 : decode cX9_losesIf 98 = .ok (.iconst 1, 1) := by decide +kernel
theorem dX9_losesIf_99 : decode cX9_losesIf 99 = .ok (.iadd, 1) := by decide +kernel
theorem dX9_losesIf_100 : decode cX9_losesIf 100 = .ok (.istore 4, 2) := by decide +kernel
theorem dX9_losesIf_102 : decode cX9_losesIf 102 = .ok (.goto 48, 3) := by decide +kernel
theorem dX9_losesIf_105 : decode cX9_losesIf 105 = .ok (.iload 4, 2) := by decide +kernel
theorem dX9_losesIf_107 : decode cX9_losesIf 107 = .ok (.iconst 2, 1) := by decide +kernel
theorem dX9_losesIf_108 : decode cX9_losesIf 108 = .ok (.idiv, 1) := by decide +kernel
theorem dX9_losesIf_109 : decode cX9_losesIf 109 = .ok (.istore 4, 2) := by decide +kernel
theorem dX9_losesIf_111 : decode cX9_losesIf 111 = .ok (.goto 39, 3) := by decide +kernel
theorem dX9_losesIf_114 : decode cX9_losesIf 114 = .ok (.iconst 2, 1) := by decide +kernel
theorem dX9_losesIf_115 : decode cX9_losesIf 115 = .ok (.iload 4, 2) := by decide +kernel
theorem dX9_losesIf_117 : decode cX9_losesIf 117 = .ok (.imul, 1) := by decide +kernel
theorem dX9_losesIf_118 : decode cX9_losesIf 118 = .ok (.iconst 2, 1) := by decide +kernel
theorem dX9_losesIf_119 : decode cX9_losesIf 119 = .ok (.iadd, 1) := by decide +kernel
theorem dX9_losesIf_120 : decode cX9_losesIf 120 = .ok (.istore 4, 2) := by decide +kernel
theorem dX9_losesIf_122 : decode cX9_losesIf 122 = .ok (.goto 28, 3) := by decide +kernel
theorem dX9_losesIf_125 : decode cX9_losesIf 125 = .ok (.iload_n 3, 1) := by decide +kernel
theorem dX9_losesIf_126 : decode cX9_losesIf 126 = .ok (.iconst 2, 1) := by decide +kernel
theorem dX9_losesIf_127 : decode cX9_losesIf 127 = .ok (.irem, 1) := by decide +kernel
theorem dX9_losesIf_128 : decode cX9_losesIf 128 = .ok (.ifCond .ne 10, 3) := by decide +kernel
theorem dX9_losesIf_131 : decode cX9_losesIf 131 = .ok (.iload 4, 2) := by decide +kernel
theorem dX9_losesIf_133 : decode cX9_losesIf 133 = .ok (.iconst 2, 1) := by decide +kernel
theorem dX9_losesIf_134 : decode cX9_losesIf 134 = .ok (.idiv, 1) := by decide +kernel
theorem dX9_losesIf_135 : decode cX9_losesIf 135 = .ok (.goto 4, 3) := by decide +kernel
theorem dX9_losesIf_138 : decode cX9_losesIf 138 = .ok (.iconst 0, 1) := by decide +kernel
theorem dX9_losesIf_139 : decode cX9_losesIf 139 = .ok (.istore 4, 2) := by decide +kernel
theorem dX9_losesIf_141 : decode cX9_losesIf 141 = .ok (.goto 9, 3) := by decide +kernel
theorem dX9_losesIf_144 : decode cX9_losesIf 144 = .ok (.iconst 0, 1) := by decide +kernel
theorem dX9_losesIf_145 : decode cX9_losesIf 145 = .ok (.istore 4, 2) := by decide +kernel
theorem dX9_losesIf_147 : decode cX9_losesIf 147 = .ok (.goto 3, 3) := by decide +kernel
theorem dX9_losesIf_150 : decode cX9_losesIf 150 = .ok (.iload 4, 2) := by decide +kernel
theorem dX9_losesIf_152 : decode cX9_losesIf 152 = .ok (.iload_n 2, 1) := by decide +kernel
theorem dX9_losesIf_153 : decode cX9_losesIf 153 = .ok (.if_icmp .ge 8, 3) := by decide +kernel
theorem dX9_losesIf_156 : decode cX9_losesIf 156 = .ok (.iload 4, 2) := by decide +kernel
theorem dX9_losesIf_158 : decode cX9_losesIf 158 = .ok (.goto 4, 3) := by decide +kernel
theorem dX9_losesIf_161 : decode cX9_losesIf 161 = .ok (.iload_n 2, 1) := by decide +kernel
theorem dX9_losesIf_162 : decode cX9_losesIf 162 = .ok (.ireturn, 1) := by decide +kernel
theorem dX9_loses_0 : decode cX9_loses 0 = .ok (.aload_n 0, 1) := by decide +kernel
theorem dX9_loses_1 : decode cX9_loses 1 = .ok (.iload_n 1, 1) := by decide +kernel
theorem dX9_loses_2 : decode cX9_loses 2 = .ok (.aload_n 0, 1) := by decide +kernel
theorem dX9_loses_3 : decode cX9_loses 3 = .ok (.iload_n 1, 1) := by decide +kernel
theorem dX9_loses_4 : decode cX9_loses 4 = .ok (.iconst 2, 1) := by decide +kernel
theorem dX9_loses_5 : decode cX9_loses 5 = .ok (.invokevirtual 67, 3) := by decide +kernel
theorem dX9_loses_8 : decode cX9_loses 8 = .ok (.aload_n 0, 1) := by decide +kernel
theorem dX9_loses_9 : decode cX9_loses 9 = .ok (.iload_n 1, 1) := by decide +kernel
theorem dX9_loses_10 : decode cX9_loses 10 = .ok (.iconst 3, 1) := by decide +kernel
theorem dX9_loses_11 : decode cX9_loses 11 = .ok (.invokevirtual 67, 3) := by decide +kernel
theorem dX9_loses_14 : decode cX9_loses 14 = .ok (.invokevirtual 98, 3) := by decide +kernel
theorem dX9_loses_17 : decode cX9_loses 17 = .ok (.ireturn, 1) := by decide +kernel
theorem dX9_losesAtFall_0 : decode cX9_losesAtFall 0 = .ok (.bipush 10, 2) := by decide +kernel
theorem dX9_losesAtFall_2 : decode cX9_losesAtFall 2 = .ok (.aload_n 0, 1) := by decide +kernel
theorem dX9_losesAtFall_3 : decode cX9_losesAtFall 3 = .ok (.iload_n 1, 1) := by decide +kernel
theorem dX9_losesAtFall_4 : decode cX9_losesAtFall 4 = .ok (.invokevirtual 102, 3) := by decide +kernel
theorem dX9_losesAtFall_7 : decode cX9_losesAtFall 7 = .ok (.imul, 1) := by decide +kernel
theorem dX9_losesAtFall_8 : decode cX9_losesAtFall 8 = .ok (.aload_n 0, 1) := by decide +kernel
theorem dX9_losesAtFall_9 : decode cX9_losesAtFall 9 = .ok (.iload_n 1, 1) := by decide +kernel
theorem dX9_losesAtFall_10 : decode cX9_losesAtFall 10 = .ok (.iconst 2, 1) := by decide +kernel
theorem dX9_losesAtFall_11 : decode cX9_losesAtFall 11 = .ok (.invokevirtual 67, 3) := by decide +kernel
theorem dX9_losesAtFall_14 : decode cX9_losesAtFall 14 = .ok (.invokestatic 95, 3) := by decide +kernel
theorem dX9_losesAtFall_17 : decode cX9_losesAtFall 17 = .ok (.ireturn, 1) := by decide +kernel
theorem dX9_worth_0 : decode cX9_worth 0 = .ok (.aload_n 0, 1) := by decide +kernel
theorem dX9_worth_1 : decode cX9_worth 1 = .ok (.iload_n 1, 1) := by decide +kernel
theorem dX9_worth_2 : decode cX9_worth 2 = .ok (.iconst 2, 1) := by decide +kernel
theorem dX9_worth_3 : decode cX9_worth 3 = .ok (.invokevirtual 67, 3) := by decide +kernel
theorem dX9_worth_6 : decode cX9_worth 6 = .ok (.istore_n 2, 1) := by decide +kernel
theorem dX9_worth_7 : decode cX9_worth 7 = .ok (.aload_n 0, 1) := by decide +kernel
theorem dX9_worth_8 : decode cX9_worth 8 = .ok (.iload_n 1, 1) := by decide +kernel
theorem dX9_worth_9 : decode cX9_worth 9 = .ok (.iconst 0, 1) := by decide +kernel
theorem dX9_worth_10 : decode cX9_worth 10 = .ok (.invokevirtual 67, 3) := by decide +kernel
theorem dX9_worth_13 : decode cX9_worth 13 = .ok (.tableswitch 64 1 5 #[35, 39, 43, 54, 61], 35) := by decide +kernel
theorem dX9_worth_48 : decode cX9_worth 48 = .ok (.iload_n 2, 1) := by decide +kernel
theorem dX9_worth_49 : decode cX9_worth 49 = .ok (.iconst 2, 1) := by decide +kernel
theorem dX9_worth_50 : decode cX9_worth 50 = .ok (.isub, 1) := by decide +kernel
theorem dX9_worth_51 : decode cX9_worth 51 = .ok (.ireturn, 1) := by decide +kernel
theorem dX9_worth_52 : decode cX9_worth 52 = .ok (.iconst 2, 1) := by decide +kernel
theorem dX9_worth_53 : decode cX9_worth 53 = .ok (.iload_n 2, 1) := by decide +kernel
theorem dX9_worth_54 : decode cX9_worth 54 = .ok (.imul, 1) := by decide +kernel
theorem dX9_worth_55 : decode cX9_worth 55 = .ok (.ireturn, 1) := by decide +kernel
theorem dX9_worth_56 : decode cX9_worth 56 = .ok (.iload_n 2, 1) := by decide +kernel
theorem dX9_worth_57 : decode cX9_worth 57 = .ok (.iconst 2, 1) := by decide +kernel
theorem dX9_worth_58 : decode cX9_worth 58 = .ok (.isub, 1) := by decide +kernel
theorem dX9_worth_59 : decode cX9_worth 59 = .ok (.aload_n 0, 1) := by decide +kernel
theorem dX9_worth_60 : decode cX9_worth 60 = .ok (.iload_n 1, 1) := by decide +kernel
theorem dX9_worth_61 : decode cX9_worth 61 = .ok (.iconst 3, 1) := by decide +kernel
theorem dX9_worth_62 : decode cX9_worth 62 = .ok (.invokevirtual 67, 3) := by decide +kernel
theorem dX9_worth_65 : decode cX9_worth 65 = .ok (.isub, 1) := by decide +kernel
theorem dX9_worth_66 : decode cX9_worth 66 = .ok (.ireturn, 1) := by decide +kernel
theorem dX9_worth_67 : decode cX9_worth 67 = .ok (.iconst 2, 1) := by decide +kernel
theorem dX9_worth_68 : decode cX9_worth 68 = .ok (.iload_n 2, 1) := by decide +kernel
theorem dX9_worth_69 : decode cX9_worth 69 = .ok (.imul, 1) := by decide +kernel
theorem dX9_worth_70 : decode cX9_worth 70 = .ok (.bipush 100, 2) := by decide +kernel
theorem dX9_worth_72 : decode cX9_worth 72 = .ok (.iadd, 1) := by decide +kernel
theorem dX9_worth_73 : decode cX9_worth 73 = .ok (.ireturn, 1) := by decide +kernel
theorem dX9_worth_74 : decode cX9_worth 74 = .ok (.bipush 7, 2) := by decide +kernel
theorem dX9_worth_76 : decode cX9_worth 76 = .ok (.ireturn, 1) := by decide +kernel
theorem dX9_worth_77 : decode cX9_worth 77 = .ok (.iload_n 2, 1) := by decide +kernel
theorem dX9_worth_78 : decode cX9_worth 78 = .ok (.ireturn, 1) := by decide +kernel
theorem dX9_told_0 : decode cX9_told 0 = .ok (.aload_n 0, 1) := by decide +kernel
theorem dX9_told_1 : decode cX9_told 1 = .ok (.iload_n 1, 1) := by decide +kernel
theorem dX9_told_2 : decode cX9_told 2 = .ok (.invokevirtual 105, 3) := by decide +kernel
theorem dX9_told_5 : decode cX9_told 5 = .ok (.ifCond .ne 6, 3) := by decide +kernel
theorem dX9_told_8 : decode cX9_told 8 = .ok (.ldc 82, 2) := by decide +kernel
theorem dX9_told_10 : decode cX9_told 10 = .ok (.ireturn, 1) := by decide +kernel
theorem dX9_told_11 : decode cX9_told 11 = .ok (.iload_n 2, 1) := by decide +kernel
theorem dX9_told_12 : decode cX9_told 12 = .ok (.tableswitch 69 0 6 #[44, 44, 44, 44, 51, 57, 63], 44) := by decide +kernel
theorem dX9_told_56 : decode cX9_told 56 = .ok (.aload_n 0, 1) := by decide +kernel
theorem dX9_told_57 : decode cX9_told 57 = .ok (.iload_n 1, 1) := by decide +kernel
theorem dX9_told_58 : decode cX9_told 58 = .ok (.iload_n 2, 1) := by decide +kernel
theorem dX9_told_59 : decode cX9_told 59 = .ok (.invokevirtual 67, 3) := by decide +kernel
theorem dX9_told_62 : decode cX9_told 62 = .ok (.ireturn, 1) := by decide +kernel
theorem dX9_told_63 : decode cX9_told 63 = .ok (.aload_n 0, 1) := by decide +kernel
theorem dX9_told_64 : decode cX9_told 64 = .ok (.iload_n 1, 1) := by decide +kernel
theorem dX9_told_65 : decode cX9_told 65 = .ok (.invokevirtual 102, 3) := by decide +kernel
theorem dX9_told_68 : decode cX9_told 68 = .ok (.ireturn, 1) := by decide +kernel
theorem dX9_told_69 : decode cX9_told 69 = .ok (.aload_n 0, 1) := by decide +kernel
theorem dX9_told_70 : decode cX9_told 70 = .ok (.iload_n 1, 1) := by decide +kernel
theorem dX9_told_71 : decode cX9_told 71 = .ok (.invokevirtual 109, 3) := by decide +kernel
theorem dX9_told_74 : decode cX9_told 74 = .ok (.ireturn, 1) := by decide +kernel
theorem dX9_told_75 : decode cX9_told 75 = .ok (.aload_n 0, 1) := by decide +kernel
theorem dX9_told_76 : decode cX9_told 76 = .ok (.iload_n 1, 1) := by decide +kernel
theorem dX9_told_77 : decode cX9_told 77 = .ok (.invokevirtual 112, 3) := by decide +kernel
theorem dX9_told_80 : decode cX9_told 80 = .ok (.ireturn, 1) := by decide +kernel
theorem dX9_told_81 : decode cX9_told 81 = .ok (.ldc 82, 2) := by decide +kernel
theorem dX9_told_83 : decode cX9_told 83 = .ok (.ireturn, 1) := by decide +kernel
theorem dX9_isOf_0 : decode cX9_isOf 0 = .ok (.iload_n 0, 1) := by decide +kernel
theorem dX9_isOf_1 : decode cX9_isOf 1 = .ok (.iload_n 1, 1) := by decide +kernel
theorem dX9_isOf_2 : decode cX9_isOf 2 = .ok (.if_icmp .eq 27, 3) := by decide +kernel
theorem dX9_isOf_5 : decode cX9_isOf 5 = .ok (.iload_n 1, 1) := by decide +kernel
theorem dX9_isOf_6 : decode cX9_isOf 6 = .ok (.ifCond .eq 23, 3) := by decide +kernel
theorem dX9_isOf_9 : decode cX9_isOf 9 = .ok (.iload_n 1, 1) := by decide +kernel
theorem dX9_isOf_10 : decode cX9_isOf 10 = .ok (.iconst 1, 1) := by decide +kernel
theorem dX9_isOf_11 : decode cX9_isOf 11 = .ok (.if_icmp .ne 8, 3) := by decide +kernel
theorem dX9_isOf_14 : decode cX9_isOf 14 = .ok (.iload_n 0, 1) := by decide +kernel
theorem dX9_isOf_15 : decode cX9_isOf 15 = .ok (.iconst 3, 1) := by decide +kernel
theorem dX9_isOf_16 : decode cX9_isOf 16 = .ok (.if_icmp .eq 13, 3) := by decide +kernel
theorem dX9_isOf_19 : decode cX9_isOf 19 = .ok (.iload_n 1, 1) := by decide +kernel
theorem dX9_isOf_20 : decode cX9_isOf 20 = .ok (.iconst 2, 1) := by decide +kernel
theorem dX9_isOf_21 : decode cX9_isOf 21 = .ok (.if_icmp .ne 12, 3) := by decide +kernel
theorem dX9_isOf_24 : decode cX9_isOf 24 = .ok (.iload_n 0, 1) := by decide +kernel
theorem dX9_isOf_25 : decode cX9_isOf 25 = .ok (.iconst 4, 1) := by decide +kernel
theorem dX9_isOf_26 : decode cX9_isOf 26 = .ok (.if_icmp .ne 7, 3) := by decide +kernel
theorem dX9_isOf_29 : decode cX9_isOf 29 = .ok (.iconst 1, 1) := by decide +kernel
theorem dX9_isOf_30 : decode cX9_isOf 30 = .ok (.goto 4, 3) := by decide +kernel
theorem dX9_isOf_33 : decode cX9_isOf 33 = .ok (.iconst 0, 1) := by decide +kernel
theorem dX9_isOf_34 : decode cX9_isOf 34 = .ok (.ireturn, 1) := by decide +kernel
theorem dX9_as_0 : decode cX9_as 0 = .ok (.aload_n 0, 1) := by decide +kernel
theorem dX9_as_1 : decode cX9_as 1 = .ok (.iload_n 1, 1) := by decide +kernel
theorem dX9_as_2 : decode cX9_as 2 = .ok (.invokevirtual 105, 3) := by decide +kernel
theorem dX9_as_5 : decode cX9_as 5 = .ok (.ifCond .eq 15, 3) := by decide +kernel
theorem dX9_as_8 : decode cX9_as 8 = .ok (.iload_n 2, 1) := by decide +kernel
theorem dX9_as_9 : decode cX9_as 9 = .ok (.i2l, 1) := by decide +kernel
theorem dX9_as_10 : decode cX9_as 10 = .ok (.lconst 0, 1) := by decide +kernel
theorem dX9_as_11 : decode cX9_as 11 = .ok (.ldc2_w 78, 3) := by decide +kernel
theorem dX9_as_14 : decode cX9_as 14 = .ok (.invokestatic 62, 3) := by decide +kernel
theorem dX9_as_17 : decode cX9_as 17 = .ok (.ifCond .ne 6, 3) := by decide +kernel
theorem dX9_as_20 : decode cX9_as 20 = .ok (.ldc 82, 2) := by decide +kernel
theorem dX9_as_22 : decode cX9_as 22 = .ok (.ireturn, 1) := by decide +kernel
theorem dX9_as_23 : decode cX9_as 23 = .ok (.aload_n 0, 1) := by decide +kernel
theorem dX9_as_24 : decode cX9_as 24 = .ok (.iload_n 1, 1) := by decide +kernel
theorem dX9_as_25 : decode cX9_as 25 = .ok (.iconst 0, 1) := by decide +kernel
theorem dX9_as_26 : decode cX9_as 26 = .ok (.invokevirtual 67, 3) := by decide +kernel
theorem dX9_as_29 : decode cX9_as 29 = .ok (.iload_n 2, 1) := by decide +kernel
theorem dX9_as_30 : decode cX9_as 30 = .ok (.invokestatic 115, 3) := by decide +kernel
theorem dX9_as_33 : decode cX9_as 33 = .ok (.ifCond .eq 12, 3) := by decide +kernel
theorem dX9_as_36 : decode cX9_as 36 = .ok (.aload_n 0, 1) := by decide +kernel
theorem dX9_as_37 : decode cX9_as 37 = .ok (.iload_n 1, 1) := by decide +kernel
theorem dX9_as_38 : decode cX9_as 38 = .ok (.iconst 2, 1) := by decide +kernel
theorem dX9_as_39 : decode cX9_as 39 = .ok (.invokevirtual 67, 3) := by decide +kernel
theorem dX9_as_42 : decode cX9_as 42 = .ok (.goto 5, 3) := by decide +kernel
theorem dX9_as_45 : decode cX9_as 45 = .ok (.ldc 119, 2) := by decide +kernel
theorem dX9_as_47 : decode cX9_as 47 = .ok (.ireturn, 1) := by decide +kernel
theorem dX9_turns_0 : decode cX9_turns 0 = .ok (.aload_n 0, 1) := by decide +kernel
theorem dX9_turns_1 : decode cX9_turns 1 = .ok (.iload_n 1, 1) := by decide +kernel
theorem dX9_turns_2 : decode cX9_turns 2 = .ok (.invokevirtual 105, 3) := by decide +kernel
theorem dX9_turns_5 : decode cX9_turns 5 = .ok (.ifCond .eq 29, 3) := by decide +kernel
theorem dX9_turns_8 : decode cX9_turns 8 = .ok (.iload_n 2, 1) := by decide +kernel
theorem dX9_turns_9 : decode cX9_turns 9 = .ok (.i2l, 1) := by decide +kernel
theorem dX9_turns_10 : decode cX9_turns 10 = .ok (.lconst 0, 1) := by decide +kernel
theorem dX9_turns_11 : decode cX9_turns 11 = .ok (.ldc2_w 78, 3) := by decide +kernel
theorem dX9_turns_14 : decode cX9_turns 14 = .ok (.invokestatic 62, 3) := by decide +kernel
theorem dX9_turns_17 : decode cX9_turns 17 = .ok (.ifCond .eq 17, 3) := by decide +kernel
theorem dX9_turns_20 : decode cX9_turns 20 = .ok (.aload_n 0, 1) := by decide +kernel
theorem dX9_turns_21 : decode cX9_turns 21 = .ok (.bipush 14, 2) := by decide +kernel
theorem dX9_turns_23 : decode cX9_turns 23 = .ok (.iconst 4, 1) := by decide +kernel
theorem dX9_turns_24 : decode cX9_turns 24 = .ok (.iload_n 1, 1) := by decide +kernel
theorem dX9_turns_25 : decode cX9_turns 25 = .ok (.imul, 1) := by decide +kernel
theorem dX9_turns_26 : decode cX9_turns 26 = .ok (.iadd, 1) := by decide +kernel
theorem dX9_turns_27 : decode cX9_turns 27 = .ok (.iload_n 2, 1) := by decide +kernel
theorem dX9_turns_28 : decode cX9_turns 28 = .ok (.invokevirtual 120, 3) := by decide +kernel
theorem dX9_turns_31 : decode cX9_turns 31 = .ok (.goto 5, 3) := by decide +kernel
theorem dX9_turns_34 : decode cX9_turns 34 = .ok (.ldc 82, 2) := by decide +kernel
theorem dX9_turns_36 : decode cX9_turns 36 = .ok (.ireturn, 1) := by decide +kernel
theorem dX9_file_0 : decode cX9_file 0 = .ok (.aload_n 0, 1) := by decide +kernel
theorem dX9_file_1 : decode cX9_file 1 = .ok (.iload_n 1, 1) := by decide +kernel
theorem dX9_file_2 : decode cX9_file 2 = .ok (.invokevirtual 105, 3) := by decide +kernel
theorem dX9_file_5 : decode cX9_file 5 = .ok (.ifCond .eq 31, 3) := by decide +kernel
theorem dX9_file_8 : decode cX9_file 8 = .ok (.iload_n 2, 1) := by decide +kernel
theorem dX9_file_9 : decode cX9_file 9 = .ok (.i2l, 1) := by decide +kernel
theorem dX9_file_10 : decode cX9_file 10 = .ok (.lconst 0, 1) := by decide +kernel
theorem dX9_file_11 : decode cX9_file 11 = .ok (.ldc2_w 80, 3) := by decide +kernel
theorem dX9_file_14 : decode cX9_file 14 = .ok (.invokestatic 62, 3) := by decide +kernel
theorem dX9_file_17 : decode cX9_file 17 = .ok (.ifCond .eq 19, 3) := by decide +kernel
theorem dX9_file_20 : decode cX9_file 20 = .ok (.aload_n 0, 1) := by decide +kernel
theorem dX9_file_21 : decode cX9_file 21 = .ok (.bipush 14, 2) := by decide +kernel
theorem dX9_file_23 : decode cX9_file 23 = .ok (.iconst 4, 1) := by decide +kernel
theorem dX9_file_24 : decode cX9_file 24 = .ok (.iload_n 1, 1) := by decide +kernel
theorem dX9_file_25 : decode cX9_file 25 = .ok (.imul, 1) := by decide +kernel
theorem dX9_file_26 : decode cX9_file 26 = .ok (.iadd, 1) := by decide +kernel
theorem dX9_file_27 : decode cX9_file 27 = .ok (.iconst 2, 1) := by decide +kernel
theorem dX9_file_28 : decode cX9_file 28 = .ok (.iadd, 1) := by decide +kernel
theorem dX9_file_29 : decode cX9_file 29 = .ok (.iload_n 2, 1) := by decide +kernel
theorem dX9_file_30 : decode cX9_file 30 = .ok (.invokevirtual 120, 3) := by decide +kernel
theorem dX9_file_33 : decode cX9_file 33 = .ok (.goto 5, 3) := by decide +kernel
theorem dX9_file_36 : decode cX9_file 36 = .ok (.ldc 82, 2) := by decide +kernel
theorem dX9_file_38 : decode cX9_file 38 = .ok (.ireturn, 1) := by decide +kernel
theorem dX9_isBalance_0 : decode cX9_isBalance 0 = .ok (.iload_n 0, 1) := by decide +kernel
theorem dX9_isBalance_1 : decode cX9_isBalance 1 = .ok (.ifCond .lt 12, 3) := by decide +kernel
theorem dX9_isBalance_4 : decode cX9_isBalance 4 = .ok (.iload_n 0, 1) := by decide +kernel
theorem dX9_isBalance_5 : decode cX9_isBalance 5 = .ok (.iconst 3, 1) := by decide +kernel
theorem dX9_isBalance_6 : decode cX9_isBalance 6 = .ok (.if_icmp .gt 7, 3) := by decide +kernel
theorem dX9_isBalance_9 : decode cX9_isBalance 9 = .ok (.iconst 1, 1) := by decide +kernel
theorem dX9_isBalance_10 : decode cX9_isBalance 10 = .ok (.goto 4, 3) := by decide +kernel
theorem dX9_isBalance_13 : decode cX9_isBalance 13 = .ok (.iconst 0, 1) := by decide +kernel
theorem dX9_isBalance_14 : decode cX9_isBalance 14 = .ok (.ireturn, 1) := by decide +kernel
theorem dX9_arm_0 : decode cX9_arm 0 = .ok (.iload_n 1, 1) := by decide +kernel
theorem dX9_arm_1 : decode cX9_arm 1 = .ok (.invokestatic 123, 3) := by decide +kernel
theorem dX9_arm_4 : decode cX9_arm 4 = .ok (.ifCond .eq 43, 3) := by decide +kernel
theorem dX9_arm_7 : decode cX9_arm 7 = .ok (.iload_n 2, 1) := by decide +kernel
theorem dX9_arm_8 : decode cX9_arm 8 = .ok (.i2l, 1) := by decide +kernel
theorem dX9_arm_9 : decode cX9_arm 9 = .ok (.lconst 0, 1) := by decide +kernel
theorem dX9_arm_10 : decode cX9_arm 10 = .ok (.lconst 1, 1) := by decide +kernel
theorem dX9_arm_11 : decode cX9_arm 11 = .ok (.invokestatic 62, 3) := by decide +kernel
theorem dX9_arm_14 : decode cX9_arm 14 = .ok (.ifCond .eq 33, 3) := by decide +kernel
theorem dX9_arm_17 : decode cX9_arm 17 = .ok (.iload_n 3, 1) := by decide +kernel
theorem dX9_arm_18 : decode cX9_arm 18 = .ok (.i2l, 1) := by decide +kernel
theorem dX9_arm_19 : decode cX9_arm 19 = .ok (.ldc2_w 126, 3) := by decide +kernel
theorem dX9_arm_22 : decode cX9_arm 22 = .ok (.ldc2_w 128, 3) := by decide +kernel
theorem dX9_arm_25 : decode cX9_arm 25 = .ok (.invokestatic 62, 3) := by decide +kernel
theorem dX9_arm_28 : decode cX9_arm 28 = .ok (.ifCond .eq 19, 3) := by decide +kernel
theorem dX9_arm_31 : decode cX9_arm 31 = .ok (.aload_n 0, 1) := by decide +kernel
theorem dX9_arm_32 : decode cX9_arm 32 = .ok (.bipush 6, 2) := by decide +kernel
theorem dX9_arm_34 : decode cX9_arm 34 = .ok (.iconst 2, 1) := by decide +kernel
theorem dX9_arm_35 : decode cX9_arm 35 = .ok (.iload_n 1, 1) := by decide +kernel
theorem dX9_arm_36 : decode cX9_arm 36 = .ok (.imul, 1) := by decide +kernel
theorem dX9_arm_37 : decode cX9_arm 37 = .ok (.iadd, 1) := by decide +kernel
theorem dX9_arm_38 : decode cX9_arm 38 = .ok (.iload_n 2, 1) := by decide +kernel
theorem dX9_arm_39 : decode cX9_arm 39 = .ok (.iadd, 1) := by decide +kernel
theorem dX9_arm_40 : decode cX9_arm 40 = .ok (.iload_n 3, 1) := by decide +kernel
theorem dX9_arm_41 : decode cX9_arm 41 = .ok (.invokevirtual 120, 3) := by decide +kernel
theorem dX9_arm_44 : decode cX9_arm 44 = .ok (.goto 5, 3) := by decide +kernel
theorem dX9_arm_47 : decode cX9_arm 47 = .ok (.ldc 82, 2) := by decide +kernel
theorem dX9_arm_49 : decode cX9_arm 49 = .ok (.ireturn, 1) := by decide +kernel
theorem dX9_deal_0 : decode cX9_deal 0 = .ok (.iload_n 1, 1) := by decide +kernel
theorem dX9_deal_1 : decode cX9_deal 1 = .ok (.i2l, 1) := by decide +kernel
theorem dX9_deal_2 : decode cX9_deal 2 = .ok (.lconst 1, 1) := by decide +kernel
theorem dX9_deal_3 : decode cX9_deal 3 = .ok (.ldc2_w 130, 3) := by decide +kernel
theorem dX9_deal_6 : decode cX9_deal 6 = .ok (.invokestatic 62, 3) := by decide +kernel
theorem dX9_deal_9 : decode cX9_deal 9 = .ok (.ifCond .ne 6, 3) := by decide +kernel
theorem dX9_deal_12 : decode cX9_deal 12 = .ok (.ldc 82, 2) := by decide +kernel
theorem dX9_deal_14 : decode cX9_deal 14 = .ok (.ireturn, 1) := by decide +kernel
theorem dX9_deal_15 : decode cX9_deal 15 = .ok (.iconst 0, 1) := by decide +kernel
theorem dX9_deal_16 : decode cX9_deal 16 = .ok (.istore_n 2, 1) := by decide +kernel
theorem dX9_deal_17 : decode cX9_deal 17 = .ok (.iload_n 2, 1) := by decide +kernel
theorem dX9_deal_18 : decode cX9_deal 18 = .ok (.iload_n 1, 1) := by decide +kernel
theorem dX9_deal_19 : decode cX9_deal 19 = .ok (.if_icmp .ge 43, 3) := by decide +kernel
theorem dX9_deal_22 : decode cX9_deal 22 = .ok (.aload_n 0, 1) := by decide +kernel
theorem dX9_deal_23 : decode cX9_deal 23 = .ok (.getfield 7, 3) := by decide +kernel
theorem dX9_deal_26 : decode cX9_deal 26 = .ok (.iconst 0, 1) := by decide +kernel
theorem dX9_deal_27 : decode cX9_deal 27 = .ok (.iaload, 1) := by decide +kernel
theorem dX9_deal_28 : decode cX9_deal 28 = .ok (.bipush 10, 2) := by decide +kernel
theorem dX9_deal_30 : decode cX9_deal 30 = .ok (.if_icmp .ge 32, 3) := by decide +kernel
theorem dX9_deal_33 : decode cX9_deal 33 = .ok (.aload_n 0, 1) := by decide +kernel
theorem dX9_deal_34 : decode cX9_deal 34 = .ok (.invokevirtual 132, 3) := by decide +kernel
theorem dX9_deal_37 : decode cX9_deal 37 = .ok (.bipush 6, 2) := by decide +kernel
theorem dX9_deal_39 : decode cX9_deal 39 = .ok (.irem, 1) := by decide +kernel
theorem dX9_deal_40 : decode cX9_deal 40 = .ok (.istore_n 3, 1) := by decide +kernel
theorem dX9_deal_41 : decode cX9_deal 41 = .ok (.aload_n 0, 1) := by decide +kernel
theorem dX9_deal_42 : decode cX9_deal 42 = .ok (.iload_n 3, 1) := by decide +kernel
theorem dX9_deal_43 : decode cX9_deal 43 = .ok (.iconst 1, 1) := by decide +kernel
theorem dX9_deal_44 : decode cX9_deal 44 = .ok (.aload_n 0, 1) := by decide +kernel
theorem dX9_deal_45 : decode cX9_deal 45 = .ok (.invokevirtual 132, 3) := by decide +kernel
theorem dX9_deal_48 : decode cX9_deal 48 = .ok (.sipush 400, 3) := by decide +kernel
theorem dX9_deal_51 : decode cX9_deal 51 = .ok (.irem, 1) := by decide +kernel
theorem dX9_deal_52 : decode cX9_deal 52 = .ok (.iadd, 1) := by decide +kernel
theorem dX9_deal_53 : decode cX9_deal 53 = .ok (.invokevirtual 84, 3) := by decide +kernel
theorem dX9_deal_56 : decode cX9_deal 56 = .ok (.iinc 2 1, 3) := by decide +kernel
theorem dX9_deal_59 : decode cX9_deal 59 = .ok (.goto (-42), 3) := by decide +kernel
theorem dX9_deal_62 : decode cX9_deal 62 = .ok (.iload_n 2, 1) := by decide +kernel
theorem dX9_deal_63 : decode cX9_deal 63 = .ok (.ireturn, 1) := by decide +kernel
theorem dX9_seed_0 : decode cX9_seed 0 = .ok (.aload_n 0, 1) := by decide +kernel
theorem dX9_seed_1 : decode cX9_seed 1 = .ok (.iconst 4, 1) := by decide +kernel
theorem dX9_seed_2 : decode cX9_seed 2 = .ok (.iload_n 1, 1) := by decide +kernel
theorem dX9_seed_3 : decode cX9_seed 3 = .ok (.invokevirtual 120, 3) := by decide +kernel
theorem dX9_seed_6 : decode cX9_seed 6 = .ok (.ireturn, 1) := by decide +kernel
theorem dX9_saysBy_0 : decode cX9_saysBy 0 = .ok (.aload_n 0, 1) := by decide +kernel
theorem dX9_saysBy_1 : decode cX9_saysBy 1 = .ok (.iload_n 1, 1) := by decide +kernel
theorem dX9_saysBy_2 : decode cX9_saysBy 2 = .ok (.iconst 2, 1) := by decide +kernel
theorem dX9_saysBy_3 : decode cX9_saysBy 3 = .ok (.invokevirtual 71, 3) := by decide +kernel
theorem dX9_saysBy_6 : decode cX9_saysBy 6 = .ok (.iload_n 3, 1) := by decide +kernel
theorem dX9_saysBy_7 : decode cX9_saysBy 7 = .ok (.imul, 1) := by decide +kernel
theorem dX9_saysBy_8 : decode cX9_saysBy 8 = .ok (.istore 5, 2) := by decide +kernel
theorem dX9_saysBy_10 : decode cX9_saysBy 10 = .ok (.aload_n 0, 1) := by decide +kernel
theorem dX9_saysBy_11 : decode cX9_saysBy 11 = .ok (.iload_n 2, 1) := by decide +kernel
theorem dX9_saysBy_12 : decode cX9_saysBy 12 = .ok (.iconst 2, 1) := by decide +kernel
theorem dX9_saysBy_13 : decode cX9_saysBy 13 = .ok (.invokevirtual 71, 3) := by decide +kernel
theorem dX9_saysBy_16 : decode cX9_saysBy 16 = .ok (.iload 4, 2) := by decide +kernel
theorem dX9_saysBy_18 : decode cX9_saysBy 18 = .ok (.imul, 1) := by decide +kernel
theorem dX9_saysBy_19 : decode cX9_saysBy 19 = .ok (.istore 6, 2) := by decide +kernel
theorem dX9_saysBy_21 : decode cX9_saysBy 21 = .ok (.iload 5, 2) := by decide +kernel
theorem dX9_saysBy_23 : decode cX9_saysBy 23 = .ok (.iload 6, 2) := by decide +kernel
theorem dX9_saysBy_25 : decode cX9_saysBy 25 = .ok (.if_icmp .ne 7, 3) := by decide +kernel
theorem dX9_saysBy_28 : decode cX9_saysBy 28 = .ok (.iconst 0, 1) := by decide +kernel
theorem dX9_saysBy_29 : decode cX9_saysBy 29 = .ok (.goto 15, 3) := by decide +kernel
theorem dX9_saysBy_32 : decode cX9_saysBy 32 = .ok (.iload 5, 2) := by decide +kernel
theorem dX9_saysBy_34 : decode cX9_saysBy 34 = .ok (.iload 6, 2) := by decide +kernel
theorem dX9_saysBy_36 : decode cX9_saysBy 36 = .ok (.if_icmp .le 7, 3) := by decide +kernel
theorem dX9_saysBy_39 : decode cX9_saysBy 39 = .ok (.iconst 1, 1) := by decide +kernel
theorem dX9_saysBy_40 : decode cX9_saysBy 40 = .ok (.goto 4, 3) := by decide +kernel
theorem dX9_saysBy_43 : decode cX9_saysBy 43 = .ok (.iconst 2, 1) := by decide +kernel
theorem dX9_saysBy_44 : decode cX9_saysBy 44 = .ok (.ireturn, 1) := by decide +kernel
theorem dX9_mayWeigh_0 : decode cX9_mayWeigh 0 = .ok (.iload_n 1, 1) := by decide +kernel
theorem dX9_mayWeigh_1 : decode cX9_mayWeigh 1 = .ok (.invokestatic 123, 3) := by decide +kernel
theorem dX9_mayWeigh_4 : decode cX9_mayWeigh 4 = .ok (.ifCond .eq 19, 3) := by decide +kernel
theorem dX9_mayWeigh_7 : decode cX9_mayWeigh 7 = .ok (.aload_n 0, 1) := by decide +kernel
theorem dX9_mayWeigh_8 : decode cX9_mayWeigh 8 = .ok (.iload_n 2, 1) := by decide +kernel
theorem dX9_mayWeigh_9 : decode cX9_mayWeigh 9 = .ok (.invokevirtual 136, 3) := by decide +kernel
theorem dX9_mayWeigh_12 : decode cX9_mayWeigh 12 = .ok (.ifCond .eq 11, 3) := by decide +kernel
theorem dX9_mayWeigh_15 : decode cX9_mayWeigh 15 = .ok (.aload_n 0, 1) := by decide +kernel
theorem dX9_mayWeigh_16 : decode cX9_mayWeigh 16 = .ok (.iload_n 3, 1) := by decide +kernel
theorem dX9_mayWeigh_17 : decode cX9_mayWeigh 17 = .ok (.invokevirtual 136, 3) := by decide +kernel
theorem dX9_mayWeigh_20 : decode cX9_mayWeigh 20 = .ok (.ifCond .ne 6, 3) := by decide +kernel
theorem dX9_mayWeigh_23 : decode cX9_mayWeigh 23 = .ok (.ldc 82, 2) := by decide +kernel
theorem dX9_mayWeigh_25 : decode cX9_mayWeigh 25 = .ok (.ireturn, 1) := by decide +kernel
theorem dX9_mayWeigh_26 : decode cX9_mayWeigh 26 = .ok (.iload_n 2, 1) := by decide +kernel
theorem dX9_mayWeigh_27 : decode cX9_mayWeigh 27 = .ok (.iload_n 3, 1) := by decide +kernel
theorem dX9_mayWeigh_28 : decode cX9_mayWeigh 28 = .ok (.iand, 1) := by decide +kernel
theorem dX9_mayWeigh_29 : decode cX9_mayWeigh 29 = .ok (.ifCond .ne 11, 3) := by decide +kernel
theorem dX9_mayWeigh_32 : decode cX9_mayWeigh 32 = .ok (.iload_n 2, 1) := by decide +kernel
theorem dX9_mayWeigh_33 : decode cX9_mayWeigh 33 = .ok (.ifCond .ne 12, 3) := by decide +kernel
theorem dX9_mayWeigh_36 : decode cX9_mayWeigh 36 = .ok (.iload_n 3, 1) := by decide +kernel
theorem dX9_mayWeigh_37 : decode cX9_mayWeigh 37 = .ok (.ifCond .ne 8, 3) := by decide +kernel
theorem dX9_mayWeigh_40 : decode cX9_mayWeigh 40 = .ok (.ldc 139, 2) := by decide +kernel
theorem dX9_mayWeigh_42 : decode cX9_mayWeigh 42 = .ok (.goto 4, 3) := by decide +kernel
theorem dX9_mayWeigh_45 : decode cX9_mayWeigh 45 = .ok (.iconst 0, 1) := by decide +kernel
theorem dX9_mayWeigh_46 : decode cX9_mayWeigh 46 = .ok (.ireturn, 1) := by decide +kernel
theorem dX9_said_0 : decode cX9_said 0 = .ok (.aload_n 0, 1) := by decide +kernel
theorem dX9_said_1 : decode cX9_said 1 = .ok (.iload_n 1, 1) := by decide +kernel
theorem dX9_said_2 : decode cX9_said 2 = .ok (.iload_n 2, 1) := by decide +kernel
theorem dX9_said_3 : decode cX9_said 3 = .ok (.iload_n 3, 1) := by decide +kernel
theorem dX9_said_4 : decode cX9_said 4 = .ok (.invokevirtual 140, 3) := by decide +kernel
theorem dX9_said_7 : decode cX9_said 7 = .ok (.istore 4, 2) := by decide +kernel
theorem dX9_said_9 : decode cX9_said 9 = .ok (.iload 4, 2) := by decide +kernel
theorem dX9_said_11 : decode cX9_said 11 = .ok (.ifCond .eq 8, 3) := by decide +kernel
theorem dX9_said_14 : decode cX9_said 14 = .ok (.iload 4, 2) := by decide +kernel
theorem dX9_said_16 : decode cX9_said 16 = .ok (.goto 33, 3) := by decide +kernel
theorem dX9_said_19 : decode cX9_said 19 = .ok (.aload_n 0, 1) := by decide +kernel
theorem dX9_said_20 : decode cX9_said 20 = .ok (.iload_n 2, 1) := by decide +kernel
theorem dX9_said_21 : decode cX9_said 21 = .ok (.iload_n 3, 1) := by decide +kernel
theorem dX9_said_22 : decode cX9_said 22 = .ok (.aload_n 0, 1) := by decide +kernel
theorem dX9_said_23 : decode cX9_said 23 = .ok (.getfield 7, 3) := by decide +kernel
theorem dX9_said_26 : decode cX9_said 26 = .ok (.bipush 6, 2) := by decide +kernel
theorem dX9_said_28 : decode cX9_said 28 = .ok (.iconst 2, 1) := by decide +kernel
theorem dX9_said_29 : decode cX9_said 29 = .ok (.iload_n 1, 1) := by decide +kernel
theorem dX9_said_30 : decode cX9_said 30 = .ok (.imul, 1) := by decide +kernel
theorem dX9_said_31 : decode cX9_said 31 = .ok (.iadd, 1) := by decide +kernel
theorem dX9_said_32 : decode cX9_said 32 = .ok (.iaload, 1) := by decide +kernel
theorem dX9_said_33 : decode cX9_said 33 = .ok (.aload_n 0, 1) := by decide +kernel
theorem dX9_said_34 : decode cX9_said 34 = .ok (.getfield 7, 3) := by decide +kernel
theorem dX9_said_37 : decode cX9_said 37 = .ok (.bipush 6, 2) := by decide +kernel
theorem dX9_said_39 : decode cX9_said 39 = .ok (.iconst 2, 1) := by decide +kernel
theorem dX9_said_40 : decode cX9_said 40 = .ok (.iload_n 1, 1) := by decide +kernel
theorem dX9_said_41 : decode cX9_said 41 = .ok (.imul, 1) := by decide +kernel
theorem dX9_said_42 : decode cX9_said 42 = .ok (.iadd, 1) := by decide +kernel
theorem dX9_said_43 : decode cX9_said 43 = .ok (.iconst 1, 1) := by decide +kernel
theorem dX9_said_44 : decode cX9_said 44 = .ok (.iadd, 1) := by decide +kernel
theorem dX9_said_45 : decode cX9_said 45 = .ok (.iaload, 1) := by decide +kernel
theorem dX9_said_46 : decode cX9_said 46 = .ok (.invokevirtual 143, 3) := by decide +kernel
theorem dX9_said_49 : decode cX9_said 49 = .ok (.ireturn, 1) := by decide +kernel
theorem dX9_writes_0 : decode cX9_writes 0 = .ok (.aload_n 0, 1) := by decide +kernel
theorem dX9_writes_1 : decode cX9_writes 1 = .ok (.getfield 7, 3) := by decide +kernel
theorem dX9_writes_4 : decode cX9_writes 4 = .ok (.iconst 5, 1) := by decide +kernel
theorem dX9_writes_5 : decode cX9_writes 5 = .ok (.iaload, 1) := by decide +kernel
theorem dX9_writes_6 : decode cX9_writes 6 = .ok (.bipush 20, 2) := by decide +kernel
theorem dX9_writes_8 : decode cX9_writes 8 = .ok (.if_icmp .ne 49, 3) := by decide +kernel
theorem dX9_writes_11 : decode cX9_writes 11 = .ok (.iconst 0, 1) := by decide +kernel
theorem dX9_writes_12 : decode cX9_writes 12 = .ok (.istore 6, 2) := by decide +kernel
theorem dX9_writes_14 : decode cX9_writes 14 = .ok (.iload 6, 2) := by decide +kernel
theorem dX9_writes_16 : decode cX9_writes 16 = .ok (.bipush 95, 2) := by decide +kernel
theorem dX9_writes_18 : decode cX9_writes 18 = .ok (.if_icmp .ge 29, 3) := by decide +kernel
theorem dX9_writes_21 : decode cX9_writes 21 = .ok (.aload_n 0, 1) := by decide +kernel
theorem dX9_writes_22 : decode cX9_writes 22 = .ok (.getfield 7, 3) := by decide +kernel
theorem dX9_writes_25 : decode cX9_writes 25 = .ok (.bipush 54, 2) := by decide +kernel
theorem dX9_writes_27 : decode cX9_writes 27 = .ok (.iload 6, 2) := by decide +kernel
theorem dX9_writes_29 : decode cX9_writes 29 = .ok (.iadd, 1) := by decide +kernel
theorem dX9_writes_30 : decode cX9_writes 30 = .ok (.aload_n 0, 1) := by decide +kernel
theorem dX9_writes_31 : decode cX9_writes 31 = .ok (.getfield 7, 3) := by decide +kernel
theorem dX9_writes_34 : decode cX9_writes 34 = .ok (.bipush 59, 2) := by decide +kernel
theorem dX9_writes_36 : decode cX9_writes 36 = .ok (.iload 6, 2) := by decide +kernel
theorem dX9_writes_38 : decode cX9_writes 38 = .ok (.iadd, 1) := by decide +kernel
theorem dX9_writes_39 : decode cX9_writes 39 = .ok (.iaload, 1) := by decide +kernel
theorem dX9_writes_40 : decode cX9_writes 40 = .ok (.iastore, 1) := by decide +kernel
theorem dX9_writes_41 : decode cX9_writes 41 = .ok (.iinc 6 1, 3) := by decide +kernel
theorem dX9_writes_44 : decode cX9_writes 44 = .ok (.goto (-30), 3) := by decide +kernel
theorem dX9_writes_47 : decode cX9_writes 47 = .ok (.aload_n 0, 1) := by decide +kernel
theorem dX9_writes_48 : decode cX9_writes 48 = .ok (.getfield 7, 3) := by decide +kernel
theorem dX9_writes_51 : decode cX9_writes 51 = .ok (.iconst 5, 1) := by decide +kernel
theorem dX9_writes_52 : decode cX9_writes 52 = .ok (.dup2, 1) := by decide +kernel
theorem dX9_writes_53 : decode cX9_writes 53 = .ok (.iaload, 1) := by decide +kernel
theorem dX9_writes_54 : decode cX9_writes 54 = .ok (.iconst 1, 1) := by decide +kernel
theorem dX9_writes_55 : decode cX9_writes 55 = .ok (.isub, 1) := by decide +kernel
theorem dX9_writes_56 : decode cX9_writes 56 = .ok (.iastore, 1) := by decide +kernel
theorem dX9_writes_57 : decode cX9_writes 57 = .ok (.bipush 54, 2) := by decide +kernel
theorem dX9_writes_59 : decode cX9_writes 59 = .ok (.iconst 5, 1) := by decide +kernel
theorem dX9_writes_60 : decode cX9_writes 60 = .ok (.aload_n 0, 1) := by decide +kernel
theorem dX9_writes_61 : decode cX9_writes 61 = .ok (.getfield 7, 3) := by decide +kernel
theorem dX9_writes_64 : decode cX9_writes 64 = .ok (.iconst 5, 1) := by decide +kernel
theorem dX9_writes_65 : decode cX9_writes 65 = .ok (.iaload, 1) := by decide +kernel
theorem dX9_writes_66 : decode cX9_writes 66 = .ok (.imul, 1) := by decide +kernel
theorem dX9_writes_67 : decode cX9_writes 67 = .ok (.iadd, 1) := by decide +kernel
theorem dX9_writes_68 : decode cX9_writes 68 = .ok (.istore 6, 2) := by decide +kernel
theorem dX9_writes_70 : decode cX9_writes 70 = .ok (.aload_n 0, 1) := by decide +kernel
theorem dX9_writes_71 : decode cX9_writes 71 = .ok (.getfield 7, 3) := by decide +kernel
theorem dX9_writes_74 : decode cX9_writes 74 = .ok (.iload 6, 2) := by decide +kernel
theorem dX9_writes_76 : decode cX9_writes 76 = .ok (.iload_n 1, 1) := by decide +kernel
theorem dX9_writes_77 : decode cX9_writes 77 = .ok (.iastore, 1) := by decide +kernel
theorem dX9_writes_78 : decode cX9_writes 78 = .ok (.aload_n 0, 1) := by decide +kernel
theorem dX9_writes_79 : decode cX9_writes 79 = .ok (.getfield 7, 3) := by decide +kernel
theorem dX9_writes_82 : decode cX9_writes 82 = .ok (.iload 6, 2) := by decide +kernel
theorem dX9_writes_84 : decode cX9_writes 84 = .ok (.iconst 1, 1) := by decide +kernel
theorem dX9_writes_85 : decode cX9_writes 85 = .ok (.iadd, 1) := by decide +kernel
theorem dX9_writes_86 : decode cX9_writes 86 = .ok (.iload_n 2, 1) := by decide +kernel
theorem dX9_writes_87 : decode cX9_writes 87 = .ok (.iastore, 1) := by decide +kernel
theorem dX9_writes_88 : decode cX9_writes 88 = .ok (.aload_n 0, 1) := by decide +kernel
theorem dX9_writes_89 : decode cX9_writes 89 = .ok (.getfield 7, 3) := by decide +kernel
theorem dX9_writes_92 : decode cX9_writes 92 = .ok (.iload 6, 2) := by decide +kernel
theorem dX9_writes_94 : decode cX9_writes 94 = .ok (.iconst 2, 1) := by decide +kernel
theorem dX9_writes_95 : decode cX9_writes 95 = .ok (.iadd, 1) := by decide +kernel
theorem dX9_writes_96 : decode cX9_writes 96 = .ok (.iload 5, 2) := by decide +kernel
theorem dX9_writes_98 : decode cX9_writes 98 = .ok (.iastore, 1) := by decide +kernel
theorem dX9_writes_99 : decode cX9_writes 99 = .ok (.aload_n 0, 1) := by decide +kernel
theorem dX9_writes_100 : decode cX9_writes 100 = .ok (.getfield 7, 3) := by decide +kernel
theorem dX9_writes_103 : decode cX9_writes 103 = .ok (.iload 6, 2) := by decide +kernel
theorem dX9_writes_105 : decode cX9_writes 105 = .ok (.iconst 3, 1) := by decide +kernel
theorem dX9_writes_106 : decode cX9_writes 106 = .ok (.iadd, 1) := by decide +kernel
theorem dX9_writes_107 : decode cX9_writes 107 = .ok (.iload_n 3, 1) := by decide +kernel
theorem dX9_writes_108 : decode cX9_writes 108 = .ok (.iastore, 1) := by decide +kernel
theorem dX9_writes_109 : decode cX9_writes 109 = .ok (.aload_n 0, 1) := by decide +kernel
theorem dX9_writes_110 : decode cX9_writes 110 = .ok (.getfield 7, 3) := by decide +kernel
theorem dX9_writes_113 : decode cX9_writes 113 = .ok (.iload 6, 2) := by decide +kernel
theorem dX9_writes_115 : decode cX9_writes 115 = .ok (.iconst 4, 1) := by decide +kernel
theorem dX9_writes_116 : decode cX9_writes 116 = .ok (.iadd, 1) := by decide +kernel
theorem dX9_writes_117 : decode cX9_writes 117 = .ok (.iload 4, 2) := by decide +kernel
theorem dX9_writes_119 : decode cX9_writes 119 = .ok (.iastore, 1) := by decide +kernel
theorem dX9_writes_120 : decode cX9_writes 120 = .ok (.aload_n 0, 1) := by decide +kernel
theorem dX9_writes_121 : decode cX9_writes 121 = .ok (.getfield 7, 3) := by decide +kernel
theorem dX9_writes_124 : decode cX9_writes 124 = .ok (.iconst 5, 1) := by decide +kernel
theorem dX9_writes_125 : decode cX9_writes 125 = .ok (.dup2, 1) := by decide +kernel
theorem dX9_writes_126 : decode cX9_writes 126 = .ok (.iaload, 1) := by decide +kernel
theorem dX9_writes_127 : decode cX9_writes 127 = .ok (.iconst 1, 1) := by decide +kernel
theorem dX9_writes_128 : decode cX9_writes 128 = .ok (.iadd, 1) := by decide +kernel
theorem dX9_writes_129 : decode cX9_writes 129 = .ok (.iastore, 1) := by decide +kernel
theorem dX9_writes_130 : decode cX9_writes 130 = .ok (.return_, 1) := by decide +kernel
theorem dX9_weigh_0 : decode cX9_weigh 0 = .ok (.aload_n 0, 1) := by decide +kernel
theorem dX9_weigh_1 : decode cX9_weigh 1 = .ok (.iload_n 1, 1) := by decide +kernel
theorem dX9_weigh_2 : decode cX9_weigh 2 = .ok (.iload_n 2, 1) := by decide +kernel
theorem dX9_weigh_3 : decode cX9_weigh 3 = .ok (.iload_n 3, 1) := by decide +kernel
theorem dX9_weigh_4 : decode cX9_weigh 4 = .ok (.invokevirtual 147, 3) := by decide +kernel
theorem dX9_weigh_7 : decode cX9_weigh 7 = .ok (.istore 4, 2) := by decide +kernel
theorem dX9_weigh_9 : decode cX9_weigh 9 = .ok (.iload 4, 2) := by decide +kernel
theorem dX9_weigh_11 : decode cX9_weigh 11 = .ok (.ifCond .ge 6, 3) := by decide +kernel
theorem dX9_weigh_14 : decode cX9_weigh 14 = .ok (.iload 4, 2) := by decide +kernel
theorem dX9_weigh_16 : decode cX9_weigh 16 = .ok (.ireturn, 1) := by decide +kernel
theorem dX9_weigh_17 : decode cX9_weigh 17 = .ok (.aload_n 0, 1) := by decide +kernel
theorem dX9_weigh_18 : decode cX9_weigh 18 = .ok (.iload_n 2, 1) := by decide +kernel
theorem dX9_weigh_19 : decode cX9_weigh 19 = .ok (.iload_n 3, 1) := by decide +kernel
theorem dX9_weigh_20 : decode cX9_weigh 20 = .ok (.aload_n 0, 1) := by decide +kernel
theorem dX9_weigh_21 : decode cX9_weigh 21 = .ok (.getfield 7, 3) := by decide +kernel
theorem dX9_weigh_24 : decode cX9_weigh 24 = .ok (.bipush 6, 2) := by decide +kernel
theorem dX9_weigh_26 : decode cX9_weigh 26 = .ok (.iconst 2, 1) := by decide +kernel
theorem dX9_weigh_27 : decode cX9_weigh 27 = .ok (.iload_n 1, 1) := by decide +kernel
theorem dX9_weigh_28 : decode cX9_weigh 28 = .ok (.imul, 1) := by decide +kernel
theorem dX9_weigh_29 : decode cX9_weigh 29 = .ok (.iadd, 1) := by decide +kernel
theorem dX9_weigh_30 : decode cX9_weigh 30 = .ok (.iaload, 1) := by decide +kernel
theorem dX9_weigh_31 : decode cX9_weigh 31 = .ok (.aload_n 0, 1) := by decide +kernel
theorem dX9_weigh_32 : decode cX9_weigh 32 = .ok (.getfield 7, 3) := by decide +kernel
theorem dX9_weigh_35 : decode cX9_weigh 35 = .ok (.bipush 6, 2) := by decide +kernel
theorem dX9_weigh_37 : decode cX9_weigh 37 = .ok (.iconst 2, 1) := by decide +kernel
theorem dX9_weigh_38 : decode cX9_weigh 38 = .ok (.iload_n 1, 1) := by decide +kernel
theorem dX9_weigh_39 : decode cX9_weigh 39 = .ok (.imul, 1) := by decide +kernel
theorem dX9_weigh_40 : decode cX9_weigh 40 = .ok (.iadd, 1) := by decide +kernel
theorem dX9_weigh_41 : decode cX9_weigh 41 = .ok (.iconst 1, 1) := by decide +kernel
theorem dX9_weigh_42 : decode cX9_weigh 42 = .ok (.iadd, 1) := by decide +kernel
theorem dX9_weigh_43 : decode cX9_weigh 43 = .ok (.iaload, 1) := by decide +kernel
theorem dX9_weigh_44 : decode cX9_weigh 44 = .ok (.iload 4, 2) := by decide +kernel
theorem dX9_weigh_46 : decode cX9_weigh 46 = .ok (.invokevirtual 150, 3) := by decide +kernel
theorem dX9_weigh_49 : decode cX9_weigh 49 = .ok (.iconst 0, 1) := by decide +kernel
theorem dX9_weigh_50 : decode cX9_weigh 50 = .ok (.istore 5, 2) := by decide +kernel
theorem dX9_weigh_52 : decode cX9_weigh 52 = .ok (.iload 5, 2) := by decide +kernel
theorem dX9_weigh_54 : decode cX9_weigh 54 = .ok (.aload_n 0, 1) := by decide +kernel
theorem dX9_weigh_55 : decode cX9_weigh 55 = .ok (.getfield 7, 3) := by decide +kernel
theorem dX9_weigh_58 : decode cX9_weigh 58 = .ok (.iconst 0, 1) := by decide +kernel
theorem dX9_weigh_59 : decode cX9_weigh 59 = .ok (.iaload, 1) := by decide +kernel
theorem dX9_weigh_60 : decode cX9_weigh 60 = .ok (.if_icmp .ge 58, 3) := by decide +kernel
theorem dX9_weigh_63 : decode cX9_weigh 63 = .ok (.iload_n 2, 1) := by decide +kernel
theorem dX9_weigh_64 : decode cX9_weigh 64 = .ok (.iload_n 3, 1) := by decide +kernel
theorem dX9_weigh_65 : decode cX9_weigh 65 = .ok (.ior, 1) := by decide +kernel
theorem dX9_weigh_66 : decode cX9_weigh 66 = .ok (.iload 5, 2) := by decide +kernel
theorem dX9_weigh_68 : decode cX9_weigh 68 = .ok (.ishr, 1) := by decide +kernel
theorem dX9_weigh_69 : decode cX9_weigh 69 = .ok (.iconst 1, 1) := by decide +kernel
theorem dX9_weigh_70 : decode cX9_weigh 70 = .ok (.iand, 1) := by decide +kernel
theorem dX9_weigh_71 : decode cX9_weigh 71 = .ok (.iconst 1, 1) := by decide +kernel
theorem dX9_weigh_72 : decode cX9_weigh 72 = .ok (.if_icmp .ne 40, 3) := by decide +kernel
theorem dX9_weigh_75 : decode cX9_weigh 75 = .ok (.aload_n 0, 1) := by decide +kernel
theorem dX9_weigh_76 : decode cX9_weigh 76 = .ok (.iload 5, 2) := by decide +kernel
theorem dX9_weigh_78 : decode cX9_weigh 78 = .ok (.iconst 2, 1) := by decide +kernel
theorem dX9_weigh_79 : decode cX9_weigh 79 = .ok (.aload_n 0, 1) := by decide +kernel
theorem dX9_weigh_80 : decode cX9_weigh 80 = .ok (.iload 5, 2) := by decide +kernel
theorem dX9_weigh_82 : decode cX9_weigh 82 = .ok (.iconst 2, 1) := by decide +kernel
theorem dX9_weigh_83 : decode cX9_weigh 83 = .ok (.invokevirtual 67, 3) := by decide +kernel
theorem dX9_weigh_86 : decode cX9_weigh 86 = .ok (.aload_n 0, 1) := by decide +kernel
theorem dX9_weigh_87 : decode cX9_weigh 87 = .ok (.iload 5, 2) := by decide +kernel
theorem dX9_weigh_89 : decode cX9_weigh 89 = .ok (.invokevirtual 102, 3) := by decide +kernel
theorem dX9_weigh_92 : decode cX9_weigh 92 = .ok (.isub, 1) := by decide +kernel
theorem dX9_weigh_93 : decode cX9_weigh 93 = .ok (.invokevirtual 74, 3) := by decide +kernel
theorem dX9_weigh_96 : decode cX9_weigh 96 = .ok (.aload_n 0, 1) := by decide +kernel
theorem dX9_weigh_97 : decode cX9_weigh 97 = .ok (.iload 5, 2) := by decide +kernel
theorem dX9_weigh_99 : decode cX9_weigh 99 = .ok (.iconst 3, 1) := by decide +kernel
theorem dX9_weigh_100 : decode cX9_weigh 100 = .ok (.aload_n 0, 1) := by decide +kernel
theorem dX9_weigh_101 : decode cX9_weigh 101 = .ok (.iload 5, 2) := by decide +kernel
theorem dX9_weigh_103 : decode cX9_weigh 103 = .ok (.iconst 3, 1) := by decide +kernel
theorem dX9_weigh_104 : decode cX9_weigh 104 = .ok (.invokevirtual 67, 3) := by decide +kernel
theorem dX9_weigh_107 : decode cX9_weigh 107 = .ok (.iconst 1, 1) := by decide +kernel
theorem dX9_weigh_108 : decode cX9_weigh 108 = .ok (.iadd, 1) := by decide +kernel
theorem dX9_weigh_109 : decode cX9_weigh 109 = .ok (.invokevirtual 74, 3) := by decide +kernel
theorem dX9_weigh_112 : decode cX9_weigh 112 = .ok (.iinc 5 1, 3) := by decide +kernel
theorem dX9_weigh_115 : decode cX9_weigh 115 = .ok (.goto (-63), 3) := by decide +kernel
theorem dX9_weigh_118 : decode cX9_weigh 118 = .ok (.iload 4, 2) := by decide +kernel
theorem dX9_weigh_120 : decode cX9_weigh 120 = .ok (.ireturn, 1) := by decide +kernel
theorem dX9_falls_0 : decode cX9_falls 0 = .ok (.aload_n 0, 1) := by decide +kernel
theorem dX9_falls_1 : decode cX9_falls 1 = .ok (.iload_n 1, 1) := by decide +kernel
theorem dX9_falls_2 : decode cX9_falls 2 = .ok (.invokevirtual 109, 3) := by decide +kernel
theorem dX9_falls_5 : decode cX9_falls 5 = .ok (.istore_n 2, 1) := by decide +kernel
theorem dX9_falls_6 : decode cX9_falls 6 = .ok (.aload_n 0, 1) := by decide +kernel
theorem dX9_falls_7 : decode cX9_falls 7 = .ok (.iload_n 1, 1) := by decide +kernel
theorem dX9_falls_8 : decode cX9_falls 8 = .ok (.iconst 2, 1) := by decide +kernel
theorem dX9_falls_9 : decode cX9_falls 9 = .ok (.aload_n 0, 1) := by decide +kernel
theorem dX9_falls_10 : decode cX9_falls 10 = .ok (.iload_n 1, 1) := by decide +kernel
theorem dX9_falls_11 : decode cX9_falls 11 = .ok (.iconst 2, 1) := by decide +kernel
theorem dX9_falls_12 : decode cX9_falls 12 = .ok (.invokevirtual 67, 3) := by decide +kernel
theorem dX9_falls_15 : decode cX9_falls 15 = .ok (.iload_n 2, 1) := by decide +kernel
theorem dX9_falls_16 : decode cX9_falls 16 = .ok (.isub, 1) := by decide +kernel
theorem dX9_falls_17 : decode cX9_falls 17 = .ok (.invokevirtual 74, 3) := by decide +kernel
theorem dX9_falls_20 : decode cX9_falls 20 = .ok (.iload_n 2, 1) := by decide +kernel
theorem dX9_falls_21 : decode cX9_falls 21 = .ok (.ireturn, 1) := by decide +kernel
theorem dX9_fall_0 : decode cX9_fall 0 = .ok (.aload_n 0, 1) := by decide +kernel
theorem dX9_fall_1 : decode cX9_fall 1 = .ok (.iload_n 1, 1) := by decide +kernel
theorem dX9_fall_2 : decode cX9_fall 2 = .ok (.invokevirtual 105, 3) := by decide +kernel
theorem dX9_fall_5 : decode cX9_fall 5 = .ok (.ifCond .eq 11, 3) := by decide +kernel
theorem dX9_fall_8 : decode cX9_fall 8 = .ok (.aload_n 0, 1) := by decide +kernel
theorem dX9_fall_9 : decode cX9_fall 9 = .ok (.iload_n 1, 1) := by decide +kernel
theorem dX9_fall_10 : decode cX9_fall 10 = .ok (.invokevirtual 154, 3) := by decide +kernel
theorem dX9_fall_13 : decode cX9_fall 13 = .ok (.goto 5, 3) := by decide +kernel
theorem dX9_fall_16 : decode cX9_fall 16 = .ok (.ldc 82, 2) := by decide +kernel
theorem dX9_fall_18 : decode cX9_fall 18 = .ok (.ireturn, 1) := by decide +kernel
theorem dX9_takes_0 : decode cX9_takes 0 = .ok (.sipush 999, 3) := by decide +kernel
theorem dX9_takes_3 : decode cX9_takes 3 = .ok (.aload_n 0, 1) := by decide +kernel
theorem dX9_takes_4 : decode cX9_takes 4 = .ok (.iload_n 1, 1) := by decide +kernel
theorem dX9_takes_5 : decode cX9_takes 5 = .ok (.iconst 2, 1) := by decide +kernel
theorem dX9_takes_6 : decode cX9_takes 6 = .ok (.invokevirtual 67, 3) := by decide +kernel
theorem dX9_takes_9 : decode cX9_takes 9 = .ok (.isub, 1) := by decide +kernel
theorem dX9_takes_10 : decode cX9_takes 10 = .ok (.istore_n 3, 1) := by decide +kernel
theorem dX9_takes_11 : decode cX9_takes 11 = .ok (.iload_n 2, 1) := by decide +kernel
theorem dX9_takes_12 : decode cX9_takes 12 = .ok (.iload_n 3, 1) := by decide +kernel
theorem dX9_takes_13 : decode cX9_takes 13 = .ok (.if_icmp .ge 7, 3) := by decide +kernel
theorem dX9_takes_16 : decode cX9_takes 16 = .ok (.iload_n 2, 1) := by decide +kernel
theorem dX9_takes_17 : decode cX9_takes 17 = .ok (.goto 4, 3) := by decide +kernel
theorem dX9_takes_20 : decode cX9_takes 20 = .ok (.iload_n 3, 1) := by decide +kernel
theorem dX9_takes_21 : decode cX9_takes 21 = .ok (.istore 4, 2) := by decide +kernel
theorem dX9_takes_23 : decode cX9_takes 23 = .ok (.aload_n 0, 1) := by decide +kernel
theorem dX9_takes_24 : decode cX9_takes 24 = .ok (.iload_n 1, 1) := by decide +kernel
theorem dX9_takes_25 : decode cX9_takes 25 = .ok (.iconst 2, 1) := by decide +kernel
theorem dX9_takes_26 : decode cX9_takes 26 = .ok (.aload_n 0, 1) := by decide +kernel
theorem dX9_takes_27 : decode cX9_takes 27 = .ok (.iload_n 1, 1) := by decide +kernel
theorem dX9_takes_28 : decode cX9_takes 28 = .ok (.iconst 2, 1) := by decide +kernel
theorem dX9_takes_29 : decode cX9_takes 29 = .ok (.invokevirtual 67, 3) := by decide +kernel
theorem dX9_takes_32 : decode cX9_takes 32 = .ok (.iload 4, 2) := by decide +kernel
theorem dX9_takes_34 : decode cX9_takes 34 = .ok (.iadd, 1) := by decide +kernel
theorem dX9_takes_35 : decode cX9_takes 35 = .ok (.invokevirtual 74, 3) := by decide +kernel
theorem dX9_takes_38 : decode cX9_takes 38 = .ok (.aload_n 0, 1) := by decide +kernel
theorem dX9_takes_39 : decode cX9_takes 39 = .ok (.getfield 7, 3) := by decide +kernel
theorem dX9_takes_42 : decode cX9_takes 42 = .ok (.iconst 2, 1) := by decide +kernel
theorem dX9_takes_43 : decode cX9_takes 43 = .ok (.aload_n 0, 1) := by decide +kernel
theorem dX9_takes_44 : decode cX9_takes 44 = .ok (.getfield 7, 3) := by decide +kernel
theorem dX9_takes_47 : decode cX9_takes 47 = .ok (.iconst 2, 1) := by decide +kernel
theorem dX9_takes_48 : decode cX9_takes 48 = .ok (.iaload, 1) := by decide +kernel
theorem dX9_takes_49 : decode cX9_takes 49 = .ok (.iload 4, 2) := by decide +kernel
theorem dX9_takes_51 : decode cX9_takes 51 = .ok (.iadd, 1) := by decide +kernel
theorem dX9_takes_52 : decode cX9_takes 52 = .ok (.ldc 157, 2) := by decide +kernel
theorem dX9_takes_54 : decode cX9_takes 54 = .ok (.invokestatic 95, 3) := by decide +kernel
theorem dX9_takes_57 : decode cX9_takes 57 = .ok (.iastore, 1) := by decide +kernel
theorem dX9_takes_58 : decode cX9_takes 58 = .ok (.iload 4, 2) := by decide +kernel
theorem dX9_takes_60 : decode cX9_takes 60 = .ok (.ireturn, 1) := by decide +kernel
theorem dX9_shoot_0 : decode cX9_shoot 0 = .ok (.aload_n 0, 1) := by decide +kernel
theorem dX9_shoot_1 : decode cX9_shoot 1 = .ok (.iload_n 1, 1) := by decide +kernel
theorem dX9_shoot_2 : decode cX9_shoot 2 = .ok (.invokevirtual 105, 3) := by decide +kernel
theorem dX9_shoot_5 : decode cX9_shoot 5 = .ok (.ifCond .eq 24, 3) := by decide +kernel
theorem dX9_shoot_8 : decode cX9_shoot 8 = .ok (.iload_n 2, 1) := by decide +kernel
theorem dX9_shoot_9 : decode cX9_shoot 9 = .ok (.i2l, 1) := by decide +kernel
theorem dX9_shoot_10 : decode cX9_shoot 10 = .ok (.lconst 1, 1) := by decide +kernel
theorem dX9_shoot_11 : decode cX9_shoot 11 = .ok (.ldc2_w 80, 3) := by decide +kernel
theorem dX9_shoot_14 : decode cX9_shoot 14 = .ok (.invokestatic 62, 3) := by decide +kernel
theorem dX9_shoot_17 : decode cX9_shoot 17 = .ok (.ifCond .eq 12, 3) := by decide +kernel
theorem dX9_shoot_20 : decode cX9_shoot 20 = .ok (.aload_n 0, 1) := by decide +kernel
theorem dX9_shoot_21 : decode cX9_shoot 21 = .ok (.iload_n 1, 1) := by decide +kernel
theorem dX9_shoot_22 : decode cX9_shoot 22 = .ok (.iload_n 2, 1) := by decide +kernel
theorem dX9_shoot_23 : decode cX9_shoot 23 = .ok (.invokevirtual 158, 3) := by decide +kernel
theorem dX9_shoot_26 : decode cX9_shoot 26 = .ok (.goto 5, 3) := by decide +kernel
theorem dX9_shoot_29 : decode cX9_shoot 29 = .ok (.ldc 82, 2) := by decide +kernel
theorem dX9_shoot_31 : decode cX9_shoot 31 = .ok (.ireturn, 1) := by decide +kernel
theorem dX9_lawful_0 : decode cX9_lawful 0 = .ok (.aload_n 0, 1) := by decide +kernel
theorem dX9_lawful_1 : decode cX9_lawful 1 = .ok (.iload_n 1, 1) := by decide +kernel
theorem dX9_lawful_2 : decode cX9_lawful 2 = .ok (.iconst 1, 1) := by decide +kernel
theorem dX9_lawful_3 : decode cX9_lawful 3 = .ok (.invokevirtual 67, 3) := by decide +kernel
theorem dX9_lawful_6 : decode cX9_lawful 6 = .ok (.istore_n 2, 1) := by decide +kernel
theorem dX9_lawful_7 : decode cX9_lawful 7 = .ok (.aload_n 0, 1) := by decide +kernel
theorem dX9_lawful_8 : decode cX9_lawful 8 = .ok (.iconst 1, 1) := by decide +kernel
theorem dX9_lawful_9 : decode cX9_lawful 9 = .ok (.invokevirtual 88, 3) := by decide +kernel
theorem dX9_lawful_12 : decode cX9_lawful 12 = .ok (.istore_n 3, 1) := by decide +kernel
theorem dX9_lawful_13 : decode cX9_lawful 13 = .ok (.iload_n 3, 1) := by decide +kernel
theorem dX9_lawful_14 : decode cX9_lawful 14 = .ok (.ifCond .ge 10, 3) := by decide +kernel
theorem dX9_lawful_17 : decode cX9_lawful 17 = .ok (.iload_n 2, 1) := by decide +kernel
theorem dX9_lawful_18 : decode cX9_lawful 18 = .ok (.iload_n 2, 1) := by decide +kernel
theorem dX9_lawful_19 : decode cX9_lawful 19 = .ok (.bipush 10, 2) := by decide +kernel
theorem dX9_lawful_21 : decode cX9_lawful 21 = .ok (.idiv, 1) := by decide +kernel
theorem dX9_lawful_22 : decode cX9_lawful 22 = .ok (.isub, 1) := by decide +kernel
theorem dX9_lawful_23 : decode cX9_lawful 23 = .ok (.ireturn, 1) := by decide +kernel
theorem dX9_lawful_24 : decode cX9_lawful 24 = .ok (.aload_n 0, 1) := by decide +kernel
theorem dX9_lawful_25 : decode cX9_lawful 25 = .ok (.getfield 46, 3) := by decide +kernel
theorem dX9_lawful_28 : decode cX9_lawful 28 = .ok (.bipush 115, 2) := by decide +kernel
theorem dX9_lawful_30 : decode cX9_lawful 30 = .ok (.iload_n 2, 1) := by decide +kernel
theorem dX9_lawful_31 : decode cX9_lawful 31 = .ok (.iastore, 1) := by decide +kernel
theorem dX9_lawful_32 : decode cX9_lawful 32 = .ok (.aload_n 0, 1) := by decide +kernel
theorem dX9_lawful_33 : decode cX9_lawful 33 = .ok (.getfield 46, 3) := by decide +kernel
theorem dX9_lawful_36 : decode cX9_lawful 36 = .ok (.bipush 100, 2) := by decide +kernel
theorem dX9_lawful_38 : decode cX9_lawful 38 = .ok (.aload_n 0, 1) := by decide +kernel
theorem dX9_lawful_39 : decode cX9_lawful 39 = .ok (.getfield 7, 3) := by decide +kernel
theorem dX9_lawful_42 : decode cX9_lawful 42 = .ok (.iconst 3, 1) := by decide +kernel
theorem dX9_lawful_43 : decode cX9_lawful 43 = .ok (.iaload, 1) := by decide +kernel
theorem dX9_lawful_44 : decode cX9_lawful 44 = .ok (.iastore, 1) := by decide +kernel
theorem dX9_lawful_45 : decode cX9_lawful 45 = .ok (.aload_n 0, 1) := by decide +kernel
theorem dX9_lawful_46 : decode cX9_lawful 46 = .ok (.iload_n 3, 1) := by decide +kernel
theorem dX9_lawful_47 : decode cX9_lawful 47 = .ok (.invokevirtual 92, 3) := by decide +kernel
theorem dX9_lawful_50 : decode cX9_lawful 50 = .ok (.sipush 999, 3) := by decide +kernel
theorem dX9_lawful_53 : decode cX9_lawful 53 = .ok (.invokestatic 95, 3) := by decide +kernel
theorem dX9_lawful_56 : decode cX9_lawful 56 = .ok (.ireturn, 1) := by decide +kernel
theorem dX9_monday_0 : decode cX9_monday 0 = .ok (.iconst 0, 1) := by decide +kernel
theorem dX9_monday_1 : decode cX9_monday 1 = .ok (.istore_n 1, 1) := by decide +kernel
theorem dX9_monday_2 : decode cX9_monday 2 = .ok (.iconst 0, 1) := by decide +kernel
theorem dX9_monday_3 : decode cX9_monday 3 = .ok (.istore_n 2, 1) := by decide +kernel
theorem dX9_monday_4 : decode cX9_monday 4 = .ok (.iload_n 2, 1) := by decide +kernel
theorem dX9_monday_5 : decode cX9_monday 5 = .ok (.aload_n 0, 1) := by decide +kernel
theorem dX9_monday_6 : decode cX9_monday 6 = .ok (.getfield 7, 3) := by decide +kernel
theorem dX9_monday_9 : decode cX9_monday 9 = .ok (.iconst 0, 1) := by decide +kernel
theorem dX9_monday_10 : decode cX9_monday 10 = .ok (.iaload, 1) := by decide +kernel
theorem dX9_monday_11 : decode cX9_monday 11 = .ok (.if_icmp .ge 39, 3) := by decide +kernel
theorem dX9_monday_14 : decode cX9_monday 14 = .ok (.aload_n 0, 1) := by decide +kernel
theorem dX9_monday_15 : decode cX9_monday 15 = .ok (.iload_n 2, 1) := by decide +kernel
theorem dX9_monday_16 : decode cX9_monday 16 = .ok (.invokevirtual 161, 3) := by decide +kernel
theorem dX9_monday_19 : decode cX9_monday 19 = .ok (.aload_n 0, 1) := by decide +kernel
theorem dX9_monday_20 : decode cX9_monday 20 = .ok (.iload_n 2, 1) := by decide +kernel
theorem dX9_monday_21 : decode cX9_monday 21 = .ok (.iconst 2, 1) := by decide +kernel
theorem dX9_monday_22 : decode cX9_monday 22 = .ok (.invokevirtual 67, 3) := by decide +kernel
theorem dX9_monday_25 : decode cX9_monday 25 = .ok (.isub, 1) := by decide +kernel
theorem dX9_monday_26 : decode cX9_monday 26 = .ok (.istore_n 3, 1) := by decide +kernel
theorem dX9_monday_27 : decode cX9_monday 27 = .ok (.iload_n 1, 1) := by decide +kernel
theorem dX9_monday_28 : decode cX9_monday 28 = .ok (.iload_n 3, 1) := by decide +kernel
theorem dX9_monday_29 : decode cX9_monday 29 = .ok (.ifCond .le 12, 3) := by decide +kernel
theorem dX9_monday_32 : decode cX9_monday 32 = .ok (.aload_n 0, 1) := by decide +kernel
theorem dX9_monday_33 : decode cX9_monday 33 = .ok (.iload_n 2, 1) := by decide +kernel
theorem dX9_monday_34 : decode cX9_monday 34 = .ok (.iload_n 3, 1) := by decide +kernel
theorem dX9_monday_35 : decode cX9_monday 35 = .ok (.invokevirtual 158, 3) := by decide +kernel
theorem dX9_monday_38 : decode cX9_monday 38 = .ok (.goto 4, 3) := by decide +kernel
theorem dX9_monday_41 : decode cX9_monday 41 = .ok (.iconst 0, 1) := by decide +kernel
theorem dX9_monday_42 : decode cX9_monday 42 = .ok (.iadd, 1) := by decide +kernel
theorem dX9_monday_43 : decode cX9_monday 43 = .ok (.istore_n 1, 1) := by decide +kernel
theorem dX9_monday_44 : decode cX9_monday 44 = .ok (.iinc 2 1, 3) := by decide +kernel
theorem dX9_monday_47 : decode cX9_monday 47 = .ok (.goto (-43), 3) := by decide +kernel
theorem dX9_monday_50 : decode cX9_monday 50 = .ok (.iload_n 1, 1) := by decide +kernel
theorem dX9_monday_51 : decode cX9_monday 51 = .ok (.ireturn, 1) := by decide +kernel
theorem dX9_day_0 : decode cX9_day 0 = .ok (.iconst 0, 1) := by decide +kernel
theorem dX9_day_1 : decode cX9_day 1 = .ok (.istore_n 1, 1) := by decide +kernel
theorem dX9_day_2 : decode cX9_day 2 = .ok (.iconst 0, 1) := by decide +kernel
theorem dX9_day_3 : decode cX9_day 3 = .ok (.istore_n 2, 1) := by decide +kernel
theorem dX9_day_4 : decode cX9_day 4 = .ok (.iload_n 2, 1) := by decide +kernel
theorem dX9_day_5 : decode cX9_day 5 = .ok (.aload_n 0, 1) := by decide +kernel
theorem dX9_day_6 : decode cX9_day 6 = .ok (.getfield 7, 3) := by decide +kernel
theorem dX9_day_9 : decode cX9_day 9 = .ok (.iconst 0, 1) := by decide +kernel
theorem dX9_day_10 : decode cX9_day 10 = .ok (.iaload, 1) := by decide +kernel
theorem dX9_day_11 : decode cX9_day 11 = .ok (.if_icmp .ge 29, 3) := by decide +kernel
theorem dX9_day_14 : decode cX9_day 14 = .ok (.aload_n 0, 1) := by decide +kernel
theorem dX9_day_15 : decode cX9_day 15 = .ok (.invokevirtual 132, 3) := by decide +kernel
theorem dX9_day_18 : decode cX9_day 18 = .ok (.bipush 100, 2) := by decide +kernel
theorem dX9_day_20 : decode cX9_day 20 = .ok (.irem, 1) := by decide +kernel
theorem dX9_day_21 : decode cX9_day 21 = .ok (.iconst 5, 1) := by decide +kernel
theorem dX9_day_22 : decode cX9_day 22 = .ok (.if_icmp .ge 12, 3) := by decide +kernel
theorem dX9_day_25 : decode cX9_day 25 = .ok (.aload_n 0, 1) := by decide +kernel
theorem dX9_day_26 : decode cX9_day 26 = .ok (.iload_n 2, 1) := by decide +kernel
theorem dX9_day_27 : decode cX9_day 27 = .ok (.invokevirtual 154, 3) := by decide +kernel
theorem dX9_day_30 : decode cX9_day 30 = .ok (.istore_n 3, 1) := by decide +kernel
theorem dX9_day_31 : decode cX9_day 31 = .ok (.iinc 1 1, 3) := by decide +kernel
theorem dX9_day_34 : decode cX9_day 34 = .ok (.iinc 2 1, 3) := by decide +kernel
theorem dX9_day_37 : decode cX9_day 37 = .ok (.goto (-33), 3) := by decide +kernel
theorem dX9_day_40 : decode cX9_day 40 = .ok (.aload_n 0, 1) := by decide +kernel
theorem dX9_day_41 : decode cX9_day 41 = .ok (.getfield 7, 3) := by decide +kernel
theorem dX9_day_44 : decode cX9_day 44 = .ok (.iconst 3, 1) := by decide +kernel
theorem dX9_day_45 : decode cX9_day 45 = .ok (.iaload, 1) := by decide +kernel
theorem dX9_day_46 : decode cX9_day 46 = .ok (.bipush 7, 2) := by decide +kernel
theorem dX9_day_48 : decode cX9_day 48 = .ok (.irem, 1) := by decide +kernel
theorem dX9_day_49 : decode cX9_day 49 = .ok (.ifCond .ne 8, 3) := by decide +kernel
theorem dX9_day_52 : decode cX9_day 52 = .ok (.aload_n 0, 1) := by decide +kernel
theorem dX9_day_53 : decode cX9_day 53 = .ok (.invokevirtual 164, 3) := by decide +kernel
theorem dX9_day_56 : decode cX9_day 56 = .ok (.istore_n 2, 1) := by decide +kernel
theorem dX9_day_57 : decode cX9_day 57 = .ok (.aload_n 0, 1) := by decide +kernel
theorem dX9_day_58 : decode cX9_day 58 = .ok (.getfield 7, 3) := by decide +kernel
theorem dX9_day_61 : decode cX9_day 61 = .ok (.iconst 3, 1) := by decide +kernel
theorem dX9_day_62 : decode cX9_day 62 = .ok (.dup2, 1) := by decide +kernel
theorem dX9_day_63 : decode cX9_day 63 = .ok (.iaload, 1) := by decide +kernel
theorem dX9_day_64 : decode cX9_day 64 = .ok (.iconst 1, 1) := by decide +kernel
theorem dX9_day_65 : decode cX9_day 65 = .ok (.iadd, 1) := by decide +kernel
theorem dX9_day_66 : decode cX9_day 66 = .ok (.iastore, 1) := by decide +kernel
theorem dX9_day_67 : decode cX9_day 67 = .ok (.iload_n 1, 1) := by decide +kernel
theorem dX9_day_68 : decode cX9_day 68 = .ok (.ireturn, 1) := by decide +kernel
theorem dX9_days_0 : decode cX9_days 0 = .ok (.iload_n 1, 1) := by decide +kernel
theorem dX9_days_1 : decode cX9_days 1 = .ok (.i2l, 1) := by decide +kernel
theorem dX9_days_2 : decode cX9_days 2 = .ok (.lconst 1, 1) := by decide +kernel
theorem dX9_days_3 : decode cX9_days 3 = .ok (.ldc2_w 167, 3) := by decide +kernel
theorem dX9_days_6 : decode cX9_days 6 = .ok (.invokestatic 62, 3) := by decide +kernel
theorem dX9_days_9 : decode cX9_days 9 = .ok (.ifCond .ne 6, 3) := by decide +kernel
theorem dX9_days_12 : decode cX9_days 12 = .ok (.ldc 82, 2) := by decide +kernel
theorem dX9_days_14 : decode cX9_days 14 = .ok (.ireturn, 1) := by decide +kernel
theorem dX9_days_15 : decode cX9_days 15 = .ok (.iconst 0, 1) := by decide +kernel
theorem dX9_days_16 : decode cX9_days 16 = .ok (.istore_n 2, 1) := by decide +kernel
theorem dX9_days_17 : decode cX9_days 17 = .ok (.iconst 0, 1) := by decide +kernel
theorem dX9_days_18 : decode cX9_days 18 = .ok (.istore_n 3, 1) := by decide +kernel
theorem dX9_days_19 : decode cX9_days 19 = .ok (.iload_n 3, 1) := by decide +kernel
theorem dX9_days_20 : decode cX9_days 20 = .ok (.iload_n 1, 1) := by decide +kernel
theorem dX9_days_21 : decode cX9_days 21 = .ok (.if_icmp .ge 28, 3) := by decide +kernel
theorem dX9_days_24 : decode cX9_days 24 = .ok (.aload_n 0, 1) := by decide +kernel
theorem dX9_days_25 : decode cX9_days 25 = .ok (.getfield 7, 3) := by decide +kernel
theorem dX9_days_28 : decode cX9_days 28 = .ok (.iconst 3, 1) := by decide +kernel
theorem dX9_days_29 : decode cX9_days 29 = .ok (.iaload, 1) := by decide +kernel
theorem dX9_days_30 : decode cX9_days 30 = .ok (.sipush 9999, 3) := by decide +kernel
theorem dX9_days_33 : decode cX9_days 33 = .ok (.if_icmp .ge 16, 3) := by decide +kernel
theorem dX9_days_36 : decode cX9_days 36 = .ok (.iload_n 2, 1) := by decide +kernel
theorem dX9_days_37 : decode cX9_days 37 = .ok (.aload_n 0, 1) := by decide +kernel
theorem dX9_days_38 : decode cX9_days 38 = .ok (.invokevirtual 169, 3) := by decide +kernel
theorem dX9_days_41 : decode cX9_days 41 = .ok (.iadd, 1) := by decide +kernel
theorem dX9_days_42 : decode cX9_days 42 = .ok (.istore_n 2, 1) := by decide +kernel
theorem dX9_days_43 : decode cX9_days 43 = .ok (.iinc 3 1, 3) := by decide +kernel
theorem dX9_days_46 : decode cX9_days 46 = .ok (.goto (-27), 3) := by decide +kernel
theorem dX9_days_49 : decode cX9_days 49 = .ok (.iload_n 2, 1) := by decide +kernel
theorem dX9_days_50 : decode cX9_days 50 = .ok (.ireturn, 1) := by decide +kernel
theorem dX9_fits_0 : decode cX9_fits 0 = .ok (.bipush 54, 2) := by decide +kernel
theorem dX9_fits_2 : decode cX9_fits 2 = .ok (.iconst 5, 1) := by decide +kernel
theorem dX9_fits_3 : decode cX9_fits 3 = .ok (.iload_n 1, 1) := by decide +kernel
theorem dX9_fits_4 : decode cX9_fits 4 = .ok (.imul, 1) := by decide +kernel
theorem dX9_fits_5 : decode cX9_fits 5 = .ok (.iadd, 1) := by decide +kernel
theorem dX9_fits_6 : decode cX9_fits 6 = .ok (.istore_n 3, 1) := by decide +kernel
theorem dX9_fits_7 : decode cX9_fits 7 = .ok (.iload_n 2, 1) := by decide +kernel
theorem dX9_fits_8 : decode cX9_fits 8 = .ok (.ifCond .ge 7, 3) := by decide +kernel
theorem dX9_fits_11 : decode cX9_fits 11 = .ok (.iconst (-1), 1) := by decide +kernel
theorem dX9_fits_12 : decode cX9_fits 12 = .ok (.goto 8, 3) := by decide +kernel
theorem dX9_fits_15 : decode cX9_fits 15 = .ok (.iconst 1, 1) := by decide +kernel
theorem dX9_fits_16 : decode cX9_fits 16 = .ok (.iload_n 2, 1) := by decide +kernel
theorem dX9_fits_17 : decode cX9_fits 17 = .ok (.ishl, 1) := by decide +kernel
theorem dX9_fits_18 : decode cX9_fits 18 = .ok (.iconst (-1), 1) := by decide +kernel
theorem dX9_fits_19 : decode cX9_fits 19 = .ok (.ixor, 1) := by decide +kernel
theorem dX9_fits_20 : decode cX9_fits 20 = .ok (.istore 4, 2) := by decide +kernel
theorem dX9_fits_22 : decode cX9_fits 22 = .ok (.aload_n 0, 1) := by decide +kernel
theorem dX9_fits_23 : decode cX9_fits 23 = .ok (.aload_n 0, 1) := by decide +kernel
theorem dX9_fits_24 : decode cX9_fits 24 = .ok (.getfield 7, 3) := by decide +kernel
theorem dX9_fits_27 : decode cX9_fits 27 = .ok (.iload_n 3, 1) := by decide +kernel
theorem dX9_fits_28 : decode cX9_fits 28 = .ok (.iaload, 1) := by decide +kernel
theorem dX9_fits_29 : decode cX9_fits 29 = .ok (.iload 4, 2) := by decide +kernel
theorem dX9_fits_31 : decode cX9_fits 31 = .ok (.iand, 1) := by decide +kernel
theorem dX9_fits_32 : decode cX9_fits 32 = .ok (.aload_n 0, 1) := by decide +kernel
theorem dX9_fits_33 : decode cX9_fits 33 = .ok (.getfield 7, 3) := by decide +kernel
theorem dX9_fits_36 : decode cX9_fits 36 = .ok (.iload_n 3, 1) := by decide +kernel
theorem dX9_fits_37 : decode cX9_fits 37 = .ok (.iconst 1, 1) := by decide +kernel
theorem dX9_fits_38 : decode cX9_fits 38 = .ok (.iadd, 1) := by decide +kernel
theorem dX9_fits_39 : decode cX9_fits 39 = .ok (.iaload, 1) := by decide +kernel
theorem dX9_fits_40 : decode cX9_fits 40 = .ok (.iload 4, 2) := by decide +kernel
theorem dX9_fits_42 : decode cX9_fits 42 = .ok (.iand, 1) := by decide +kernel
theorem dX9_fits_43 : decode cX9_fits 43 = .ok (.aload_n 0, 1) := by decide +kernel
theorem dX9_fits_44 : decode cX9_fits 44 = .ok (.getfield 7, 3) := by decide +kernel
theorem dX9_fits_47 : decode cX9_fits 47 = .ok (.iload_n 3, 1) := by decide +kernel
theorem dX9_fits_48 : decode cX9_fits 48 = .ok (.iconst 3, 1) := by decide +kernel
theorem dX9_fits_49 : decode cX9_fits 49 = .ok (.iadd, 1) := by decide +kernel
theorem dX9_fits_50 : decode cX9_fits 50 = .ok (.iaload, 1) := by decide +kernel
theorem dX9_fits_51 : decode cX9_fits 51 = .ok (.aload_n 0, 1) := by decide +kernel
theorem dX9_fits_52 : decode cX9_fits 52 = .ok (.getfield 7, 3) := by decide +kernel
theorem dX9_fits_55 : decode cX9_fits 55 = .ok (.iload_n 3, 1) := by decide +kernel
theorem dX9_fits_56 : decode cX9_fits 56 = .ok (.iconst 4, 1) := by decide +kernel
theorem dX9_fits_57 : decode cX9_fits 57 = .ok (.iadd, 1) := by decide +kernel
theorem dX9_fits_58 : decode cX9_fits 58 = .ok (.iaload, 1) := by decide +kernel
theorem dX9_fits_59 : decode cX9_fits 59 = .ok (.invokevirtual 143, 3) := by decide +kernel
theorem dX9_fits_62 : decode cX9_fits 62 = .ok (.aload_n 0, 1) := by decide +kernel
theorem dX9_fits_63 : decode cX9_fits 63 = .ok (.getfield 7, 3) := by decide +kernel
theorem dX9_fits_66 : decode cX9_fits 66 = .ok (.iload_n 3, 1) := by decide +kernel
theorem dX9_fits_67 : decode cX9_fits 67 = .ok (.iconst 2, 1) := by decide +kernel
theorem dX9_fits_68 : decode cX9_fits 68 = .ok (.iadd, 1) := by decide +kernel
theorem dX9_fits_69 : decode cX9_fits 69 = .ok (.iaload, 1) := by decide +kernel
theorem dX9_fits_70 : decode cX9_fits 70 = .ok (.if_icmp .ne 7, 3) := by decide +kernel
theorem dX9_fits_73 : decode cX9_fits 73 = .ok (.iconst 1, 1) := by decide +kernel
theorem dX9_fits_74 : decode cX9_fits 74 = .ok (.goto 4, 3) := by decide +kernel
theorem dX9_fits_77 : decode cX9_fits 77 = .ok (.iconst 0, 1) := by decide +kernel
theorem dX9_fits_78 : decode cX9_fits 78 = .ok (.ireturn, 1) := by decide +kernel
theorem dX9_page_0 : decode cX9_page 0 = .ok (.iload_n 2, 1) := by decide +kernel
theorem dX9_page_1 : decode cX9_page 1 = .ok (.i2l, 1) := by decide +kernel
theorem dX9_page_2 : decode cX9_page 2 = .ok (.lconst 0, 1) := by decide +kernel
theorem dX9_page_3 : decode cX9_page 3 = .ok (.ldc2_w 172, 3) := by decide +kernel
theorem dX9_page_6 : decode cX9_page 6 = .ok (.invokestatic 62, 3) := by decide +kernel
theorem dX9_page_9 : decode cX9_page 9 = .ok (.ifCond .ne 6, 3) := by decide +kernel
theorem dX9_page_12 : decode cX9_page 12 = .ok (.ldc 82, 2) := by decide +kernel
theorem dX9_page_14 : decode cX9_page 14 = .ok (.ireturn, 1) := by decide +kernel
theorem dX9_page_15 : decode cX9_page 15 = .ok (.iload_n 1, 1) := by decide +kernel
theorem dX9_page_16 : decode cX9_page 16 = .ok (.i2l, 1) := by decide +kernel
theorem dX9_page_17 : decode cX9_page 17 = .ok (.lconst 0, 1) := by decide +kernel
theorem dX9_page_18 : decode cX9_page 18 = .ok (.aload_n 0, 1) := by decide +kernel
theorem dX9_page_19 : decode cX9_page 19 = .ok (.getfield 7, 3) := by decide +kernel
theorem dX9_page_22 : decode cX9_page 22 = .ok (.iconst 5, 1) := by decide +kernel
theorem dX9_page_23 : decode cX9_page 23 = .ok (.iaload, 1) := by decide +kernel
theorem dX9_page_24 : decode cX9_page 24 = .ok (.iconst 1, 1) := by decide +kernel
theorem dX9_page_25 : decode cX9_page 25 = .ok (.isub, 1) := by decide +kernel
theorem dX9_page_26 : decode cX9_page 26 = .ok (.i2l, 1) := by decide +kernel
theorem dX9_page_27 : decode cX9_page 27 = .ok (.invokestatic 62, 3) := by decide +kernel
theorem dX9_page_30 : decode cX9_page 30 = .ok (.ifCond .ne 6, 3) := by decide +kernel
theorem dX9_page_33 : decode cX9_page 33 = .ok (.ldc 61, 2) := by decide +kernel
theorem dX9_page_35 : decode cX9_page 35 = .ok (.ireturn, 1) := by decide +kernel
theorem dX9_page_36 : decode cX9_page 36 = .ok (.iload_n 2, 1) := by decide +kernel
theorem dX9_page_37 : decode cX9_page 37 = .ok (.iconst 3, 1) := by decide +kernel
theorem dX9_page_38 : decode cX9_page 38 = .ok (.if_icmp .ge 19, 3) := by decide +kernel
theorem dX9_page_41 : decode cX9_page 41 = .ok (.aload_n 0, 1) := by decide +kernel
theorem dX9_page_42 : decode cX9_page 42 = .ok (.getfield 7, 3) := by decide +kernel
theorem dX9_page_45 : decode cX9_page 45 = .ok (.bipush 54, 2) := by decide +kernel
theorem dX9_page_47 : decode cX9_page 47 = .ok (.iconst 5, 1) := by decide +kernel
theorem dX9_page_48 : decode cX9_page 48 = .ok (.iload_n 1, 1) := by decide +kernel
theorem dX9_page_49 : decode cX9_page 49 = .ok (.imul, 1) := by decide +kernel
theorem dX9_page_50 : decode cX9_page 50 = .ok (.iadd, 1) := by decide +kernel
theorem dX9_page_51 : decode cX9_page 51 = .ok (.iload_n 2, 1) := by decide +kernel
theorem dX9_page_52 : decode cX9_page 52 = .ok (.iadd, 1) := by decide +kernel
theorem dX9_page_53 : decode cX9_page 53 = .ok (.iaload, 1) := by decide +kernel
theorem dX9_page_54 : decode cX9_page 54 = .ok (.goto 17, 3) := by decide +kernel
theorem dX9_page_57 : decode cX9_page 57 = .ok (.aload_n 0, 1) := by decide +kernel
theorem dX9_page_58 : decode cX9_page 58 = .ok (.iload_n 1, 1) := by decide +kernel
theorem dX9_page_59 : decode cX9_page 59 = .ok (.iconst (-1), 1) := by decide +kernel
theorem dX9_page_60 : decode cX9_page 60 = .ok (.invokevirtual 174, 3) := by decide +kernel
theorem dX9_page_63 : decode cX9_page 63 = .ok (.ifCond .eq 7, 3) := by decide +kernel
theorem dX9_page_66 : decode cX9_page 66 = .ok (.iconst 1, 1) := by decide +kernel
theorem dX9_page_67 : decode cX9_page 67 = .ok (.goto 4, 3) := by decide +kernel
theorem dX9_page_70 : decode cX9_page 70 = .ok (.iconst 0, 1) := by decide +kernel
theorem dX9_page_71 : decode cX9_page 71 = .ok (.ireturn, 1) := by decide +kernel
theorem dX9_behindOf_0 : decode cX9_behindOf 0 = .ok (.aload_n 0, 1) := by decide +kernel
theorem dX9_behindOf_1 : decode cX9_behindOf 1 = .ok (.iload_n 1, 1) := by decide +kernel
theorem dX9_behindOf_2 : decode cX9_behindOf 2 = .ok (.iconst 2, 1) := by decide +kernel
theorem dX9_behindOf_3 : decode cX9_behindOf 3 = .ok (.invokevirtual 67, 3) := by decide +kernel
theorem dX9_behindOf_6 : decode cX9_behindOf 6 = .ok (.istore_n 3, 1) := by decide +kernel
theorem dX9_behindOf_7 : decode cX9_behindOf 7 = .ok (.aload_n 0, 1) := by decide +kernel
theorem dX9_behindOf_8 : decode cX9_behindOf 8 = .ok (.iload_n 1, 1) := by decide +kernel
theorem dX9_behindOf_9 : decode cX9_behindOf 9 = .ok (.iconst 3, 1) := by decide +kernel
theorem dX9_behindOf_10 : decode cX9_behindOf 10 = .ok (.invokevirtual 67, 3) := by decide +kernel
theorem dX9_behindOf_13 : decode cX9_behindOf 13 = .ok (.istore 4, 2) := by decide +kernel
theorem dX9_behindOf_15 : decode cX9_behindOf 15 = .ok (.iconst 0, 1) := by decide +kernel
theorem dX9_behindOf_16 : decode cX9_behindOf 16 = .ok (.istore 5, 2) := by decide +kernel
theorem dX9_behindOf_18 : decode cX9_behindOf 18 = .ok (.iload 5, 2) := by decide +kernel
theorem dX9_behindOf_20 : decode cX9_behindOf 20 = .ok (.iload_n 2, 1) := by decide +kernel
theorem dX9_behindOf_21 : decode cX9_behindOf 21 = .ok (.if_icmp .ge 23, 3) := by decide +kernel
theorem dX9_behindOf_24 : decode cX9_behindOf 24 = .ok (.iload_n 3, 1) := by decide +kernel
theorem dX9_behindOf_25 : decode cX9_behindOf 25 = .ok (.aload_n 0, 1) := by decide +kernel
theorem dX9_behindOf_26 : decode cX9_behindOf 26 = .ok (.iload_n 1, 1) := by decide +kernel
theorem dX9_behindOf_27 : decode cX9_behindOf 27 = .ok (.iload_n 3, 1) := by decide +kernel
theorem dX9_behindOf_28 : decode cX9_behindOf 28 = .ok (.iload 4, 2) := by decide +kernel
theorem dX9_behindOf_30 : decode cX9_behindOf 30 = .ok (.invokevirtual 98, 3) := by decide +kernel
theorem dX9_behindOf_33 : decode cX9_behindOf 33 = .ok (.isub, 1) := by decide +kernel
theorem dX9_behindOf_34 : decode cX9_behindOf 34 = .ok (.istore_n 3, 1) := by decide +kernel
theorem dX9_behindOf_35 : decode cX9_behindOf 35 = .ok (.iinc 4 1, 3) := by decide +kernel
theorem dX9_behindOf_38 : decode cX9_behindOf 38 = .ok (.iinc 5 1, 3) := by decide +kernel
theorem dX9_behindOf_41 : decode cX9_behindOf 41 = .ok (.goto (-23), 3) := by decide +kernel
theorem dX9_behindOf_44 : decode cX9_behindOf 44 = .ok (.iload_n 3, 1) := by decide +kernel
theorem dX9_behindOf_45 : decode cX9_behindOf 45 = .ok (.ireturn, 1) := by decide +kernel
theorem dX9_behind_0 : decode cX9_behind 0 = .ok (.aload_n 0, 1) := by decide +kernel
theorem dX9_behind_1 : decode cX9_behind 1 = .ok (.iload_n 1, 1) := by decide +kernel
theorem dX9_behind_2 : decode cX9_behind 2 = .ok (.invokevirtual 105, 3) := by decide +kernel
theorem dX9_behind_5 : decode cX9_behind 5 = .ok (.ifCond .eq 24, 3) := by decide +kernel
theorem dX9_behind_8 : decode cX9_behind 8 = .ok (.iload_n 2, 1) := by decide +kernel
theorem dX9_behind_9 : decode cX9_behind 9 = .ok (.i2l, 1) := by decide +kernel
theorem dX9_behind_10 : decode cX9_behind 10 = .ok (.lconst 0, 1) := by decide +kernel
theorem dX9_behind_11 : decode cX9_behind 11 = .ok (.ldc2_w 177, 3) := by decide +kernel
theorem dX9_behind_14 : decode cX9_behind 14 = .ok (.invokestatic 62, 3) := by decide +kernel
theorem dX9_behind_17 : decode cX9_behind 17 = .ok (.ifCond .eq 12, 3) := by decide +kernel
theorem dX9_behind_20 : decode cX9_behind 20 = .ok (.aload_n 0, 1) := by decide +kernel
theorem dX9_behind_21 : decode cX9_behind 21 = .ok (.iload_n 1, 1) := by decide +kernel
theorem dX9_behind_22 : decode cX9_behind 22 = .ok (.iload_n 2, 1) := by decide +kernel
theorem dX9_behind_23 : decode cX9_behind 23 = .ok (.invokevirtual 179, 3) := by decide +kernel
theorem dX9_behind_26 : decode cX9_behind 26 = .ok (.goto 5, 3) := by decide +kernel
theorem dX9_behind_29 : decode cX9_behind 29 = .ok (.ldc 82, 2) := by decide +kernel
theorem dX9_behind_31 : decode cX9_behind 31 = .ok (.ireturn, 1) := by decide +kernel
theorem dX9_lasts_0 : decode cX9_lasts 0 = .ok (.aload_n 0, 1) := by decide +kernel
theorem dX9_lasts_1 : decode cX9_lasts 1 = .ok (.iload_n 1, 1) := by decide +kernel
theorem dX9_lasts_2 : decode cX9_lasts 2 = .ok (.invokevirtual 105, 3) := by decide +kernel
theorem dX9_lasts_5 : decode cX9_lasts 5 = .ok (.ifCond .eq 15, 3) := by decide +kernel
theorem dX9_lasts_8 : decode cX9_lasts 8 = .ok (.iload_n 2, 1) := by decide +kernel
theorem dX9_lasts_9 : decode cX9_lasts 9 = .ok (.i2l, 1) := by decide +kernel
theorem dX9_lasts_10 : decode cX9_lasts 10 = .ok (.lconst 1, 1) := by decide +kernel
theorem dX9_lasts_11 : decode cX9_lasts 11 = .ok (.ldc2_w 80, 3) := by decide +kernel
theorem dX9_lasts_14 : decode cX9_lasts 14 = .ok (.invokestatic 62, 3) := by decide +kernel
theorem dX9_lasts_17 : decode cX9_lasts 17 = .ok (.ifCond .ne 6, 3) := by decide +kernel
theorem dX9_lasts_20 : decode cX9_lasts 20 = .ok (.ldc 82, 2) := by decide +kernel
theorem dX9_lasts_22 : decode cX9_lasts 22 = .ok (.ireturn, 1) := by decide +kernel
theorem dX9_lasts_23 : decode cX9_lasts 23 = .ok (.aload_n 0, 1) := by decide +kernel
theorem dX9_lasts_24 : decode cX9_lasts 24 = .ok (.iload_n 1, 1) := by decide +kernel
theorem dX9_lasts_25 : decode cX9_lasts 25 = .ok (.iconst 2, 1) := by decide +kernel
theorem dX9_lasts_26 : decode cX9_lasts 26 = .ok (.invokevirtual 67, 3) := by decide +kernel
theorem dX9_lasts_29 : decode cX9_lasts 29 = .ok (.istore_n 3, 1) := by decide +kernel
theorem dX9_lasts_30 : decode cX9_lasts 30 = .ok (.aload_n 0, 1) := by decide +kernel
theorem dX9_lasts_31 : decode cX9_lasts 31 = .ok (.iload_n 1, 1) := by decide +kernel
theorem dX9_lasts_32 : decode cX9_lasts 32 = .ok (.iconst 3, 1) := by decide +kernel
theorem dX9_lasts_33 : decode cX9_lasts 33 = .ok (.invokevirtual 67, 3) := by decide +kernel
theorem dX9_lasts_36 : decode cX9_lasts 36 = .ok (.istore 4, 2) := by decide +kernel
theorem dX9_lasts_38 : decode cX9_lasts 38 = .ok (.iconst 0, 1) := by decide +kernel
theorem dX9_lasts_39 : decode cX9_lasts 39 = .ok (.istore 5, 2) := by decide +kernel
theorem dX9_lasts_41 : decode cX9_lasts 41 = .ok (.iload_n 3, 1) := by decide +kernel
theorem dX9_lasts_42 : decode cX9_lasts 42 = .ok (.iload_n 2, 1) := by decide +kernel
theorem dX9_lasts_43 : decode cX9_lasts 43 = .ok (.if_icmp .lt 31, 3) := by decide +kernel
theorem dX9_lasts_46 : decode cX9_lasts 46 = .ok (.iload 5, 2) := by decide +kernel
theorem dX9_lasts_48 : decode cX9_lasts 48 = .ok (.sipush 999, 3) := by decide +kernel
theorem dX9_lasts_51 : decode cX9_lasts 51 = .ok (.if_icmp .ge 23, 3) := by decide +kernel
theorem dX9_lasts_54 : decode cX9_lasts 54 = .ok (.iload_n 3, 1) := by decide +kernel
theorem dX9_lasts_55 : decode cX9_lasts 55 = .ok (.aload_n 0, 1) := by decide +kernel
theorem dX9_lasts_56 : decode cX9_lasts 56 = .ok (.iload_n 1, 1) := by decide +kernel
theorem dX9_lasts_57 : decode cX9_lasts 57 = .ok (.iload_n 3, 1) := by decide +kernel
theorem dX9_lasts_58 : decode cX9_lasts 58 = .ok (.iload 4, 2) := by decide +kernel
theorem dX9_lasts_60 : decode cX9_lasts 60 = .ok (.invokevirtual 98, 3) := by decide +kernel
theorem dX9_lasts_63 : decode cX9_lasts 63 = .ok (.isub, 1) := by decide +kernel
theorem dX9_lasts_64 : decode cX9_lasts 64 = .ok (.istore_n 3, 1) := by decide +kernel
theorem dX9_lasts_65 : decode cX9_lasts 65 = .ok (.iinc 4 1, 3) := by decide +kernel
theorem dX9_lasts_68 : decode cX9_lasts 68 = .ok (.iinc 5 1, 3) := by decide +kernel
theorem dX9_lasts_71 : decode cX9_lasts 71 = .ok (.goto (-30), 3) := by decide +kernel
theorem dX9_lasts_74 : decode cX9_lasts 74 = .ok (.iload 5, 2) := by decide +kernel
theorem dX9_lasts_76 : decode cX9_lasts 76 = .ok (.ireturn, 1) := by decide +kernel
theorem dX9_canBy_0 : decode cX9_canBy 0 = .ok (.iload_n 1, 1) := by decide +kernel
theorem dX9_canBy_1 : decode cX9_canBy 1 = .ok (.istore_n 2, 1) := by decide +kernel
theorem dX9_canBy_2 : decode cX9_canBy 2 = .ok (.iconst 0, 1) := by decide +kernel
theorem dX9_canBy_3 : decode cX9_canBy 3 = .ok (.istore_n 3, 1) := by decide +kernel
theorem dX9_canBy_4 : decode cX9_canBy 4 = .ok (.iload_n 2, 1) := by decide +kernel
theorem dX9_canBy_5 : decode cX9_canBy 5 = .ok (.ifCond .eq 104, 3) := by decide +kernel
theorem dX9_canBy_8 : decode cX9_canBy 8 = .ok (.iconst (-1), 1) := by decide +kernel
theorem dX9_canBy_9 : decode cX9_canBy 9 = .ok (.istore 4, 2) := by decide +kernel
theorem dX9_canBy_11 : decode cX9_canBy 11 = .ok (.iconst 0, 1) := by decide +kernel
theorem dX9_canBy_12 : decode cX9_canBy 12 = .ok (.istore 5, 2) := by decide +kernel
theorem dX9_canBy_14 : decode cX9_canBy 14 = .ok (.iload 5, 2) := by decide +kernel
theorem dX9_canBy_16 : decode cX9_canBy 16 = .ok (.aload_n 0, 1) := by decide +kernel
theorem dX9_canBy_17 : decode cX9_canBy 17 = .ok (.getfield 7, 3) := by decide +kernel
theorem dX9_canBy_20 : decode cX9_canBy 20 = .ok (.iconst 0, 1) := by decide +kernel
theorem dX9_canBy_21 : decode cX9_canBy 21 = .ok (.iaload, 1) := by decide +kernel
theorem dX9_canBy_22 : decode cX9_canBy 22 = .ok (.if_icmp .ge 50, 3) := by decide +kernel
theorem dX9_canBy_25 : decode cX9_canBy 25 = .ok (.iload_n 2, 1) := by decide +kernel
theorem dX9_canBy_26 : decode cX9_canBy 26 = .ok (.iload 5, 2) := by decide +kernel
theorem dX9_canBy_28 : decode cX9_canBy 28 = .ok (.ishr, 1) := by decide +kernel
theorem dX9_canBy_29 : decode cX9_canBy 29 = .ok (.iconst 1, 1) := by decide +kernel
theorem dX9_canBy_30 : decode cX9_canBy 30 = .ok (.iand, 1) := by decide +kernel
theorem dX9_canBy_31 : decode cX9_canBy 31 = .ok (.iconst 1, 1) := by decide +kernel
theorem dX9_canBy_32 : decode cX9_canBy 32 = .ok (.if_icmp .ne 30, 3) := by decide +kernel
theorem dX9_canBy_35 : decode cX9_canBy 35 = .ok (.iload 4, 2) := by decide +kernel
theorem dX9_canBy_37 : decode cX9_canBy 37 = .ok (.ifCond .lt 20, 3) := by decide +kernel
theorem dX9_canBy_40 : decode cX9_canBy 40 = .ok (.aload_n 0, 1) := by decide +kernel
theorem dX9_canBy_41 : decode cX9_canBy 41 = .ok (.iload 5, 2) := by decide +kernel
theorem dX9_canBy_43 : decode cX9_canBy 43 = .ok (.iconst 2, 1) := by decide +kernel
theorem dX9_canBy_44 : decode cX9_canBy 44 = .ok (.invokevirtual 67, 3) := by decide +kernel
theorem dX9_canBy_47 : decode cX9_canBy 47 = .ok (.aload_n 0, 1) := by decide +kernel
theorem dX9_canBy_48 : decode cX9_canBy 48 = .ok (.iload 4, 2) := by decide +kernel
theorem dX9_canBy_50 : decode cX9_canBy 50 = .ok (.iconst 2, 1) := by decide +kernel
theorem dX9_canBy_51 : decode cX9_canBy 51 = .ok (.invokevirtual 67, 3) := by decide +kernel
theorem dX9_canBy_54 : decode cX9_canBy 54 = .ok (.if_icmp .ge 8, 3) := by decide +kernel
theorem dX9_canBy_57 : decode cX9_canBy 57 = .ok (.iload 5, 2) := by decide +kernel
theorem dX9_canBy_59 : decode cX9_canBy 59 = .ok (.goto 5, 3) := by decide +kernel
theorem dX9_canBy_62 : decode cX9_canBy 62 = .ok (.iload 4, 2) := by decide +kernel
theorem dX9_canBy_64 : decode cX9_canBy 64 = .ok (.istore 4, 2) := by decide +kernel
theorem dX9_canBy_66 : decode cX9_canBy 66 = .ok (.iinc 5 1, 3) := by decide +kernel
theorem dX9_canBy_69 : decode cX9_canBy 69 = .ok (.goto (-55), 3) := by decide +kernel
theorem dX9_canBy_72 : decode cX9_canBy 72 = .ok (.aload_n 0, 1) := by decide +kernel
theorem dX9_canBy_73 : decode cX9_canBy 73 = .ok (.iload 4, 2) := by decide +kernel
theorem dX9_canBy_75 : decode cX9_canBy 75 = .ok (.iconst 2, 1) := by decide +kernel
theorem dX9_canBy_76 : decode cX9_canBy 76 = .ok (.invokevirtual 67, 3) := by decide +kernel
theorem dX9_canBy_79 : decode cX9_canBy 79 = .ok (.iload_n 3, 1) := by decide +kernel
theorem dX9_canBy_80 : decode cX9_canBy 80 = .ok (.iconst 1, 1) := by decide +kernel
theorem dX9_canBy_81 : decode cX9_canBy 81 = .ok (.iadd, 1) := by decide +kernel
theorem dX9_canBy_82 : decode cX9_canBy 82 = .ok (.if_icmp .le 5, 3) := by decide +kernel
theorem dX9_canBy_85 : decode cX9_canBy 85 = .ok (.iload_n 3, 1) := by decide +kernel
theorem dX9_canBy_86 : decode cX9_canBy 86 = .ok (.ireturn, 1) := by decide +kernel
theorem dX9_canBy_87 : decode cX9_canBy 87 = .ok (.iload_n 3, 1) := by decide +kernel
theorem dX9_canBy_88 : decode cX9_canBy 88 = .ok (.aload_n 0, 1) := by decide +kernel
theorem dX9_canBy_89 : decode cX9_canBy 89 = .ok (.iload 4, 2) := by decide +kernel
theorem dX9_canBy_91 : decode cX9_canBy 91 = .ok (.iconst 2, 1) := by decide +kernel
theorem dX9_canBy_92 : decode cX9_canBy 92 = .ok (.invokevirtual 67, 3) := by decide +kernel
theorem dX9_canBy_95 : decode cX9_canBy 95 = .ok (.iadd, 1) := by decide +kernel
theorem dX9_canBy_96 : decode cX9_canBy 96 = .ok (.istore_n 3, 1) := by decide +kernel
theorem dX9_canBy_97 : decode cX9_canBy 97 = .ok (.iload_n 2, 1) := by decide +kernel
theorem dX9_canBy_98 : decode cX9_canBy 98 = .ok (.iconst 1, 1) := by decide +kernel
theorem dX9_canBy_99 : decode cX9_canBy 99 = .ok (.iload 4, 2) := by decide +kernel
theorem dX9_canBy_101 : decode cX9_canBy 101 = .ok (.ishl, 1) := by decide +kernel
theorem dX9_canBy_102 : decode cX9_canBy 102 = .ok (.iconst (-1), 1) := by decide +kernel
theorem dX9_canBy_103 : decode cX9_canBy 103 = .ok (.ixor, 1) := by decide +kernel
theorem dX9_canBy_104 : decode cX9_canBy 104 = .ok (.iand, 1) := by decide +kernel
theorem dX9_canBy_105 : decode cX9_canBy 105 = .ok (.istore_n 2, 1) := by decide +kernel
theorem dX9_canBy_106 : decode cX9_canBy 106 = .ok (.goto (-102), 3) := by decide +kernel
theorem dX9_canBy_109 : decode cX9_canBy 109 = .ok (.iload_n 3, 1) := by decide +kernel
theorem dX9_canBy_110 : decode cX9_canBy 110 = .ok (.ireturn, 1) := by decide +kernel
theorem dX9_canWeigh_0 : decode cX9_canWeigh 0 = .ok (.aload_n 0, 1) := by decide +kernel
theorem dX9_canWeigh_1 : decode cX9_canWeigh 1 = .ok (.iload_n 1, 1) := by decide +kernel
theorem dX9_canWeigh_2 : decode cX9_canWeigh 2 = .ok (.invokevirtual 136, 3) := by decide +kernel
theorem dX9_canWeigh_5 : decode cX9_canWeigh 5 = .ok (.ifCond .eq 11, 3) := by decide +kernel
theorem dX9_canWeigh_8 : decode cX9_canWeigh 8 = .ok (.aload_n 0, 1) := by decide +kernel
theorem dX9_canWeigh_9 : decode cX9_canWeigh 9 = .ok (.iload_n 1, 1) := by decide +kernel
theorem dX9_canWeigh_10 : decode cX9_canWeigh 10 = .ok (.invokevirtual 182, 3) := by decide +kernel
theorem dX9_canWeigh_13 : decode cX9_canWeigh 13 = .ok (.goto 5, 3) := by decide +kernel
theorem dX9_canWeigh_16 : decode cX9_canWeigh 16 = .ok (.ldc 82, 2) := by decide +kernel
theorem dX9_canWeigh_18 : decode cX9_canWeigh 18 = .ok (.ireturn, 1) := by decide +kernel
theorem dX9_smallest_0 : decode cX9_smallest 0 = .ok (.iload_n 1, 1) := by decide +kernel
theorem dX9_smallest_1 : decode cX9_smallest 1 = .ok (.i2l, 1) := by decide +kernel
theorem dX9_smallest_2 : decode cX9_smallest 2 = .ok (.lconst 1, 1) := by decide +kernel
theorem dX9_smallest_3 : decode cX9_smallest 3 = .ok (.ldc2_w 80, 3) := by decide +kernel
theorem dX9_smallest_6 : decode cX9_smallest 6 = .ok (.invokestatic 62, 3) := by decide +kernel
theorem dX9_smallest_9 : decode cX9_smallest 9 = .ok (.ifCond .ne 6, 3) := by decide +kernel
theorem dX9_smallest_12 : decode cX9_smallest 12 = .ok (.ldc 82, 2) := by decide +kernel
theorem dX9_smallest_14 : decode cX9_smallest 14 = .ok (.ireturn, 1) := by decide +kernel
theorem dX9_smallest_15 : decode cX9_smallest 15 = .ok (.iconst (-1), 1) := by decide +kernel
theorem dX9_smallest_16 : decode cX9_smallest 16 = .ok (.istore_n 2, 1) := by decide +kernel
theorem dX9_smallest_17 : decode cX9_smallest 17 = .ok (.iconst 0, 1) := by decide +kernel
theorem dX9_smallest_18 : decode cX9_smallest 18 = .ok (.istore_n 3, 1) := by decide +kernel
theorem dX9_smallest_19 : decode cX9_smallest 19 = .ok (.iload_n 3, 1) := by decide +kernel
theorem dX9_smallest_20 : decode cX9_smallest 20 = .ok (.iconst 1, 1) := by decide +kernel
theorem dX9_smallest_21 : decode cX9_smallest 21 = .ok (.aload_n 0, 1) := by decide +kernel
theorem dX9_smallest_22 : decode cX9_smallest 22 = .ok (.getfield 7, 3) := by decide +kernel
theorem dX9_smallest_25 : decode cX9_smallest 25 = .ok (.iconst 0, 1) := by decide +kernel
theorem dX9_smallest_26 : decode cX9_smallest 26 = .ok (.iaload, 1) := by decide +kernel
theorem dX9_smallest_27 : decode cX9_smallest 27 = .ok (.ishl, 1) := by decide +kernel
theorem dX9_smallest_28 : decode cX9_smallest 28 = .ok (.if_icmp .ge 35, 3) := by decide +kernel
theorem dX9_smallest_31 : decode cX9_smallest 31 = .ok (.iload_n 2, 1) := by decide +kernel
theorem dX9_smallest_32 : decode cX9_smallest 32 = .ok (.ifCond .lt 14, 3) := by decide +kernel
theorem dX9_smallest_35 : decode cX9_smallest 35 = .ok (.iload_n 3, 1) := by decide +kernel
theorem dX9_smallest_36 : decode cX9_smallest 36 = .ok (.invokestatic 185, 3) := by decide +kernel
theorem dX9_smallest_39 : decode cX9_smallest 39 = .ok (.iload_n 2, 1) := by decide +kernel
theorem dX9_smallest_40 : decode cX9_smallest 40 = .ok (.invokestatic 185, 3) := by decide +kernel
theorem dX9_smallest_43 : decode cX9_smallest 43 = .ok (.if_icmp .ge 14, 3) := by decide +kernel
theorem dX9_smallest_46 : decode cX9_smallest 46 = .ok (.aload_n 0, 1) := by decide +kernel
theorem dX9_smallest_47 : decode cX9_smallest 47 = .ok (.iload_n 3, 1) := by decide +kernel
theorem dX9_smallest_48 : decode cX9_smallest 48 = .ok (.invokevirtual 182, 3) := by decide +kernel
theorem dX9_smallest_51 : decode cX9_smallest 51 = .ok (.iload_n 1, 1) := by decide +kernel
theorem dX9_smallest_52 : decode cX9_smallest 52 = .ok (.if_icmp .lt 5, 3) := by decide +kernel
theorem dX9_smallest_55 : decode cX9_smallest 55 = .ok (.iload_n 3, 1) := by decide +kernel
theorem dX9_smallest_56 : decode cX9_smallest 56 = .ok (.istore_n 2, 1) := by decide +kernel
theorem dX9_smallest_57 : decode cX9_smallest 57 = .ok (.iinc 3 1, 3) := by decide +kernel
theorem dX9_smallest_60 : decode cX9_smallest 60 = .ok (.goto (-41), 3) := by decide +kernel
theorem dX9_smallest_63 : decode cX9_smallest 63 = .ok (.iload_n 2, 1) := by decide +kernel
theorem dX9_smallest_64 : decode cX9_smallest 64 = .ok (.invokestatic 188, 3) := by decide +kernel
theorem dX9_smallest_67 : decode cX9_smallest 67 = .ok (.ireturn, 1) := by decide +kernel
theorem dX9_gain_0 : decode cX9_gain 0 = .ok (.iload_n 1, 1) := by decide +kernel
theorem dX9_gain_1 : decode cX9_gain 1 = .ok (.i2l, 1) := by decide +kernel
theorem dX9_gain_2 : decode cX9_gain 2 = .ok (.lconst 1, 1) := by decide +kernel
theorem dX9_gain_3 : decode cX9_gain 3 = .ok (.ldc2_w 191, 3) := by decide +kernel
theorem dX9_gain_6 : decode cX9_gain 6 = .ok (.invokestatic 62, 3) := by decide +kernel
theorem dX9_gain_9 : decode cX9_gain 9 = .ok (.ifCond .eq 13, 3) := by decide +kernel
theorem dX9_gain_12 : decode cX9_gain 12 = .ok (.iload_n 2, 1) := by decide +kernel
theorem dX9_gain_13 : decode cX9_gain 13 = .ok (.i2l, 1) := by decide +kernel
theorem dX9_gain_14 : decode cX9_gain 14 = .ok (.lconst 0, 1) := by decide +kernel
theorem dX9_gain_15 : decode cX9_gain 15 = .ok (.lconst 1, 1) := by decide +kernel
theorem dX9_gain_16 : decode cX9_gain 16 = .ok (.invokestatic 62, 3) := by decide +kernel
theorem dX9_gain_19 : decode cX9_gain 19 = .ok (.ifCond .ne 6, 3) := by decide +kernel
theorem dX9_gain_22 : decode cX9_gain 22 = .ok (.ldc 82, 2) := by decide +kernel
theorem dX9_gain_24 : decode cX9_gain 24 = .ok (.ireturn, 1) := by decide +kernel
theorem dX9_gain_25 : decode cX9_gain 25 = .ok (.iconst (-1), 1) := by decide +kernel
theorem dX9_gain_26 : decode cX9_gain 26 = .ok (.istore_n 3, 1) := by decide +kernel
theorem dX9_gain_27 : decode cX9_gain 27 = .ok (.iconst 0, 1) := by decide +kernel
theorem dX9_gain_28 : decode cX9_gain 28 = .ok (.istore 4, 2) := by decide +kernel
theorem dX9_gain_30 : decode cX9_gain 30 = .ok (.iconst 1, 1) := by decide +kernel
theorem dX9_gain_31 : decode cX9_gain 31 = .ok (.istore 5, 2) := by decide +kernel
theorem dX9_gain_33 : decode cX9_gain 33 = .ok (.iload 5, 2) := by decide +kernel
theorem dX9_gain_35 : decode cX9_gain 35 = .ok (.iconst 1, 1) := by decide +kernel
theorem dX9_gain_36 : decode cX9_gain 36 = .ok (.aload_n 0, 1) := by decide +kernel
theorem dX9_gain_37 : decode cX9_gain 37 = .ok (.getfield 7, 3) := by decide +kernel
theorem dX9_gain_40 : decode cX9_gain 40 = .ok (.iconst 0, 1) := by decide +kernel
theorem dX9_gain_41 : decode cX9_gain 41 = .ok (.iaload, 1) := by decide +kernel
theorem dX9_gain_42 : decode cX9_gain 42 = .ok (.ishl, 1) := by decide +kernel
theorem dX9_gain_43 : decode cX9_gain 43 = .ok (.if_icmp .ge 47, 3) := by decide +kernel
theorem dX9_gain_46 : decode cX9_gain 46 = .ok (.aload_n 0, 1) := by decide +kernel
theorem dX9_gain_47 : decode cX9_gain 47 = .ok (.iload 5, 2) := by decide +kernel
theorem dX9_gain_49 : decode cX9_gain 49 = .ok (.iconst 1, 1) := by decide +kernel
theorem dX9_gain_50 : decode cX9_gain 50 = .ok (.invokevirtual 71, 3) := by decide +kernel
theorem dX9_gain_53 : decode cX9_gain 53 = .ok (.iload_n 1, 1) := by decide +kernel
theorem dX9_gain_54 : decode cX9_gain 54 = .ok (.if_icmp .ne 30, 3) := by decide +kernel
theorem dX9_gain_57 : decode cX9_gain 57 = .ok (.aload_n 0, 1) := by decide +kernel
theorem dX9_gain_58 : decode cX9_gain 58 = .ok (.iload 5, 2) := by decide +kernel
theorem dX9_gain_60 : decode cX9_gain 60 = .ok (.iconst 2, 1) := by decide +kernel
theorem dX9_gain_61 : decode cX9_gain 61 = .ok (.invokevirtual 71, 3) := by decide +kernel
theorem dX9_gain_64 : decode cX9_gain 64 = .ok (.istore 6, 2) := by decide +kernel
theorem dX9_gain_66 : decode cX9_gain 66 = .ok (.iload_n 3, 1) := by decide +kernel
theorem dX9_gain_67 : decode cX9_gain 67 = .ok (.ifCond .lt 10, 3) := by decide +kernel
theorem dX9_gain_70 : decode cX9_gain 70 = .ok (.iload 6, 2) := by decide +kernel
theorem dX9_gain_72 : decode cX9_gain 72 = .ok (.iload 4, 2) := by decide +kernel
theorem dX9_gain_74 : decode cX9_gain 74 = .ok (.if_icmp .ge 10, 3) := by decide +kernel
theorem dX9_gain_77 : decode cX9_gain 77 = .ok (.iload 5, 2) := by decide +kernel
theorem dX9_gain_79 : decode cX9_gain 79 = .ok (.istore_n 3, 1) := by decide +kernel
theorem dX9_gain_80 : decode cX9_gain 80 = .ok (.iload 6, 2) := by decide +kernel
theorem dX9_gain_82 : decode cX9_gain 82 = .ok (.istore 4, 2) := by decide +kernel
theorem dX9_gain_84 : decode cX9_gain 84 = .ok (.iinc 5 1, 3) := by decide +kernel
theorem dX9_gain_87 : decode cX9_gain 87 = .ok (.goto (-54), 3) := by decide +kernel
theorem dX9_gain_90 : decode cX9_gain 90 = .ok (.iload_n 3, 1) := by decide +kernel
theorem dX9_gain_91 : decode cX9_gain 91 = .ok (.ifCond .ge 8, 3) := by decide +kernel
theorem dX9_gain_94 : decode cX9_gain 94 = .ok (.ldc 61, 2) := by decide +kernel
theorem dX9_gain_96 : decode cX9_gain 96 = .ok (.goto 15, 3) := by decide +kernel
theorem dX9_gain_99 : decode cX9_gain 99 = .ok (.iload_n 2, 1) := by decide +kernel
theorem dX9_gain_100 : decode cX9_gain 100 = .ok (.ifCond .ne 10, 3) := by decide +kernel
theorem dX9_gain_103 : decode cX9_gain 103 = .ok (.iload_n 1, 1) := by decide +kernel
theorem dX9_gain_104 : decode cX9_gain 104 = .ok (.iload 4, 2) := by decide +kernel
theorem dX9_gain_106 : decode cX9_gain 106 = .ok (.isub, 1) := by decide +kernel
theorem dX9_gain_107 : decode cX9_gain 107 = .ok (.goto 4, 3) := by decide +kernel
theorem dX9_gain_110 : decode cX9_gain 110 = .ok (.iload_n 3, 1) := by decide +kernel
theorem dX9_gain_111 : decode cX9_gain 111 = .ok (.ireturn, 1) := by decide +kernel
theorem dX9_pound_0 : decode cX9_pound 0 = .ok (.iload_n 1, 1) := by decide +kernel
theorem dX9_pound_1 : decode cX9_pound 1 = .ok (.i2l, 1) := by decide +kernel
theorem dX9_pound_2 : decode cX9_pound 2 = .ok (.lconst 0, 1) := by decide +kernel
theorem dX9_pound_3 : decode cX9_pound 3 = .ok (.lconst 1, 1) := by decide +kernel
theorem dX9_pound_4 : decode cX9_pound 4 = .ok (.invokestatic 62, 3) := by decide +kernel
theorem dX9_pound_7 : decode cX9_pound 7 = .ok (.ifCond .ne 6, 3) := by decide +kernel
theorem dX9_pound_10 : decode cX9_pound 10 = .ok (.ldc 82, 2) := by decide +kernel
theorem dX9_pound_12 : decode cX9_pound 12 = .ok (.ireturn, 1) := by decide +kernel
theorem dX9_pound_13 : decode cX9_pound 13 = .ok (.aload_n 0, 1) := by decide +kernel
theorem dX9_pound_14 : decode cX9_pound 14 = .ok (.iconst 2, 1) := by decide +kernel
theorem dX9_pound_15 : decode cX9_pound 15 = .ok (.invokevirtual 193, 3) := by decide +kernel
theorem dX9_pound_18 : decode cX9_pound 18 = .ok (.istore_n 2, 1) := by decide +kernel
theorem dX9_pound_19 : decode cX9_pound 19 = .ok (.aload_n 0, 1) := by decide +kernel
theorem dX9_pound_20 : decode cX9_pound 20 = .ok (.iconst 1, 1) := by decide +kernel
theorem dX9_pound_21 : decode cX9_pound 21 = .ok (.invokevirtual 193, 3) := by decide +kernel
theorem dX9_pound_24 : decode cX9_pound 24 = .ok (.istore_n 3, 1) := by decide +kernel
theorem dX9_pound_25 : decode cX9_pound 25 = .ok (.iload_n 2, 1) := by decide +kernel
theorem dX9_pound_26 : decode cX9_pound 26 = .ok (.istore 4, 2) := by decide +kernel
theorem dX9_pound_28 : decode cX9_pound 28 = .ok (.iload_n 3, 1) := by decide +kernel
theorem dX9_pound_29 : decode cX9_pound 29 = .ok (.istore 5, 2) := by decide +kernel
theorem dX9_pound_31 : decode cX9_pound 31 = .ok (.iload 5, 2) := by decide +kernel
theorem dX9_pound_33 : decode cX9_pound 33 = .ok (.ifCond .le 21, 3) := by decide +kernel
theorem dX9_pound_36 : decode cX9_pound 36 = .ok (.iload 4, 2) := by decide +kernel
theorem dX9_pound_38 : decode cX9_pound 38 = .ok (.iload 5, 2) := by decide +kernel
theorem dX9_pound_40 : decode cX9_pound 40 = .ok (.irem, 1) := by decide +kernel
theorem dX9_pound_41 : decode cX9_pound 41 = .ok (.istore 6, 2) := by decide +kernel
theorem dX9_pound_43 : decode cX9_pound 43 = .ok (.iload 5, 2) := by decide +kernel
theorem dX9_pound_45 : decode cX9_pound 45 = .ok (.istore 4, 2) := by decide +kernel
theorem dX9_pound_47 : decode cX9_pound 47 = .ok (.iload 6, 2) := by decide +kernel
theorem dX9_pound_49 : decode cX9_pound 49 = .ok (.istore 5, 2) := by decide +kernel
theorem dX9_pound_51 : decode cX9_pound 51 = .ok (.goto (-20), 3) := by decide +kernel
theorem dX9_pound_54 : decode cX9_pound 54 = .ok (.iload_n 3, 1) := by decide +kernel
theorem dX9_pound_55 : decode cX9_pound 55 = .ok (.ifCond .ne 7, 3) := by decide +kernel
theorem dX9_pound_58 : decode cX9_pound 58 = .ok (.iload_n 1, 1) := by decide +kernel
theorem dX9_pound_59 : decode cX9_pound 59 = .ok (.goto 15, 3) := by decide +kernel
theorem dX9_pound_62 : decode cX9_pound 62 = .ok (.iload_n 1, 1) := by decide +kernel
theorem dX9_pound_63 : decode cX9_pound 63 = .ok (.ifCond .ne 7, 3) := by decide +kernel
theorem dX9_pound_66 : decode cX9_pound 66 = .ok (.iload_n 2, 1) := by decide +kernel
theorem dX9_pound_67 : decode cX9_pound 67 = .ok (.goto 4, 3) := by decide +kernel
theorem dX9_pound_70 : decode cX9_pound 70 = .ok (.iload_n 3, 1) := by decide +kernel
theorem dX9_pound_71 : decode cX9_pound 71 = .ok (.iload 4, 2) := by decide +kernel
theorem dX9_pound_73 : decode cX9_pound 73 = .ok (.idiv, 1) := by decide +kernel
theorem dX9_pound_74 : decode cX9_pound 74 = .ok (.ireturn, 1) := by decide +kernel
theorem dX9_fitting_0 : decode cX9_fitting 0 = .ok (.iconst 0, 1) := by decide +kernel
theorem dX9_fitting_1 : decode cX9_fitting 1 = .ok (.istore_n 2, 1) := by decide +kernel
theorem dX9_fitting_2 : decode cX9_fitting 2 = .ok (.iconst 0, 1) := by decide +kernel
theorem dX9_fitting_3 : decode cX9_fitting 3 = .ok (.istore_n 3, 1) := by decide +kernel
theorem dX9_fitting_4 : decode cX9_fitting 4 = .ok (.iload_n 3, 1) := by decide +kernel
theorem dX9_fitting_5 : decode cX9_fitting 5 = .ok (.aload_n 0, 1) := by decide +kernel
theorem dX9_fitting_6 : decode cX9_fitting 6 = .ok (.getfield 7, 3) := by decide +kernel
theorem dX9_fitting_9 : decode cX9_fitting 9 = .ok (.iconst 5, 1) := by decide +kernel
theorem dX9_fitting_10 : decode cX9_fitting 10 = .ok (.iaload, 1) := by decide +kernel
theorem dX9_fitting_11 : decode cX9_fitting 11 = .ok (.if_icmp .ge 26, 3) := by decide +kernel
theorem dX9_fitting_14 : decode cX9_fitting 14 = .ok (.iload_n 2, 1) := by decide +kernel
theorem dX9_fitting_15 : decode cX9_fitting 15 = .ok (.aload_n 0, 1) := by decide +kernel
theorem dX9_fitting_16 : decode cX9_fitting 16 = .ok (.iload_n 3, 1) := by decide +kernel
theorem dX9_fitting_17 : decode cX9_fitting 17 = .ok (.iload_n 1, 1) := by decide +kernel
theorem dX9_fitting_18 : decode cX9_fitting 18 = .ok (.invokevirtual 174, 3) := by decide +kernel
theorem dX9_fitting_21 : decode cX9_fitting 21 = .ok (.ifCond .eq 7, 3) := by decide +kernel
theorem dX9_fitting_24 : decode cX9_fitting 24 = .ok (.iconst 1, 1) := by decide +kernel
theorem dX9_fitting_25 : decode cX9_fitting 25 = .ok (.goto 4, 3) := by decide +kernel
theorem dX9_fitting_28 : decode cX9_fitting 28 = .ok (.iconst 0, 1) := by decide +kernel
theorem dX9_fitting_29 : decode cX9_fitting 29 = .ok (.iadd, 1) := by decide +kernel
theorem dX9_fitting_30 : decode cX9_fitting 30 = .ok (.istore_n 2, 1) := by decide +kernel
theorem dX9_fitting_31 : decode cX9_fitting 31 = .ok (.iinc 3 1, 3) := by decide +kernel
theorem dX9_fitting_34 : decode cX9_fitting 34 = .ok (.goto (-30), 3) := by decide +kernel
theorem dX9_fitting_37 : decode cX9_fitting 37 = .ok (.iload_n 2, 1) := by decide +kernel
theorem dX9_fitting_38 : decode cX9_fitting 38 = .ok (.ireturn, 1) := by decide +kernel
theorem dX9_falseOne_0 : decode cX9_falseOne 0 = .ok (.iconst (-1), 1) := by decide +kernel
theorem dX9_falseOne_1 : decode cX9_falseOne 1 = .ok (.istore_n 1, 1) := by decide +kernel
theorem dX9_falseOne_2 : decode cX9_falseOne 2 = .ok (.aload_n 0, 1) := by decide +kernel
theorem dX9_falseOne_3 : decode cX9_falseOne 3 = .ok (.iconst (-1), 1) := by decide +kernel
theorem dX9_falseOne_4 : decode cX9_falseOne 4 = .ok (.invokevirtual 196, 3) := by decide +kernel
theorem dX9_falseOne_7 : decode cX9_falseOne 7 = .ok (.istore_n 2, 1) := by decide +kernel
theorem dX9_falseOne_8 : decode cX9_falseOne 8 = .ok (.iconst 0, 1) := by decide +kernel
theorem dX9_falseOne_9 : decode cX9_falseOne 9 = .ok (.istore_n 3, 1) := by decide +kernel
theorem dX9_falseOne_10 : decode cX9_falseOne 10 = .ok (.iload_n 3, 1) := by decide +kernel
theorem dX9_falseOne_11 : decode cX9_falseOne 11 = .ok (.aload_n 0, 1) := by decide +kernel
theorem dX9_falseOne_12 : decode cX9_falseOne 12 = .ok (.getfield 7, 3) := by decide +kernel
theorem dX9_falseOne_15 : decode cX9_falseOne 15 = .ok (.iconst 0, 1) := by decide +kernel
theorem dX9_falseOne_16 : decode cX9_falseOne 16 = .ok (.iaload, 1) := by decide +kernel
theorem dX9_falseOne_17 : decode cX9_falseOne 17 = .ok (.if_icmp .ge 41, 3) := by decide +kernel
theorem dX9_falseOne_20 : decode cX9_falseOne 20 = .ok (.aload_n 0, 1) := by decide +kernel
theorem dX9_falseOne_21 : decode cX9_falseOne 21 = .ok (.iload_n 3, 1) := by decide +kernel
theorem dX9_falseOne_22 : decode cX9_falseOne 22 = .ok (.invokevirtual 196, 3) := by decide +kernel
theorem dX9_falseOne_25 : decode cX9_falseOne 25 = .ok (.istore 4, 2) := by decide +kernel
theorem dX9_falseOne_27 : decode cX9_falseOne 27 = .ok (.iload 4, 2) := by decide +kernel
theorem dX9_falseOne_29 : decode cX9_falseOne 29 = .ok (.iload_n 2, 1) := by decide +kernel
theorem dX9_falseOne_30 : decode cX9_falseOne 30 = .ok (.if_icmp .le 7, 3) := by decide +kernel
theorem dX9_falseOne_33 : decode cX9_falseOne 33 = .ok (.iload_n 3, 1) := by decide +kernel
theorem dX9_falseOne_34 : decode cX9_falseOne 34 = .ok (.goto 4, 3) := by decide +kernel
theorem dX9_falseOne_37 : decode cX9_falseOne 37 = .ok (.iload_n 1, 1) := by decide +kernel
theorem dX9_falseOne_38 : decode cX9_falseOne 38 = .ok (.istore_n 1, 1) := by decide +kernel
theorem dX9_falseOne_39 : decode cX9_falseOne 39 = .ok (.iload 4, 2) := by decide +kernel
theorem dX9_falseOne_41 : decode cX9_falseOne 41 = .ok (.iload_n 2, 1) := by decide +kernel
theorem dX9_falseOne_42 : decode cX9_falseOne 42 = .ok (.if_icmp .le 8, 3) := by decide +kernel
theorem dX9_falseOne_45 : decode cX9_falseOne 45 = .ok (.iload 4, 2) := by decide +kernel
theorem dX9_falseOne_47 : decode cX9_falseOne 47 = .ok (.goto 4, 3) := by decide +kernel
theorem dX9_falseOne_50 : decode cX9_falseOne 50 = .ok (.iload_n 2, 1) := by decide +kernel
theorem dX9_falseOne_51 : decode cX9_falseOne 51 = .ok (.istore_n 2, 1) := by decide +kernel
theorem dX9_falseOne_52 : decode cX9_falseOne 52 = .ok (.iinc 3 1, 3) := by decide +kernel
theorem dX9_falseOne_55 : decode cX9_falseOne 55 = .ok (.goto (-45), 3) := by decide +kernel
theorem dX9_falseOne_58 : decode cX9_falseOne 58 = .ok (.iload_n 1, 1) := by decide +kernel
theorem dX9_falseOne_59 : decode cX9_falseOne 59 = .ok (.invokestatic 188, 3) := by decide +kernel
theorem dX9_falseOne_62 : decode cX9_falseOne 62 = .ok (.ireturn, 1) := by decide +kernel
theorem dX9_fine_0 : decode cX9_fine 0 = .ok (.aload_n 0, 1) := by decide +kernel
theorem dX9_fine_1 : decode cX9_fine 1 = .ok (.iload_n 1, 1) := by decide +kernel
theorem dX9_fine_2 : decode cX9_fine 2 = .ok (.invokevirtual 105, 3) := by decide +kernel
theorem dX9_fine_5 : decode cX9_fine 5 = .ok (.ifCond .ne 6, 3) := by decide +kernel
theorem dX9_fine_8 : decode cX9_fine 8 = .ok (.ldc 82, 2) := by decide +kernel
theorem dX9_fine_10 : decode cX9_fine 10 = .ok (.ireturn, 1) := by decide +kernel
theorem dX9_fine_11 : decode cX9_fine 11 = .ok (.aload_n 0, 1) := by decide +kernel
theorem dX9_fine_12 : decode cX9_fine 12 = .ok (.iload_n 1, 1) := by decide +kernel
theorem dX9_fine_13 : decode cX9_fine 13 = .ok (.iconst 1, 1) := by decide +kernel
theorem dX9_fine_14 : decode cX9_fine 14 = .ok (.invokevirtual 67, 3) := by decide +kernel
theorem dX9_fine_17 : decode cX9_fine 17 = .ok (.aload_n 0, 1) := by decide +kernel
theorem dX9_fine_18 : decode cX9_fine 18 = .ok (.iload_n 1, 1) := by decide +kernel
theorem dX9_fine_19 : decode cX9_fine 19 = .ok (.iconst 2, 1) := by decide +kernel
theorem dX9_fine_20 : decode cX9_fine 20 = .ok (.invokevirtual 67, 3) := by decide +kernel
theorem dX9_fine_23 : decode cX9_fine 23 = .ok (.isub, 1) := by decide +kernel
theorem dX9_fine_24 : decode cX9_fine 24 = .ok (.istore_n 2, 1) := by decide +kernel
theorem dX9_fine_25 : decode cX9_fine 25 = .ok (.aload_n 0, 1) := by decide +kernel
theorem dX9_fine_26 : decode cX9_fine 26 = .ok (.iconst 2, 1) := by decide +kernel
theorem dX9_fine_27 : decode cX9_fine 27 = .ok (.invokevirtual 88, 3) := by decide +kernel
theorem dX9_fine_30 : decode cX9_fine 30 = .ok (.istore_n 3, 1) := by decide +kernel
theorem dX9_fine_31 : decode cX9_fine 31 = .ok (.iload_n 3, 1) := by decide +kernel
theorem dX9_fine_32 : decode cX9_fine 32 = .ok (.ifCond .ge 13, 3) := by decide +kernel
theorem dX9_fine_35 : decode cX9_fine 35 = .ok (.iload_n 2, 1) := by decide +kernel
theorem dX9_fine_36 : decode cX9_fine 36 = .ok (.ifCond .ge 7, 3) := by decide +kernel
theorem dX9_fine_39 : decode cX9_fine 39 = .ok (.iconst 0, 1) := by decide +kernel
theorem dX9_fine_40 : decode cX9_fine 40 = .ok (.goto 4, 3) := by decide +kernel
theorem dX9_fine_43 : decode cX9_fine 43 = .ok (.iload_n 2, 1) := by decide +kernel
theorem dX9_fine_44 : decode cX9_fine 44 = .ok (.ireturn, 1) := by decide +kernel
theorem dX9_fine_45 : decode cX9_fine 45 = .ok (.aload_n 0, 1) := by decide +kernel
theorem dX9_fine_46 : decode cX9_fine 46 = .ok (.getfield 46, 3) := by decide +kernel
theorem dX9_fine_49 : decode cX9_fine 49 = .ok (.bipush 108, 2) := by decide +kernel
theorem dX9_fine_51 : decode cX9_fine 51 = .ok (.iload_n 2, 1) := by decide +kernel
theorem dX9_fine_52 : decode cX9_fine 52 = .ok (.iastore, 1) := by decide +kernel
theorem dX9_fine_53 : decode cX9_fine 53 = .ok (.aload_n 0, 1) := by decide +kernel
theorem dX9_fine_54 : decode cX9_fine 54 = .ok (.getfield 46, 3) := by decide +kernel
theorem dX9_fine_57 : decode cX9_fine 57 = .ok (.bipush 116, 2) := by decide +kernel
theorem dX9_fine_59 : decode cX9_fine 59 = .ok (.aload_n 0, 1) := by decide +kernel
theorem dX9_fine_60 : decode cX9_fine 60 = .ok (.iload_n 1, 1) := by decide +kernel
theorem dX9_fine_61 : decode cX9_fine 61 = .ok (.iconst 3, 1) := by decide +kernel
theorem dX9_fine_62 : decode cX9_fine 62 = .ok (.invokevirtual 67, 3) := by decide +kernel
theorem dX9_fine_65 : decode cX9_fine 65 = .ok (.iastore, 1) := by decide +kernel
theorem dX9_fine_66 : decode cX9_fine 66 = .ok (.aload_n 0, 1) := by decide +kernel
theorem dX9_fine_67 : decode cX9_fine 67 = .ok (.iload_n 3, 1) := by decide +kernel
theorem dX9_fine_68 : decode cX9_fine 68 = .ok (.invokevirtual 92, 3) := by decide +kernel
theorem dX9_fine_71 : decode cX9_fine 71 = .ok (.ireturn, 1) := by decide +kernel
theorem dX9_feed_0 : decode cX9_feed 0 = .ok (.aload_n 0, 1) := by decide +kernel
theorem dX9_feed_1 : decode cX9_feed 1 = .ok (.getfield 199, 3) := by decide +kernel
theorem dX9_feed_4 : decode cX9_feed 4 = .ok (.bipush 12, 2) := by decide +kernel
theorem dX9_feed_6 : decode cX9_feed 6 = .ok (.iadd, 1) := by decide +kernel
theorem dX9_feed_7 : decode cX9_feed 7 = .ok (.bipush 96, 2) := by decide +kernel
theorem dX9_feed_9 : decode cX9_feed 9 = .ok (.if_icmp .le 6, 3) := by decide +kernel
theorem dX9_feed_12 : decode cX9_feed 12 = .ok (.ldc 83, 2) := by decide +kernel
theorem dX9_feed_14 : decode cX9_feed 14 = .ok (.ireturn, 1) := by decide +kernel
theorem dX9_feed_15 : decode cX9_feed 15 = .ok (.iconst 0, 1) := by decide +kernel
theorem dX9_feed_16 : decode cX9_feed 16 = .ok (.istore 4, 2) := by decide +kernel
theorem dX9_feed_18 : decode cX9_feed 18 = .ok (.iload 4, 2) := by decide +kernel
theorem dX9_feed_20 : decode cX9_feed 20 = .ok (.bipush 12, 2) := by decide +kernel
theorem dX9_feed_22 : decode cX9_feed 22 = .ok (.if_icmp .ge 69, 3) := by decide +kernel
theorem dX9_feed_25 : decode cX9_feed 25 = .ok (.iload 4, 2) := by decide +kernel
theorem dX9_feed_27 : decode cX9_feed 27 = .ok (.iconst 4, 1) := by decide +kernel
theorem dX9_feed_28 : decode cX9_feed 28 = .ok (.if_icmp .ge 7, 3) := by decide +kernel
theorem dX9_feed_31 : decode cX9_feed 31 = .ok (.iload_n 1, 1) := by decide +kernel
theorem dX9_feed_32 : decode cX9_feed 32 = .ok (.goto 15, 3) := by decide +kernel
theorem dX9_feed_35 : decode cX9_feed 35 = .ok (.iload 4, 2) := by decide +kernel
theorem dX9_feed_37 : decode cX9_feed 37 = .ok (.bipush 8, 2) := by decide +kernel
theorem dX9_feed_39 : decode cX9_feed 39 = .ok (.if_icmp .ge 7, 3) := by decide +kernel
theorem dX9_feed_42 : decode cX9_feed 42 = .ok (.iload_n 2, 1) := by decide +kernel
theorem dX9_feed_43 : decode cX9_feed 43 = .ok (.goto 4, 3) := by decide +kernel
theorem dX9_feed_46 : decode cX9_feed 46 = .ok (.iload_n 3, 1) := by decide +kernel
theorem dX9_feed_47 : decode cX9_feed 47 = .ok (.istore 5, 2) := by decide +kernel
theorem dX9_feed_49 : decode cX9_feed 49 = .ok (.aload_n 0, 1) := by decide +kernel
theorem dX9_feed_50 : decode cX9_feed 50 = .ok (.getfield 43, 3) := by decide +kernel
theorem dX9_feed_53 : decode cX9_feed 53 = .ok (.aload_n 0, 1) := by decide +kernel
theorem dX9_feed_54 : decode cX9_feed 54 = .ok (.getfield 199, 3) := by decide +kernel
theorem dX9_feed_57 : decode cX9_feed 57 = .ok (.iload 5, 2) := by decide +kernel
theorem dX9_feed_59 : decode cX9_feed 59 = .ok (.bipush 24, 2) := by decide +kernel
theorem dX9_feed_61 : decode cX9_feed 61 = .ok (.bipush 8, 2) := by decide +kernel
theorem dX9_feed_63 : decode cX9_feed 63 = .ok (.iload 4, 2) := by decide +kernel
theorem dX9_feed_65 : decode cX9_feed 65 = .ok (.iconst 4, 1) := by decide +kernel
theorem dX9_feed_66 : decode cX9_feed 66 = .ok (.irem, 1) := by decide +kernel
theorem dX9_feed_67 : decode cX9_feed 67 = .ok (.imul, 1) := by decide +kernel
theorem dX9_feed_68 : decode cX9_feed 68 = .ok (.isub, 1) := by decide +kernel
theorem dX9_feed_69 : decode cX9_feed 69 = .ok (.ishr, 1) := by decide +kernel
theorem dX9_feed_70 : decode cX9_feed 70 = .ok (.sipush 255, 3) := by decide +kernel
theorem dX9_feed_73 : decode cX9_feed 73 = .ok (.iand, 1) := by decide +kernel
theorem dX9_feed_74 : decode cX9_feed 74 = .ok (.iastore, 1) := by decide +kernel
theorem dX9_feed_75 : decode cX9_feed 75 = .ok (.aload_n 0, 1) := by decide +kernel
theorem dX9_feed_76 : decode cX9_feed 76 = .ok (.dup, 1) := by decide +kernel
theorem dX9_feed_77 : decode cX9_feed 77 = .ok (.getfield 199, 3) := by decide +kernel
theorem dX9_feed_80 : decode cX9_feed 80 = .ok (.iconst 1, 1) := by decide +kernel
theorem dX9_feed_81 : decode cX9_feed 81 = .ok (.iadd, 1) := by decide +kernel
theorem dX9_feed_82 : decode cX9_feed 82 = .ok (.putfield 199, 3) := by decide +kernel
theorem dX9_feed_85 : decode cX9_feed 85 = .ok (.iinc 4 1, 3) := by decide +kernel
theorem dX9_feed_88 : decode cX9_feed 88 = .ok (.goto (-70), 3) := by decide +kernel
theorem dX9_feed_91 : decode cX9_feed 91 = .ok (.aload_n 0, 1) := by decide +kernel
theorem dX9_feed_92 : decode cX9_feed 92 = .ok (.getfield 199, 3) := by decide +kernel
theorem dX9_feed_95 : decode cX9_feed 95 = .ok (.ireturn, 1) := by decide +kernel
theorem dX9_trim_0 : decode cX9_trim 0 = .ok (.iload_n 1, 1) := by decide +kernel
theorem dX9_trim_1 : decode cX9_trim 1 = .ok (.i2l, 1) := by decide +kernel
theorem dX9_trim_2 : decode cX9_trim 2 = .ok (.lconst 0, 1) := by decide +kernel
theorem dX9_trim_3 : decode cX9_trim 3 = .ok (.aload_n 0, 1) := by decide +kernel
theorem dX9_trim_4 : decode cX9_trim 4 = .ok (.getfield 199, 3) := by decide +kernel
theorem dX9_trim_7 : decode cX9_trim 7 = .ok (.i2l, 1) := by decide +kernel
theorem dX9_trim_8 : decode cX9_trim 8 = .ok (.invokestatic 62, 3) := by decide +kernel
theorem dX9_trim_11 : decode cX9_trim 11 = .ok (.ifCond .ne 6, 3) := by decide +kernel
theorem dX9_trim_14 : decode cX9_trim 14 = .ok (.ldc 82, 2) := by decide +kernel
theorem dX9_trim_16 : decode cX9_trim 16 = .ok (.ireturn, 1) := by decide +kernel
theorem dX9_trim_17 : decode cX9_trim 17 = .ok (.aload_n 0, 1) := by decide +kernel
theorem dX9_trim_18 : decode cX9_trim 18 = .ok (.iload_n 1, 1) := by decide +kernel
theorem dX9_trim_19 : decode cX9_trim 19 = .ok (.putfield 199, 3) := by decide +kernel
theorem dX9_trim_22 : decode cX9_trim 22 = .ok (.iload_n 1, 1) := by decide +kernel
theorem dX9_trim_23 : decode cX9_trim 23 = .ok (.ireturn, 1) := by decide +kernel
theorem dX9_isLetter_0 : decode cX9_isLetter 0 = .ok (.iload_n 1, 1) := by decide +kernel
theorem dX9_isLetter_1 : decode cX9_isLetter 1 = .ok (.aload_n 0, 1) := by decide +kernel
theorem dX9_isLetter_2 : decode cX9_isLetter 2 = .ok (.getfield 199, 3) := by decide +kernel
theorem dX9_isLetter_5 : decode cX9_isLetter 5 = .ok (.if_icmp .ge 26, 3) := by decide +kernel
theorem dX9_isLetter_8 : decode cX9_isLetter 8 = .ok (.aload_n 0, 1) := by decide +kernel
theorem dX9_isLetter_9 : decode cX9_isLetter 9 = .ok (.getfield 43, 3) := by decide +kernel
theorem dX9_isLetter_12 : decode cX9_isLetter 12 = .ok (.iload_n 1, 1) := by decide +kernel
theorem dX9_isLetter_13 : decode cX9_isLetter 13 = .ok (.iaload, 1) := by decide +kernel
theorem dX9_isLetter_14 : decode cX9_isLetter 14 = .ok (.i2l, 1) := by decide +kernel
theorem dX9_isLetter_15 : decode cX9_isLetter 15 = .ok (.ldc2_w 203, 3) := by decide +kernel
theorem dX9_isLetter_18 : decode cX9_isLetter 18 = .ok (.ldc2_w 205, 3) := by decide +kernel
theorem dX9_isLetter_21 : decode cX9_isLetter 21 = .ok (.invokestatic 62, 3) := by decide +kernel
theorem dX9_isLetter_24 : decode cX9_isLetter 24 = .ok (.ifCond .eq 7, 3) := by decide +kernel
theorem dX9_isLetter_27 : decode cX9_isLetter 27 = .ok (.iconst 1, 1) := by decide +kernel
theorem dX9_isLetter_28 : decode cX9_isLetter 28 = .ok (.goto 4, 3) := by decide +kernel
theorem dX9_isLetter_31 : decode cX9_isLetter 31 = .ok (.iconst 0, 1) := by decide +kernel
theorem dX9_isLetter_32 : decode cX9_isLetter 32 = .ok (.ireturn, 1) := by decide +kernel
theorem dX9_isDigit_0 : decode cX9_isDigit 0 = .ok (.iload_n 1, 1) := by decide +kernel
theorem dX9_isDigit_1 : decode cX9_isDigit 1 = .ok (.aload_n 0, 1) := by decide +kernel
theorem dX9_isDigit_2 : decode cX9_isDigit 2 = .ok (.getfield 199, 3) := by decide +kernel
theorem dX9_isDigit_5 : decode cX9_isDigit 5 = .ok (.if_icmp .ge 26, 3) := by decide +kernel
theorem dX9_isDigit_8 : decode cX9_isDigit 8 = .ok (.aload_n 0, 1) := by decide +kernel
theorem dX9_isDigit_9 : decode cX9_isDigit 9 = .ok (.getfield 43, 3) := by decide +kernel
theorem dX9_isDigit_12 : decode cX9_isDigit 12 = .ok (.iload_n 1, 1) := by decide +kernel
theorem dX9_isDigit_13 : decode cX9_isDigit 13 = .ok (.iaload, 1) := by decide +kernel
theorem dX9_isDigit_14 : decode cX9_isDigit 14 = .ok (.i2l, 1) := by decide +kernel
theorem dX9_isDigit_15 : decode cX9_isDigit 15 = .ok (.ldc2_w 207, 3) := by decide +kernel
theorem dX9_isDigit_18 : decode cX9_isDigit 18 = .ok (.ldc2_w 209, 3) := by decide +kernel
theorem dX9_isDigit_21 : decode cX9_isDigit 21 = .ok (.invokestatic 62, 3) := by decide +kernel
theorem dX9_isDigit_24 : decode cX9_isDigit 24 = .ok (.ifCond .eq 7, 3) := by decide +kernel
theorem dX9_isDigit_27 : decode cX9_isDigit 27 = .ok (.iconst 1, 1) := by decide +kernel
theorem dX9_isDigit_28 : decode cX9_isDigit 28 = .ok (.goto 4, 3) := by decide +kernel
theorem dX9_isDigit_31 : decode cX9_isDigit 31 = .ok (.iconst 0, 1) := by decide +kernel
theorem dX9_isDigit_32 : decode cX9_isDigit 32 = .ok (.ireturn, 1) := by decide +kernel
theorem dX9_nextToken_0 : decode cX9_nextToken 0 = .ok (.aload_n 0, 1) := by decide +kernel
theorem dX9_nextToken_1 : decode cX9_nextToken 1 = .ok (.getfield 211, 3) := by decide +kernel
theorem dX9_nextToken_4 : decode cX9_nextToken 4 = .ok (.ifCond .le 23, 3) := by decide +kernel
theorem dX9_nextToken_7 : decode cX9_nextToken 7 = .ok (.aload_n 0, 1) := by decide +kernel
theorem dX9_nextToken_8 : decode cX9_nextToken 8 = .ok (.getfield 214, 3) := by decide +kernel
theorem dX9_nextToken_11 : decode cX9_nextToken 11 = .ok (.iconst 1, 1) := by decide +kernel
theorem dX9_nextToken_12 : decode cX9_nextToken 12 = .ok (.if_icmp .eq 11, 3) := by decide +kernel
theorem dX9_nextToken_15 : decode cX9_nextToken 15 = .ok (.aload_n 0, 1) := by decide +kernel
theorem dX9_nextToken_16 : decode cX9_nextToken 16 = .ok (.getfield 214, 3) := by decide +kernel
theorem dX9_nextToken_19 : decode cX9_nextToken 19 = .ok (.iconst 2, 1) := by decide +kernel
theorem dX9_nextToken_20 : decode cX9_nextToken 20 = .ok (.if_icmp .ne 7, 3) := by decide +kernel
theorem dX9_nextToken_23 : decode cX9_nextToken 23 = .ok (.iconst 1, 1) := by decide +kernel
theorem dX9_nextToken_24 : decode cX9_nextToken 24 = .ok (.goto 4, 3) := by decide +kernel
theorem dX9_nextToken_27 : decode cX9_nextToken 27 = .ok (.iconst 0, 1) := by decide +kernel
theorem dX9_nextToken_28 : decode cX9_nextToken 28 = .ok (.istore_n 1, 1) := by decide +kernel
theorem dX9_nextToken_29 : decode cX9_nextToken 29 = .ok (.aload_n 0, 1) := by decide +kernel
theorem dX9_nextToken_30 : decode cX9_nextToken 30 = .ok (.getfield 211, 3) := by decide +kernel
theorem dX9_nextToken_33 : decode cX9_nextToken 33 = .ok (.istore_n 2, 1) := by decide +kernel
theorem dX9_nextToken_34 : decode cX9_nextToken 34 = .ok (.aload_n 0, 1) := by decide +kernel
theorem dX9_nextToken_35 : decode cX9_nextToken 35 = .ok (.getfield 211, 3) := by decide +kernel
theorem dX9_nextToken_38 : decode cX9_nextToken 38 = .ok (.aload_n 0, 1) := by decide +kernel
theorem dX9_nextToken_39 : decode cX9_nextToken 39 = .ok (.getfield 199, 3) := by decide +kernel
theorem dX9_nextToken_42 : decode cX9_nextToken 42 = .ok (.if_icmp .ge 30, 3) := by decide +kernel
theorem dX9_nextToken_45 : decode cX9_nextToken 45 = .ok (.aload_n 0, 1) := by decide +kernel
theorem dX9_nextToken_46 : decode cX9_nextToken 46 = .ok (.getfield 43, 3) := by decide +kernel
theorem dX9_nextToken_49 : decode cX9_nextToken 49 = .ok (.aload_n 0, 1) := by decide +kernel
theorem dX9_nextToken_50 : decode cX9_nextToken 50 = .ok (.getfield 211, 3) := by decide +kernel
theorem dX9_nextToken_53 : decode cX9_nextToken 53 = .ok (.iaload, 1) := by decide +kernel
theorem dX9_nextToken_54 : decode cX9_nextToken 54 = .ok (.bipush 32, 2) := by decide +kernel
theorem dX9_nextToken_56 : decode cX9_nextToken 56 = .ok (.if_icmp .ne 16, 3) := by decide +kernel
theorem dX9_nextToken_59 : decode cX9_nextToken 59 = .ok (.aload_n 0, 1) := by decide +kernel
theorem dX9_nextToken_60 : decode cX9_nextToken 60 = .ok (.dup, 1) := by decide +kernel
theorem dX9_nextToken_61 : decode cX9_nextToken 61 = .ok (.getfield 211, 3) := by decide +kernel
theorem dX9_nextToken_64 : decode cX9_nextToken 64 = .ok (.iconst 1, 1) := by decide +kernel
theorem dX9_nextToken_65 : decode cX9_nextToken 65 = .ok (.iadd, 1) := by decide +kernel
theorem dX9_nextToken_66 : decode cX9_nextToken 66 = .ok (.putfield 211, 3) := by decide +kernel
theorem dX9_nextToken_69 : decode cX9_nextToken 69 = .ok (.goto (-35), 3) := by decide +kernel
theorem dX9_nextToken_72 : decode cX9_nextToken 72 = .ok (.iload_n 1, 1) := by decide +kernel
theorem dX9_nextToken_73 : decode cX9_nextToken 73 = .ok (.ifCond .eq 15, 3) := by decide +kernel
theorem dX9_nextToken_76 : decode cX9_nextToken 76 = .ok (.iload_n 2, 1) := by decide +kernel
theorem dX9_nextToken_77 : decode cX9_nextToken 77 = .ok (.aload_n 0, 1) := by decide +kernel
theorem dX9_nextToken_78 : decode cX9_nextToken 78 = .ok (.getfield 211, 3) := by decide +kernel
theorem dX9_nextToken_81 : decode cX9_nextToken 81 = .ok (.if_icmp .ne 7, 3) := by decide +kernel
theorem dX9_nextToken_84 : decode cX9_nextToken 84 = .ok (.iconst 1, 1) := by decide +kernel
theorem dX9_nextToken_85 : decode cX9_nextToken 85 = .ok (.goto 4, 3) := by decide +kernel
theorem dX9_nextToken_88 : decode cX9_nextToken 88 = .ok (.iconst 0, 1) := by decide +kernel
theorem dX9_nextToken_89 : decode cX9_nextToken 89 = .ok (.istore_n 1, 1) := by decide +kernel
theorem dX9_nextToken_90 : decode cX9_nextToken 90 = .ok (.aload_n 0, 1) := by decide +kernel
theorem dX9_nextToken_91 : decode cX9_nextToken 91 = .ok (.aload_n 0, 1) := by decide +kernel
theorem dX9_nextToken_92 : decode cX9_nextToken 92 = .ok (.getfield 211, 3) := by decide +kernel
theorem dX9_nextToken_95 : decode cX9_nextToken 95 = .ok (.putfield 217, 3) := by decide +kernel
theorem dX9_nextToken_98 : decode cX9_nextToken 98 = .ok (.aload_n 0, 1) := by decide +kernel
theorem dX9_nextToken_99 : decode cX9_nextToken 99 = .ok (.getfield 217, 3) := by decide +kernel
theorem dX9_nextToken_102 : decode cX9_nextToken 102 = .ok (.aload_n 0, 1) := by decide +kernel
theorem dX9_nextToken_103 : decode cX9_nextToken 103 = .ok (.getfield 199, 3) := by decide +kernel
theorem dX9_nextToken_106 : decode cX9_nextToken 106 = .ok (.if_icmp .ne 11, 3) := by decide +kernel
theorem dX9_nextToken_109 : decode cX9_nextToken 109 = .ok (.aload_n 0, 1) := by decide +kernel
theorem dX9_nextToken_110 : decode cX9_nextToken 110 = .ok (.iconst 0, 1) := by decide +kernel
theorem dX9_nextToken_111 : decode cX9_nextToken 111 = .ok (.putfield 214, 3) := by decide +kernel
theorem dX9_nextToken_114 : decode cX9_nextToken 114 = .ok (.goto 225, 3) := by decide +kernel
theorem dX9_nextToken_117 : decode cX9_nextToken 117 = .ok (.aload_n 0, 1) := by decide +kernel
theorem dX9_nextToken_118 : decode cX9_nextToken 118 = .ok (.aload_n 0, 1) := by decide +kernel
theorem dX9_nextToken_119 : decode cX9_nextToken 119 = .ok (.getfield 217, 3) := by decide +kernel
theorem dX9_nextToken_122 : decode cX9_nextToken 122 = .ok (.invokevirtual 220, 3) := by decide +kernel
theorem dX9_nextToken_125 : decode cX9_nextToken 125 = .ok (.ifCond .eq 73, 3) := by decide +kernel
theorem dX9_nextToken_128 : decode cX9_nextToken 128 = .ok (.aload_n 0, 1) := by decide +kernel
theorem dX9_nextToken_129 : decode cX9_nextToken 129 = .ok (.aload_n 0, 1) := by decide +kernel
theorem dX9_nextToken_130 : decode cX9_nextToken 130 = .ok (.getfield 211, 3) := by decide +kernel
theorem dX9_nextToken_133 : decode cX9_nextToken 133 = .ok (.invokevirtual 220, 3) := by decide +kernel
theorem dX9_nextToken_136 : decode cX9_nextToken 136 = .ok (.ifCond .eq 16, 3) := by decide +kernel
theorem dX9_nextToken_139 : decode cX9_nextToken 139 = .ok (.aload_n 0, 1) := by decide +kernel
theorem dX9_nextToken_140 : decode cX9_nextToken 140 = .ok (.dup, 1) := by decide +kernel
theorem dX9_nextToken_141 : decode cX9_nextToken 141 = .ok (.getfield 211, 3) := by decide +kernel
theorem dX9_nextToken_144 : decode cX9_nextToken 144 = .ok (.iconst 1, 1) := by decide +kernel
theorem dX9_nextToken_145 : decode cX9_nextToken 145 = .ok (.iadd, 1) := by decide +kernel
theorem dX9_nextToken_146 : decode cX9_nextToken 146 = .ok (.putfield 211, 3) := by decide +kernel
theorem dX9_nextToken_149 : decode cX9_nextToken 149 = .ok (.goto (-21), 3) := by decide +kernel
theorem dX9_nextToken_152 : decode cX9_nextToken 152 = .ok (.aload_n 0, 1) := by decide +kernel
theorem dX9_nextToken_153 : decode cX9_nextToken 153 = .ok (.iload_n 1, 1) := by decide +kernel
theorem dX9_nextToken_154 : decode cX9_nextToken 154 = .ok (.ifCond .eq 7, 3) := by decide +kernel
theorem dX9_nextToken_157 : decode cX9_nextToken 157 = .ok (.iconst 4, 1) := by decide +kernel
theorem dX9_nextToken_158 : decode cX9_nextToken 158 = .ok (.goto 4, 3) := by decide +kernel
theorem dX9_nextToken_161 : decode cX9_nextToken 161 = .ok (.iconst 1, 1) := by decide +kernel
theorem dX9_nextToken_162 : decode cX9_nextToken 162 = .ok (.putfield 214, 3) := by decide +kernel
theorem dX9_nextToken_165 : decode cX9_nextToken 165 = .ok (.aload_n 0, 1) := by decide +kernel
theorem dX9_nextToken_166 : decode cX9_nextToken 166 = .ok (.aload_n 0, 1) := by decide +kernel
theorem dX9_nextToken_167 : decode cX9_nextToken 167 = .ok (.getfield 211, 3) := by decide +kernel
theorem dX9_nextToken_170 : decode cX9_nextToken 170 = .ok (.aload_n 0, 1) := by decide +kernel
theorem dX9_nextToken_171 : decode cX9_nextToken 171 = .ok (.getfield 217, 3) := by decide +kernel
theorem dX9_nextToken_174 : decode cX9_nextToken 174 = .ok (.isub, 1) := by decide +kernel
theorem dX9_nextToken_175 : decode cX9_nextToken 175 = .ok (.iconst 1, 1) := by decide +kernel
theorem dX9_nextToken_176 : decode cX9_nextToken 176 = .ok (.if_icmp .ne 15, 3) := by decide +kernel
theorem dX9_nextToken_179 : decode cX9_nextToken 179 = .ok (.aload_n 0, 1) := by decide +kernel
theorem dX9_nextToken_180 : decode cX9_nextToken 180 = .ok (.getfield 43, 3) := by decide +kernel
theorem dX9_nextToken_183 : decode cX9_nextToken 183 = .ok (.aload_n 0, 1) := by decide +kernel
theorem dX9_nextToken_184 : decode cX9_nextToken 184 = .ok (.getfield 217, 3) := by decide +kernel
theorem dX9_nextToken_187 : decode cX9_nextToken 187 = .ok (.iaload, 1) := by decide +kernel
theorem dX9_nextToken_188 : decode cX9_nextToken 188 = .ok (.goto 4, 3) := by decide +kernel
theorem dX9_nextToken_191 : decode cX9_nextToken 191 = .ok (.iconst 0, 1) := by decide +kernel
theorem dX9_nextToken_192 : decode cX9_nextToken 192 = .ok (.putfield 223, 3) := by decide +kernel
theorem dX9_nextToken_195 : decode cX9_nextToken 195 = .ok (.goto 144, 3) := by decide +kernel
theorem dX9_nextToken_198 : decode cX9_nextToken 198 = .ok (.aload_n 0, 1) := by decide +kernel
theorem dX9_nextToken_199 : decode cX9_nextToken 199 = .ok (.aload_n 0, 1) := by decide +kernel
theorem dX9_nextToken_200 : decode cX9_nextToken 200 = .ok (.getfield 217, 3) := by decide +kernel
theorem dX9_nextToken_203 : decode cX9_nextToken 203 = .ok (.invokevirtual 226, 3) := by decide +kernel
theorem dX9_nextToken_206 : decode cX9_nextToken 206 = .ok (.ifCond .eq 105, 3) := by decide +kernel
theorem dX9_nextToken_209 : decode cX9_nextToken 209 = .ok (.aload_n 0, 1) := by decide +kernel
theorem dX9_nextToken_210 : decode cX9_nextToken 210 = .ok (.iconst 0, 1) := by decide +kernel
theorem dX9_nextToken_211 : decode cX9_nextToken 211 = .ok (.putfield 229, 3) := by decide +kernel
theorem dX9_nextToken_214 : decode cX9_nextToken 214 = .ok (.aload_n 0, 1) := by decide +kernel
theorem dX9_nextToken_215 : decode cX9_nextToken 215 = .ok (.aload_n 0, 1) := by decide +kernel
theorem dX9_nextToken_216 : decode cX9_nextToken 216 = .ok (.getfield 211, 3) := by decide +kernel
theorem dX9_nextToken_219 : decode cX9_nextToken 219 = .ok (.invokevirtual 226, 3) := by decide +kernel
theorem dX9_nextToken_222 : decode cX9_nextToken 222 = .ok (.ifCond .eq 60, 3) := by decide +kernel
theorem dX9_nextToken_225 : decode cX9_nextToken 225 = .ok (.aload_n 0, 1) := by decide +kernel
theorem dX9_nextToken_226 : decode cX9_nextToken 226 = .ok (.aload_n 0, 1) := by decide +kernel
theorem dX9_nextToken_227 : decode cX9_nextToken 227 = .ok (.getfield 211, 3) := by decide +kernel
theorem dX9_nextToken_230 : decode cX9_nextToken 230 = .ok (.aload_n 0, 1) := by decide +kernel
theorem dX9_nextToken_231 : decode cX9_nextToken 231 = .ok (.getfield 217, 3) := by decide +kernel
theorem dX9_nextToken_234 : decode cX9_nextToken 234 = .ok (.isub, 1) := by decide +kernel
theorem dX9_nextToken_235 : decode cX9_nextToken 235 = .ok (.iconst 4, 1) := by decide +kernel
theorem dX9_nextToken_236 : decode cX9_nextToken 236 = .ok (.if_icmp .ge 26, 3) := by decide +kernel
theorem dX9_nextToken_239 : decode cX9_nextToken 239 = .ok (.bipush 10, 2) := by decide +kernel
theorem dX9_nextToken_241 : decode cX9_nextToken 241 = .ok (.aload_n 0, 1) := by decide +kernel
theorem dX9_nextToken_242 : decode cX9_nextToken 242 = .ok (.getfield 229, 3) := by decide +kernel
theorem dX9_nextToken_245 : decode cX9_nextToken 245 = .ok (.imul, 1) := by decide +kernel
theorem dX9_nextToken_246 : decode cX9_nextToken 246 = .ok (.aload_n 0, 1) := by decide +kernel
theorem dX9_nextToken_247 : decode cX9_nextToken 247 = .ok (.getfield 43, 3) := by decide +kernel
theorem dX9_nextToken_250 : decode cX9_nextToken 250 = .ok (.aload_n 0, 1) := by decide +kernel
theorem dX9_nextToken_251 : decode cX9_nextToken 251 = .ok (.getfield 211, 3) := by decide +kernel
theorem dX9_nextToken_254 : decode cX9_nextToken 254 = .ok (.iaload, 1) := by decide +kernel
theorem dX9_nextToken_255 : decode cX9_nextToken 255 = .ok (.iadd, 1) := by decide +kernel
theorem dX9_nextToken_256 : decode cX9_nextToken 256 = .ok (.bipush 48, 2) := by decide +kernel
theorem dX9_nextToken_258 : decode cX9_nextToken 258 = .ok (.isub, 1) := by decide +kernel
theorem dX9_nextToken_259 : decode cX9_nextToken 259 = .ok (.goto 7, 3) := by decide +kernel
theorem dX9_nextToken_262 : decode cX9_nextToken 262 = .ok (.aload_n 0, 1) := by decide +kernel
theorem dX9_nextToken_263 : decode cX9_nextToken 263 = .ok (.getfield 229, 3) := by decide +kernel
theorem dX9_nextToken_266 : decode cX9_nextToken 266 = .ok (.putfield 229, 3) := by decide +kernel
theorem dX9_nextToken_269 : decode cX9_nextToken 269 = .ok (.aload_n 0, 1) := by decide +kernel
theorem dX9_nextToken_270 : decode cX9_nextToken 270 = .ok (.dup, 1) := by decide +kernel
theorem dX9_nextToken_271 : decode cX9_nextToken 271 = .ok (.getfield 211, 3) := by decide +kernel
theorem dX9_nextToken_274 : decode cX9_nextToken 274 = .ok (.iconst 1, 1) := by decide +kernel
theorem dX9_nextToken_275 : decode cX9_nextToken 275 = .ok (.iadd, 1) := by decide +kernel
theorem dX9_nextToken_276 : decode cX9_nextToken 276 = .ok (.putfield 211, 3) := by decide +kernel
theorem dX9_nextToken_279 : decode cX9_nextToken 279 = .ok (.goto (-65), 3) := by decide +kernel
theorem dX9_nextToken_282 : decode cX9_nextToken 282 = .ok (.aload_n 0, 1) := by decide +kernel
theorem dX9_nextToken_283 : decode cX9_nextToken 283 = .ok (.iload_n 1, 1) := by decide +kernel
theorem dX9_nextToken_284 : decode cX9_nextToken 284 = .ok (.ifCond .ne 16, 3) := by decide +kernel
theorem dX9_nextToken_287 : decode cX9_nextToken 287 = .ok (.aload_n 0, 1) := by decide +kernel
theorem dX9_nextToken_288 : decode cX9_nextToken 288 = .ok (.getfield 211, 3) := by decide +kernel
theorem dX9_nextToken_291 : decode cX9_nextToken 291 = .ok (.aload_n 0, 1) := by decide +kernel
theorem dX9_nextToken_292 : decode cX9_nextToken 292 = .ok (.getfield 217, 3) := by decide +kernel
theorem dX9_nextToken_295 : decode cX9_nextToken 295 = .ok (.isub, 1) := by decide +kernel
theorem dX9_nextToken_296 : decode cX9_nextToken 296 = .ok (.iconst 4, 1) := by decide +kernel
theorem dX9_nextToken_297 : decode cX9_nextToken 297 = .ok (.if_icmp .le 7, 3) := by decide +kernel
theorem dX9_nextToken_300 : decode cX9_nextToken 300 = .ok (.iconst 4, 1) := by decide +kernel
theorem dX9_nextToken_301 : decode cX9_nextToken 301 = .ok (.goto 4, 3) := by decide +kernel
theorem dX9_nextToken_304 : decode cX9_nextToken 304 = .ok (.iconst 2, 1) := by decide +kernel
theorem dX9_nextToken_305 : decode cX9_nextToken 305 = .ok (.putfield 214, 3) := by decide +kernel
theorem dX9_nextToken_308 : decode cX9_nextToken 308 = .ok (.goto 31, 3) := by decide +kernel
theorem dX9_nextToken_311 : decode cX9_nextToken 311 = .ok (.aload_n 0, 1) := by decide +kernel
theorem dX9_nextToken_312 : decode cX9_nextToken 312 = .ok (.iconst 3, 1) := by decide +kernel
theorem dX9_nextToken_313 : decode cX9_nextToken 313 = .ok (.putfield 214, 3) := by decide +kernel
theorem dX9_nextToken_316 : decode cX9_nextToken 316 = .ok (.aload_n 0, 1) := by decide +kernel
theorem dX9_nextToken_317 : decode cX9_nextToken 317 = .ok (.aload_n 0, 1) := by decide +kernel
theorem dX9_nextToken_318 : decode cX9_nextToken 318 = .ok (.getfield 43, 3) := by decide +kernel
theorem dX9_nextToken_321 : decode cX9_nextToken 321 = .ok (.aload_n 0, 1) := by decide +kernel
theorem dX9_nextToken_322 : decode cX9_nextToken 322 = .ok (.getfield 217, 3) := by decide +kernel
theorem dX9_nextToken_325 : decode cX9_nextToken 325 = .ok (.iaload, 1) := by decide +kernel
theorem dX9_nextToken_326 : decode cX9_nextToken 326 = .ok (.putfield 223, 3) := by decide +kernel
theorem dX9_nextToken_329 : decode cX9_nextToken 329 = .ok (.aload_n 0, 1) := by decide +kernel
theorem dX9_nextToken_330 : decode cX9_nextToken 330 = .ok (.dup, 1) := by decide +kernel
theorem dX9_nextToken_331 : decode cX9_nextToken 331 = .ok (.getfield 211, 3) := by decide +kernel
theorem dX9_nextToken_334 : decode cX9_nextToken 334 = .ok (.iconst 1, 1) := by decide +kernel
theorem dX9_nextToken_335 : decode cX9_nextToken 335 = .ok (.iadd, 1) := by decide +kernel
theorem dX9_nextToken_336 : decode cX9_nextToken 336 = .ok (.putfield 211, 3) := by decide +kernel
theorem dX9_nextToken_339 : decode cX9_nextToken 339 = .ok (.return_, 1) := by decide +kernel
theorem dX9_isSign_0 : decode cX9_isSign 0 = .ok (.aload_n 0, 1) := by decide +kernel
theorem dX9_isSign_1 : decode cX9_isSign 1 = .ok (.getfield 214, 3) := by decide +kernel
theorem dX9_isSign_4 : decode cX9_isSign 4 = .ok (.iconst 3, 1) := by decide +kernel
theorem dX9_isSign_5 : decode cX9_isSign 5 = .ok (.if_icmp .ne 15, 3) := by decide +kernel
theorem dX9_isSign_8 : decode cX9_isSign 8 = .ok (.aload_n 0, 1) := by decide +kernel
theorem dX9_isSign_9 : decode cX9_isSign 9 = .ok (.getfield 223, 3) := by decide +kernel
theorem dX9_isSign_12 : decode cX9_isSign 12 = .ok (.iload_n 1, 1) := by decide +kernel
theorem dX9_isSign_13 : decode cX9_isSign 13 = .ok (.if_icmp .ne 7, 3) := by decide +kernel
theorem dX9_isSign_16 : decode cX9_isSign 16 = .ok (.iconst 1, 1) := by decide +kernel
theorem dX9_isSign_17 : decode cX9_isSign 17 = .ok (.goto 4, 3) := by decide +kernel
theorem dX9_isSign_20 : decode cX9_isSign 20 = .ok (.iconst 0, 1) := by decide +kernel
theorem dX9_isSign_21 : decode cX9_isSign 21 = .ok (.ireturn, 1) := by decide +kernel
theorem dX9_isWordAt_0 : decode cX9_isWordAt 0 = .ok (.iload 4, 2) := by decide +kernel
theorem dX9_isWordAt_2 : decode cX9_isWordAt 2 = .ok (.ifCond .ne 7, 3) := by decide +kernel
theorem dX9_isWordAt_5 : decode cX9_isWordAt 5 = .ok (.iconst 3, 1) := by decide +kernel
theorem dX9_isWordAt_6 : decode cX9_isWordAt 6 = .ok (.goto 4, 3) := by decide +kernel
theorem dX9_isWordAt_9 : decode cX9_isWordAt 9 = .ok (.iconst 4, 1) := by decide +kernel
theorem dX9_isWordAt_10 : decode cX9_isWordAt 10 = .ok (.istore 5, 2) := by decide +kernel
theorem dX9_isWordAt_12 : decode cX9_isWordAt 12 = .ok (.aload_n 0, 1) := by decide +kernel
theorem dX9_isWordAt_13 : decode cX9_isWordAt 13 = .ok (.getfield 214, 3) := by decide +kernel
theorem dX9_isWordAt_16 : decode cX9_isWordAt 16 = .ok (.iconst 1, 1) := by decide +kernel
theorem dX9_isWordAt_17 : decode cX9_isWordAt 17 = .ok (.if_icmp .ne 85, 3) := by decide +kernel
theorem dX9_isWordAt_20 : decode cX9_isWordAt 20 = .ok (.aload_n 0, 1) := by decide +kernel
theorem dX9_isWordAt_21 : decode cX9_isWordAt 21 = .ok (.getfield 211, 3) := by decide +kernel
theorem dX9_isWordAt_24 : decode cX9_isWordAt 24 = .ok (.aload_n 0, 1) := by decide +kernel
theorem dX9_isWordAt_25 : decode cX9_isWordAt 25 = .ok (.getfield 217, 3) := by decide +kernel
theorem dX9_isWordAt_28 : decode cX9_isWordAt 28 = .ok (.isub, 1) := by decide +kernel
theorem dX9_isWordAt_29 : decode cX9_isWordAt 29 = .ok (.iload 5, 2) := by decide +kernel
theorem dX9_isWordAt_31 : decode cX9_isWordAt 31 = .ok (.if_icmp .ne 71, 3) := by decide +kernel
theorem dX9_isWordAt_34 : decode cX9_isWordAt 34 = .ok (.aload_n 0, 1) := by decide +kernel
theorem dX9_isWordAt_35 : decode cX9_isWordAt 35 = .ok (.getfield 43, 3) := by decide +kernel
theorem dX9_isWordAt_38 : decode cX9_isWordAt 38 = .ok (.aload_n 0, 1) := by decide +kernel
theorem dX9_isWordAt_39 : decode cX9_isWordAt 39 = .ok (.getfield 217, 3) := by decide +kernel
theorem dX9_isWordAt_42 : decode cX9_isWordAt 42 = .ok (.iaload, 1) := by decide +kernel
theorem dX9_isWordAt_43 : decode cX9_isWordAt 43 = .ok (.iload_n 1, 1) := by decide +kernel
theorem dX9_isWordAt_44 : decode cX9_isWordAt 44 = .ok (.if_icmp .ne 58, 3) := by decide +kernel
theorem dX9_isWordAt_47 : decode cX9_isWordAt 47 = .ok (.aload_n 0, 1) := by decide +kernel
theorem dX9_isWordAt_48 : decode cX9_isWordAt 48 = .ok (.getfield 43, 3) := by decide +kernel
theorem dX9_isWordAt_51 : decode cX9_isWordAt 51 = .ok (.aload_n 0, 1) := by decide +kernel
theorem dX9_isWordAt_52 : decode cX9_isWordAt 52 = .ok (.getfield 217, 3) := by decide +kernel
theorem dX9_isWordAt_55 : decode cX9_isWordAt 55 = .ok (.iconst 1, 1) := by decide +kernel
theorem dX9_isWordAt_56 : decode cX9_isWordAt 56 = .ok (.iadd, 1) := by decide +kernel
theorem dX9_isWordAt_57 : decode cX9_isWordAt 57 = .ok (.iaload, 1) := by decide +kernel
theorem dX9_isWordAt_58 : decode cX9_isWordAt 58 = .ok (.iload_n 2, 1) := by decide +kernel
theorem dX9_isWordAt_59 : decode cX9_isWordAt 59 = .ok (.if_icmp .ne 43, 3) := by decide +kernel
theorem dX9_isWordAt_62 : decode cX9_isWordAt 62 = .ok (.aload_n 0, 1) := by decide +kernel
theorem dX9_isWordAt_63 : decode cX9_isWordAt 63 = .ok (.getfield 43, 3) := by decide +kernel
theorem dX9_isWordAt_66 : decode cX9_isWordAt 66 = .ok (.aload_n 0, 1) := by decide +kernel
theorem dX9_isWordAt_67 : decode cX9_isWordAt 67 = .ok (.getfield 217, 3) := by decide +kernel
theorem dX9_isWordAt_70 : decode cX9_isWordAt 70 = .ok (.iconst 2, 1) := by decide +kernel
theorem dX9_isWordAt_71 : decode cX9_isWordAt 71 = .ok (.iadd, 1) := by decide +kernel
theorem dX9_isWordAt_72 : decode cX9_isWordAt 72 = .ok (.iaload, 1) := by decide +kernel
theorem dX9_isWordAt_73 : decode cX9_isWordAt 73 = .ok (.iload_n 3, 1) := by decide +kernel
theorem dX9_isWordAt_74 : decode cX9_isWordAt 74 = .ok (.if_icmp .ne 28, 3) := by decide +kernel
theorem dX9_isWordAt_77 : decode cX9_isWordAt 77 = .ok (.iload 4, 2) := by decide +kernel
theorem dX9_isWordAt_79 : decode cX9_isWordAt 79 = .ok (.ifCond .eq 19, 3) := by decide +kernel
theorem dX9_isWordAt_82 : decode cX9_isWordAt 82 = .ok (.aload_n 0, 1) := by decide +kernel
theorem dX9_isWordAt_83 : decode cX9_isWordAt 83 = .ok (.getfield 43, 3) := by decide +kernel
theorem dX9_isWordAt_86 : decode cX9_isWordAt 86 = .ok (.aload_n 0, 1) := by decide +kernel
theorem dX9_isWordAt_87 : decode cX9_isWordAt 87 = .ok (.getfield 217, 3) := by decide +kernel
theorem dX9_isWordAt_90 : decode cX9_isWordAt 90 = .ok (.iconst 3, 1) := by decide +kernel
theorem dX9_isWordAt_91 : decode cX9_isWordAt 91 = .ok (.iadd, 1) := by decide +kernel
theorem dX9_isWordAt_92 : decode cX9_isWordAt 92 = .ok (.iaload, 1) := by decide +kernel
theorem dX9_isWordAt_93 : decode cX9_isWordAt 93 = .ok (.iload 4, 2) := by decide +kernel
theorem dX9_isWordAt_95 : decode cX9_isWordAt 95 = .ok (.if_icmp .ne 7, 3) := by decide +kernel
theorem dX9_isWordAt_98 : decode cX9_isWordAt 98 = .ok (.iconst 1, 1) := by decide +kernel
theorem dX9_isWordAt_99 : decode cX9_isWordAt 99 = .ok (.goto 4, 3) := by decide +kernel
theorem dX9_isWordAt_102 : decode cX9_isWordAt 102 = .ok (.iconst 0, 1) := by decide +kernel
theorem dX9_isWordAt_103 : decode cX9_isWordAt 103 = .ok (.ireturn, 1) := by decide +kernel
theorem dX9_key_0 : decode cX9_key 0 = .ok (.aload_n 0, 1) := by decide +kernel
theorem dX9_key_1 : decode cX9_key 1 = .ok (.bipush 119, 2) := by decide +kernel
theorem dX9_key_3 : decode cX9_key 3 = .ok (.bipush 101, 2) := by decide +kernel
theorem dX9_key_5 : decode cX9_key 5 = .ok (.bipush 97, 2) := by decide +kernel
theorem dX9_key_7 : decode cX9_key 7 = .ok (.bipush 114, 2) := by decide +kernel
theorem dX9_key_9 : decode cX9_key 9 = .ok (.invokevirtual 232, 3) := by decide +kernel
theorem dX9_key_12 : decode cX9_key 12 = .ok (.ifCond .eq 5, 3) := by decide +kernel
theorem dX9_key_15 : decode cX9_key 15 = .ok (.iconst 0, 1) := by decide +kernel
theorem dX9_key_16 : decode cX9_key 16 = .ok (.ireturn, 1) := by decide +kernel
theorem dX9_key_17 : decode cX9_key 17 = .ok (.aload_n 0, 1) := by decide +kernel
theorem dX9_key_18 : decode cX9_key 18 = .ok (.bipush 108, 2) := by decide +kernel
theorem dX9_key_20 : decode cX9_key 20 = .ok (.bipush 97, 2) := by decide +kernel
theorem dX9_key_22 : decode cX9_key 22 = .ok (.bipush 119, 2) := by decide +kernel
theorem dX9_key_24 : decode cX9_key 24 = .ok (.iconst 0, 1) := by decide +kernel
theorem dX9_key_25 : decode cX9_key 25 = .ok (.invokevirtual 232, 3) := by decide +kernel
theorem dX9_key_28 : decode cX9_key 28 = .ok (.ifCond .eq 5, 3) := by decide +kernel
theorem dX9_key_31 : decode cX9_key 31 = .ok (.iconst 1, 1) := by decide +kernel
theorem dX9_key_32 : decode cX9_key 32 = .ok (.ireturn, 1) := by decide +kernel
theorem dX9_key_33 : decode cX9_key 33 = .ok (.aload_n 0, 1) := by decide +kernel
theorem dX9_key_34 : decode cX9_key 34 = .ok (.bipush 102, 2) := by decide +kernel
theorem dX9_key_36 : decode cX9_key 36 = .ok (.bipush 105, 2) := by decide +kernel
theorem dX9_key_38 : decode cX9_key 38 = .ok (.bipush 110, 2) := by decide +kernel
theorem dX9_key_40 : decode cX9_key 40 = .ok (.bipush 101, 2) := by decide +kernel
theorem dX9_key_42 : decode cX9_key 42 = .ok (.invokevirtual 232, 3) := by decide +kernel
theorem dX9_key_45 : decode cX9_key 45 = .ok (.ifCond .eq 7, 3) := by decide +kernel
theorem dX9_key_48 : decode cX9_key 48 = .ok (.iconst 2, 1) := by decide +kernel
theorem dX9_key_49 : decode cX9_key 49 = .ok (.goto 4, 3) := by decide +kernel
theorem dX9_key_52 : decode cX9_key 52 = .ok (.iconst (-1), 1) := by decide +kernel
theorem dX9_key_53 : decode cX9_key 53 = .ok (.ireturn, 1) := by decide +kernel
theorem dX9_isName_0 : decode cX9_isName 0 = .ok (.iload_n 0, 1) := by decide +kernel
theorem dX9_isName_1 : decode cX9_isName 1 = .ok (.lookupswitch 69 #[(0, 27), (1, 51)], 27) := by decide +kernel
theorem dX9_isName_28 : decode cX9_isName 28 = .ok (.iload_n 1, 1) := by decide +kernel
theorem dX9_isName_29 : decode cX9_isName 29 = .ok (.bipush 103, 2) := by decide +kernel
theorem dX9_isName_31 : decode cX9_isName 31 = .ok (.if_icmp .eq 15, 3) := by decide +kernel
theorem dX9_isName_34 : decode cX9_isName 34 = .ok (.iload_n 1, 1) := by decide +kernel
theorem dX9_isName_35 : decode cX9_isName 35 = .ok (.bipush 116, 2) := by decide +kernel
theorem dX9_isName_37 : decode cX9_isName 37 = .ok (.if_icmp .eq 9, 3) := by decide +kernel
theorem dX9_isName_40 : decode cX9_isName 40 = .ok (.iload_n 1, 1) := by decide +kernel
theorem dX9_isName_41 : decode cX9_isName 41 = .ok (.bipush 115, 2) := by decide +kernel
theorem dX9_isName_43 : decode cX9_isName 43 = .ok (.if_icmp .ne 7, 3) := by decide +kernel
theorem dX9_isName_46 : decode cX9_isName 46 = .ok (.iconst 1, 1) := by decide +kernel
theorem dX9_isName_47 : decode cX9_isName 47 = .ok (.goto 4, 3) := by decide +kernel
theorem dX9_isName_50 : decode cX9_isName 50 = .ok (.iconst 0, 1) := by decide +kernel
theorem dX9_isName_51 : decode cX9_isName 51 = .ok (.ireturn, 1) := by decide +kernel
theorem dX9_isName_52 : decode cX9_isName 52 = .ok (.iload_n 1, 1) := by decide +kernel
theorem dX9_isName_53 : decode cX9_isName 53 = .ok (.bipush 115, 2) := by decide +kernel
theorem dX9_isName_55 : decode cX9_isName 55 = .ok (.if_icmp .eq 9, 3) := by decide +kernel
theorem dX9_isName_58 : decode cX9_isName 58 = .ok (.iload_n 1, 1) := by decide +kernel
theorem dX9_isName_59 : decode cX9_isName 59 = .ok (.bipush 100, 2) := by decide +kernel
theorem dX9_isName_61 : decode cX9_isName 61 = .ok (.if_icmp .ne 7, 3) := by decide +kernel
theorem dX9_isName_64 : decode cX9_isName 64 = .ok (.iconst 1, 1) := by decide +kernel
theorem dX9_isName_65 : decode cX9_isName 65 = .ok (.goto 4, 3) := by decide +kernel
theorem dX9_isName_68 : decode cX9_isName 68 = .ok (.iconst 0, 1) := by decide +kernel
theorem dX9_isName_69 : decode cX9_isName 69 = .ok (.ireturn, 1) := by decide +kernel
theorem dX9_isName_70 : decode cX9_isName 70 = .ok (.iload_n 1, 1) := by decide +kernel
theorem dX9_isName_71 : decode cX9_isName 71 = .ok (.bipush 108, 2) := by decide +kernel
theorem dX9_isName_73 : decode cX9_isName 73 = .ok (.if_icmp .eq 9, 3) := by decide +kernel
theorem dX9_isName_76 : decode cX9_isName 76 = .ok (.iload_n 1, 1) := by decide +kernel
theorem dX9_isName_77 : decode cX9_isName 77 = .ok (.bipush 116, 2) := by decide +kernel
theorem dX9_isName_79 : decode cX9_isName 79 = .ok (.if_icmp .ne 7, 3) := by decide +kernel
theorem dX9_isName_82 : decode cX9_isName 82 = .ok (.iconst 1, 1) := by decide +kernel
theorem dX9_isName_83 : decode cX9_isName 83 = .ok (.goto 4, 3) := by decide +kernel
theorem dX9_isName_86 : decode cX9_isName 86 = .ok (.iconst 0, 1) := by decide +kernel
theorem dX9_isName_87 : decode cX9_isName 87 = .ok (.ireturn, 1) := by decide +kernel
theorem dX9_step_0 : decode cX9_step 0 = .ok (.aload_n 0, 1) := by decide +kernel
theorem dX9_step_1 : decode cX9_step 1 = .ok (.getfield 7, 3) := by decide +kernel
theorem dX9_step_4 : decode cX9_step 4 = .ok (.aload_n 0, 1) := by decide +kernel
theorem dX9_step_5 : decode cX9_step 5 = .ok (.getfield 236, 3) := by decide +kernel
theorem dX9_step_8 : decode cX9_step 8 = .ok (.iconst 2, 1) := by decide +kernel
theorem dX9_step_9 : decode cX9_step 9 = .ok (.aload_n 0, 1) := by decide +kernel
theorem dX9_step_10 : decode cX9_step 10 = .ok (.getfield 239, 3) := by decide +kernel
theorem dX9_step_13 : decode cX9_step 13 = .ok (.imul, 1) := by decide +kernel
theorem dX9_step_14 : decode cX9_step 14 = .ok (.iadd, 1) := by decide +kernel
theorem dX9_step_15 : decode cX9_step 15 = .ok (.iload_n 1, 1) := by decide +kernel
theorem dX9_step_16 : decode cX9_step 16 = .ok (.iastore, 1) := by decide +kernel
theorem dX9_step_17 : decode cX9_step 17 = .ok (.aload_n 0, 1) := by decide +kernel
theorem dX9_step_18 : decode cX9_step 18 = .ok (.getfield 7, 3) := by decide +kernel
theorem dX9_step_21 : decode cX9_step 21 = .ok (.aload_n 0, 1) := by decide +kernel
theorem dX9_step_22 : decode cX9_step 22 = .ok (.getfield 236, 3) := by decide +kernel
theorem dX9_step_25 : decode cX9_step 25 = .ok (.iconst 2, 1) := by decide +kernel
theorem dX9_step_26 : decode cX9_step 26 = .ok (.aload_n 0, 1) := by decide +kernel
theorem dX9_step_27 : decode cX9_step 27 = .ok (.getfield 239, 3) := by decide +kernel
theorem dX9_step_30 : decode cX9_step 30 = .ok (.imul, 1) := by decide +kernel
theorem dX9_step_31 : decode cX9_step 31 = .ok (.iadd, 1) := by decide +kernel
theorem dX9_step_32 : decode cX9_step 32 = .ok (.iconst 1, 1) := by decide +kernel
theorem dX9_step_33 : decode cX9_step 33 = .ok (.iadd, 1) := by decide +kernel
theorem dX9_step_34 : decode cX9_step 34 = .ok (.iload_n 2, 1) := by decide +kernel
theorem dX9_step_35 : decode cX9_step 35 = .ok (.iastore, 1) := by decide +kernel
theorem dX9_step_36 : decode cX9_step 36 = .ok (.aload_n 0, 1) := by decide +kernel
theorem dX9_step_37 : decode cX9_step 37 = .ok (.dup, 1) := by decide +kernel
theorem dX9_step_38 : decode cX9_step 38 = .ok (.getfield 239, 3) := by decide +kernel
theorem dX9_step_41 : decode cX9_step 41 = .ok (.iconst 1, 1) := by decide +kernel
theorem dX9_step_42 : decode cX9_step 42 = .ok (.iadd, 1) := by decide +kernel
theorem dX9_step_43 : decode cX9_step 43 = .ok (.putfield 239, 3) := by decide +kernel
theorem dX9_step_46 : decode cX9_step 46 = .ok (.return_, 1) := by decide +kernel
theorem dX9_either_0 : decode cX9_either 0 = .ok (.aload_n 0, 1) := by decide +kernel
theorem dX9_either_1 : decode cX9_either 1 = .ok (.iload_n 1, 1) := by decide +kernel
theorem dX9_either_2 : decode cX9_either 2 = .ok (.invokevirtual 242, 3) := by decide +kernel
theorem dX9_either_5 : decode cX9_either 5 = .ok (.ifCond .ne 5, 3) := by decide +kernel
theorem dX9_either_8 : decode cX9_either 8 = .ok (.iconst 0, 1) := by decide +kernel
theorem dX9_either_9 : decode cX9_either 9 = .ok (.ireturn, 1) := by decide +kernel
theorem dX9_either_10 : decode cX9_either 10 = .ok (.aload_n 0, 1) := by decide +kernel
theorem dX9_either_11 : decode cX9_either 11 = .ok (.bipush 124, 2) := by decide +kernel
theorem dX9_either_13 : decode cX9_either 13 = .ok (.invokevirtual 245, 3) := by decide +kernel
theorem dX9_either_16 : decode cX9_either 16 = .ok (.ifCond .eq 27, 3) := by decide +kernel
theorem dX9_either_19 : decode cX9_either 19 = .ok (.aload_n 0, 1) := by decide +kernel
theorem dX9_either_20 : decode cX9_either 20 = .ok (.invokevirtual 248, 3) := by decide +kernel
theorem dX9_either_23 : decode cX9_either 23 = .ok (.aload_n 0, 1) := by decide +kernel
theorem dX9_either_24 : decode cX9_either 24 = .ok (.iload_n 1, 1) := by decide +kernel
theorem dX9_either_25 : decode cX9_either 25 = .ok (.invokevirtual 242, 3) := by decide +kernel
theorem dX9_either_28 : decode cX9_either 28 = .ok (.ifCond .ne 5, 3) := by decide +kernel
theorem dX9_either_31 : decode cX9_either 31 = .ok (.iconst 0, 1) := by decide +kernel
theorem dX9_either_32 : decode cX9_either 32 = .ok (.ireturn, 1) := by decide +kernel
theorem dX9_either_33 : decode cX9_either 33 = .ok (.aload_n 0, 1) := by decide +kernel
theorem dX9_either_34 : decode cX9_either 34 = .ok (.iconst 2, 1) := by decide +kernel
theorem dX9_either_35 : decode cX9_either 35 = .ok (.bipush 124, 2) := by decide +kernel
theorem dX9_either_37 : decode cX9_either 37 = .ok (.invokevirtual 251, 3) := by decide +kernel
theorem dX9_either_40 : decode cX9_either 40 = .ok (.goto (-30), 3) := by decide +kernel
theorem dX9_either_43 : decode cX9_either 43 = .ok (.iconst 1, 1) := by decide +kernel
theorem dX9_either_44 : decode cX9_either 44 = .ok (.ireturn, 1) := by decide +kernel
theorem dX9_both_0 : decode cX9_both 0 = .ok (.aload_n 0, 1) := by decide +kernel
theorem dX9_both_1 : decode cX9_both 1 = .ok (.iload_n 1, 1) := by decide +kernel
theorem dX9_both_2 : decode cX9_both 2 = .ok (.invokevirtual 254, 3) := by decide +kernel
theorem dX9_both_5 : decode cX9_both 5 = .ok (.ifCond .ne 5, 3) := by decide +kernel
theorem dX9_both_8 : decode cX9_both 8 = .ok (.iconst 0, 1) := by decide +kernel
theorem dX9_both_9 : decode cX9_both 9 = .ok (.ireturn, 1) := by decide +kernel
theorem dX9_both_10 : decode cX9_both 10 = .ok (.aload_n 0, 1) := by decide +kernel
theorem dX9_both_11 : decode cX9_both 11 = .ok (.bipush 38, 2) := by decide +kernel
theorem dX9_both_13 : decode cX9_both 13 = .ok (.invokevirtual 245, 3) := by decide +kernel
theorem dX9_both_16 : decode cX9_both 16 = .ok (.ifCond .eq 27, 3) := by decide +kernel
theorem dX9_both_19 : decode cX9_both 19 = .ok (.aload_n 0, 1) := by decide +kernel
theorem dX9_both_20 : decode cX9_both 20 = .ok (.invokevirtual 248, 3) := by decide +kernel
theorem dX9_both_23 : decode cX9_both 23 = .ok (.aload_n 0, 1) := by decide +kernel
theorem dX9_both_24 : decode cX9_both 24 = .ok (.iload_n 1, 1) := by decide +kernel
theorem dX9_both_25 : decode cX9_both 25 = .ok (.invokevirtual 254, 3) := by decide +kernel
theorem dX9_both_28 : decode cX9_both 28 = .ok (.ifCond .ne 5, 3) := by decide +kernel
theorem dX9_both_31 : decode cX9_both 31 = .ok (.iconst 0, 1) := by decide +kernel
theorem dX9_both_32 : decode cX9_both 32 = .ok (.ireturn, 1) := by decide +kernel
theorem dX9_both_33 : decode cX9_both 33 = .ok (.aload_n 0, 1) := by decide +kernel
theorem dX9_both_34 : decode cX9_both 34 = .ok (.iconst 2, 1) := by decide +kernel
theorem dX9_both_35 : decode cX9_both 35 = .ok (.bipush 38, 2) := by decide +kernel
theorem dX9_both_37 : decode cX9_both 37 = .ok (.invokevirtual 251, 3) := by decide +kernel
theorem dX9_both_40 : decode cX9_both 40 = .ok (.goto (-30), 3) := by decide +kernel
theorem dX9_both_43 : decode cX9_both 43 = .ok (.iconst 1, 1) := by decide +kernel
theorem dX9_both_44 : decode cX9_both 44 = .ok (.ireturn, 1) := by decide +kernel
theorem dX9_test_0 : decode cX9_test 0 = .ok (.aload_n 0, 1) := by decide +kernel
theorem dX9_test_1 : decode cX9_test 1 = .ok (.iload_n 1, 1) := by decide +kernel
theorem dX9_test_2 : decode cX9_test 2 = .ok (.invokevirtual 257, 3) := by decide +kernel
theorem dX9_test_5 : decode cX9_test 5 = .ok (.ifCond .ne 5, 3) := by decide +kernel
theorem dX9_test_8 : decode cX9_test 8 = .ok (.iconst 0, 1) := by decide +kernel
theorem dX9_test_9 : decode cX9_test 9 = .ok (.ireturn, 1) := by decide +kernel
theorem dX9_test_10 : decode cX9_test 10 = .ok (.aload_n 0, 1) := by decide +kernel
theorem dX9_test_11 : decode cX9_test 11 = .ok (.bipush 60, 2) := by decide +kernel
theorem dX9_test_13 : decode cX9_test 13 = .ok (.invokevirtual 245, 3) := by decide +kernel
theorem dX9_test_16 : decode cX9_test 16 = .ok (.ifCond .ne 21, 3) := by decide +kernel
theorem dX9_test_19 : decode cX9_test 19 = .ok (.aload_n 0, 1) := by decide +kernel
theorem dX9_test_20 : decode cX9_test 20 = .ok (.bipush 61, 2) := by decide +kernel
theorem dX9_test_22 : decode cX9_test 22 = .ok (.invokevirtual 245, 3) := by decide +kernel
theorem dX9_test_25 : decode cX9_test 25 = .ok (.ifCond .ne 12, 3) := by decide +kernel
theorem dX9_test_28 : decode cX9_test 28 = .ok (.aload_n 0, 1) := by decide +kernel
theorem dX9_test_29 : decode cX9_test 29 = .ok (.bipush 62, 2) := by decide +kernel
theorem dX9_test_31 : decode cX9_test 31 = .ok (.invokevirtual 245, 3) := by decide +kernel
theorem dX9_test_34 : decode cX9_test 34 = .ok (.ifCond .eq 28, 3) := by decide +kernel
theorem dX9_test_37 : decode cX9_test 37 = .ok (.aload_n 0, 1) := by decide +kernel
theorem dX9_test_38 : decode cX9_test 38 = .ok (.getfield 223, 3) := by decide +kernel
theorem dX9_test_41 : decode cX9_test 41 = .ok (.istore_n 2, 1) := by decide +kernel
theorem dX9_test_42 : decode cX9_test 42 = .ok (.aload_n 0, 1) := by decide +kernel
theorem dX9_test_43 : decode cX9_test 43 = .ok (.invokevirtual 248, 3) := by decide +kernel
theorem dX9_test_46 : decode cX9_test 46 = .ok (.aload_n 0, 1) := by decide +kernel
theorem dX9_test_47 : decode cX9_test 47 = .ok (.iload_n 1, 1) := by decide +kernel
theorem dX9_test_48 : decode cX9_test 48 = .ok (.invokevirtual 257, 3) := by decide +kernel
theorem dX9_test_51 : decode cX9_test 51 = .ok (.ifCond .ne 5, 3) := by decide +kernel
theorem dX9_test_54 : decode cX9_test 54 = .ok (.iconst 0, 1) := by decide +kernel
theorem dX9_test_55 : decode cX9_test 55 = .ok (.ireturn, 1) := by decide +kernel
theorem dX9_test_56 : decode cX9_test 56 = .ok (.aload_n 0, 1) := by decide +kernel
theorem dX9_test_57 : decode cX9_test 57 = .ok (.iconst 2, 1) := by decide +kernel
theorem dX9_test_58 : decode cX9_test 58 = .ok (.iload_n 2, 1) := by decide +kernel
theorem dX9_test_59 : decode cX9_test 59 = .ok (.invokevirtual 251, 3) := by decide +kernel
theorem dX9_test_62 : decode cX9_test 62 = .ok (.iconst 1, 1) := by decide +kernel
theorem dX9_test_63 : decode cX9_test 63 = .ok (.ireturn, 1) := by decide +kernel
theorem dX9_sum_0 : decode cX9_sum 0 = .ok (.aload_n 0, 1) := by decide +kernel
theorem dX9_sum_1 : decode cX9_sum 1 = .ok (.iload_n 1, 1) := by decide +kernel
theorem dX9_sum_2 : decode cX9_sum 2 = .ok (.invokevirtual 260, 3) := by decide +kernel
theorem dX9_sum_5 : decode cX9_sum 5 = .ok (.ifCond .ne 5, 3) := by decide +kernel
theorem dX9_sum_8 : decode cX9_sum 8 = .ok (.iconst 0, 1) := by decide +kernel
theorem dX9_sum_9 : decode cX9_sum 9 = .ok (.ireturn, 1) := by decide +kernel
theorem dX9_sum_10 : decode cX9_sum 10 = .ok (.aload_n 0, 1) := by decide +kernel
theorem dX9_sum_11 : decode cX9_sum 11 = .ok (.bipush 43, 2) := by decide +kernel
theorem dX9_sum_13 : decode cX9_sum 13 = .ok (.invokevirtual 245, 3) := by decide +kernel
theorem dX9_sum_16 : decode cX9_sum 16 = .ok (.ifCond .ne 12, 3) := by decide +kernel
theorem dX9_sum_19 : decode cX9_sum 19 = .ok (.aload_n 0, 1) := by decide +kernel
theorem dX9_sum_20 : decode cX9_sum 20 = .ok (.bipush 45, 2) := by decide +kernel
theorem dX9_sum_22 : decode cX9_sum 22 = .ok (.invokevirtual 245, 3) := by decide +kernel
theorem dX9_sum_25 : decode cX9_sum 25 = .ok (.ifCond .eq 31, 3) := by decide +kernel
theorem dX9_sum_28 : decode cX9_sum 28 = .ok (.aload_n 0, 1) := by decide +kernel
theorem dX9_sum_29 : decode cX9_sum 29 = .ok (.getfield 223, 3) := by decide +kernel
theorem dX9_sum_32 : decode cX9_sum 32 = .ok (.istore_n 2, 1) := by decide +kernel
theorem dX9_sum_33 : decode cX9_sum 33 = .ok (.aload_n 0, 1) := by decide +kernel
theorem dX9_sum_34 : decode cX9_sum 34 = .ok (.invokevirtual 248, 3) := by decide +kernel
theorem dX9_sum_37 : decode cX9_sum 37 = .ok (.aload_n 0, 1) := by decide +kernel
theorem dX9_sum_38 : decode cX9_sum 38 = .ok (.iload_n 1, 1) := by decide +kernel
theorem dX9_sum_39 : decode cX9_sum 39 = .ok (.invokevirtual 260, 3) := by decide +kernel
theorem dX9_sum_42 : decode cX9_sum 42 = .ok (.ifCond .ne 5, 3) := by decide +kernel
theorem dX9_sum_45 : decode cX9_sum 45 = .ok (.iconst 0, 1) := by decide +kernel
theorem dX9_sum_46 : decode cX9_sum 46 = .ok (.ireturn, 1) := by decide +kernel
theorem dX9_sum_47 : decode cX9_sum 47 = .ok (.aload_n 0, 1) := by decide +kernel
theorem dX9_sum_48 : decode cX9_sum 48 = .ok (.iconst 2, 1) := by decide +kernel
theorem dX9_sum_49 : decode cX9_sum 49 = .ok (.iload_n 2, 1) := by decide +kernel
theorem dX9_sum_50 : decode cX9_sum 50 = .ok (.invokevirtual 251, 3) := by decide +kernel
theorem dX9_sum_53 : decode cX9_sum 53 = .ok (.goto (-43), 3) := by decide +kernel
theorem dX9_sum_56 : decode cX9_sum 56 = .ok (.iconst 1, 1) := by decide +kernel
theorem dX9_sum_57 : decode cX9_sum 57 = .ok (.ireturn, 1) := by decide +kernel
theorem dX9_term_0 : decode cX9_term 0 = .ok (.aload_n 0, 1) := by decide +kernel
theorem dX9_term_1 : decode cX9_term 1 = .ok (.iload_n 1, 1) := by decide +kernel
theorem dX9_term_2 : decode cX9_term 2 = .ok (.invokevirtual 263, 3) := by decide +kernel
theorem dX9_term_5 : decode cX9_term 5 = .ok (.ifCond .ne 5, 3) := by decide +kernel
theorem dX9_term_8 : decode cX9_term 8 = .ok (.iconst 0, 1) := by decide +kernel
theorem dX9_term_9 : decode cX9_term 9 = .ok (.ireturn, 1) := by decide +kernel
theorem dX9_term_10 : decode cX9_term 10 = .ok (.aload_n 0, 1) := by decide +kernel
theorem dX9_term_11 : decode cX9_term 11 = .ok (.bipush 42, 2) := by decide +kernel
theorem dX9_term_13 : decode cX9_term 13 = .ok (.invokevirtual 245, 3) := by decide +kernel
theorem dX9_term_16 : decode cX9_term 16 = .ok (.ifCond .ne 12, 3) := by decide +kernel
theorem dX9_term_19 : decode cX9_term 19 = .ok (.aload_n 0, 1) := by decide +kernel
theorem dX9_term_20 : decode cX9_term 20 = .ok (.bipush 47, 2) := by decide +kernel
theorem dX9_term_22 : decode cX9_term 22 = .ok (.invokevirtual 245, 3) := by decide +kernel
theorem dX9_term_25 : decode cX9_term 25 = .ok (.ifCond .eq 31, 3) := by decide +kernel
theorem dX9_term_28 : decode cX9_term 28 = .ok (.aload_n 0, 1) := by decide +kernel
theorem dX9_term_29 : decode cX9_term 29 = .ok (.getfield 223, 3) := by decide +kernel
theorem dX9_term_32 : decode cX9_term 32 = .ok (.istore_n 2, 1) := by decide +kernel
theorem dX9_term_33 : decode cX9_term 33 = .ok (.aload_n 0, 1) := by decide +kernel
theorem dX9_term_34 : decode cX9_term 34 = .ok (.invokevirtual 248, 3) := by decide +kernel
theorem dX9_term_37 : decode cX9_term 37 = .ok (.aload_n 0, 1) := by decide +kernel
theorem dX9_term_38 : decode cX9_term 38 = .ok (.iload_n 1, 1) := by decide +kernel
theorem dX9_term_39 : decode cX9_term 39 = .ok (.invokevirtual 263, 3) := by decide +kernel
theorem dX9_term_42 : decode cX9_term 42 = .ok (.ifCond .ne 5, 3) := by decide +kernel
theorem dX9_term_45 : decode cX9_term 45 = .ok (.iconst 0, 1) := by decide +kernel
theorem dX9_term_46 : decode cX9_term 46 = .ok (.ireturn, 1) := by decide +kernel
theorem dX9_term_47 : decode cX9_term 47 = .ok (.aload_n 0, 1) := by decide +kernel
theorem dX9_term_48 : decode cX9_term 48 = .ok (.iconst 2, 1) := by decide +kernel
theorem dX9_term_49 : decode cX9_term 49 = .ok (.iload_n 2, 1) := by decide +kernel
theorem dX9_term_50 : decode cX9_term 50 = .ok (.invokevirtual 251, 3) := by decide +kernel
theorem dX9_term_53 : decode cX9_term 53 = .ok (.goto (-43), 3) := by decide +kernel
theorem dX9_term_56 : decode cX9_term 56 = .ok (.iconst 1, 1) := by decide +kernel
theorem dX9_term_57 : decode cX9_term 57 = .ok (.ireturn, 1) := by decide +kernel
theorem dX9_part0_0 : decode cX9_part0 0 = .ok (.aload_n 0, 1) := by decide +kernel
theorem dX9_part0_1 : decode cX9_part0 1 = .ok (.getfield 214, 3) := by decide +kernel
theorem dX9_part0_4 : decode cX9_part0 4 = .ok (.iconst 2, 1) := by decide +kernel
theorem dX9_part0_5 : decode cX9_part0 5 = .ok (.if_icmp .ne 28, 3) := by decide +kernel
theorem dX9_part0_8 : decode cX9_part0 8 = .ok (.aload_n 0, 1) := by decide +kernel
theorem dX9_part0_9 : decode cX9_part0 9 = .ok (.iconst 0, 1) := by decide +kernel
theorem dX9_part0_10 : decode cX9_part0 10 = .ok (.aload_n 0, 1) := by decide +kernel
theorem dX9_part0_11 : decode cX9_part0 11 = .ok (.getfield 229, 3) := by decide +kernel
theorem dX9_part0_14 : decode cX9_part0 14 = .ok (.invokevirtual 251, 3) := by decide +kernel
theorem dX9_part0_17 : decode cX9_part0 17 = .ok (.aload_n 0, 1) := by decide +kernel
theorem dX9_part0_18 : decode cX9_part0 18 = .ok (.dup, 1) := by decide +kernel
theorem dX9_part0_19 : decode cX9_part0 19 = .ok (.getfield 266, 3) := by decide +kernel
theorem dX9_part0_22 : decode cX9_part0 22 = .ok (.iconst 1, 1) := by decide +kernel
theorem dX9_part0_23 : decode cX9_part0 23 = .ok (.iadd, 1) := by decide +kernel
theorem dX9_part0_24 : decode cX9_part0 24 = .ok (.putfield 266, 3) := by decide +kernel
theorem dX9_part0_27 : decode cX9_part0 27 = .ok (.aload_n 0, 1) := by decide +kernel
theorem dX9_part0_28 : decode cX9_part0 28 = .ok (.invokevirtual 248, 3) := by decide +kernel
theorem dX9_part0_31 : decode cX9_part0 31 = .ok (.iconst 1, 1) := by decide +kernel
theorem dX9_part0_32 : decode cX9_part0 32 = .ok (.ireturn, 1) := by decide +kernel
theorem dX9_part0_33 : decode cX9_part0 33 = .ok (.aload_n 0, 1) := by decide +kernel
theorem dX9_part0_34 : decode cX9_part0 34 = .ok (.getfield 214, 3) := by decide +kernel
theorem dX9_part0_37 : decode cX9_part0 37 = .ok (.iconst 1, 1) := by decide +kernel
theorem dX9_part0_38 : decode cX9_part0 38 = .ok (.if_icmp .ne 46, 3) := by decide +kernel
theorem dX9_part0_41 : decode cX9_part0 41 = .ok (.aload_n 0, 1) := by decide +kernel
theorem dX9_part0_42 : decode cX9_part0 42 = .ok (.getfield 223, 3) := by decide +kernel
theorem dX9_part0_45 : decode cX9_part0 45 = .ok (.ifCond .eq 39, 3) := by decide +kernel
theorem dX9_part0_48 : decode cX9_part0 48 = .ok (.iload_n 1, 1) := by decide +kernel
theorem dX9_part0_49 : decode cX9_part0 49 = .ok (.aload_n 0, 1) := by decide +kernel
theorem dX9_part0_50 : decode cX9_part0 50 = .ok (.getfield 223, 3) := by decide +kernel
theorem dX9_part0_53 : decode cX9_part0 53 = .ok (.invokestatic 268, 3) := by decide +kernel
theorem dX9_part0_56 : decode cX9_part0 56 = .ok (.ifCond .eq 28, 3) := by decide +kernel
theorem dX9_part0_59 : decode cX9_part0 59 = .ok (.aload_n 0, 1) := by decide +kernel
theorem dX9_part0_60 : decode cX9_part0 60 = .ok (.iconst 1, 1) := by decide +kernel
theorem dX9_part0_61 : decode cX9_part0 61 = .ok (.aload_n 0, 1) := by decide +kernel
theorem dX9_part0_62 : decode cX9_part0 62 = .ok (.getfield 223, 3) := by decide +kernel
theorem dX9_part0_65 : decode cX9_part0 65 = .ok (.invokevirtual 251, 3) := by decide +kernel
theorem dX9_part0_68 : decode cX9_part0 68 = .ok (.aload_n 0, 1) := by decide +kernel
theorem dX9_part0_69 : decode cX9_part0 69 = .ok (.dup, 1) := by decide +kernel
theorem dX9_part0_70 : decode cX9_part0 70 = .ok (.getfield 266, 3) := by decide +kernel
theorem dX9_part0_73 : decode cX9_part0 73 = .ok (.iconst 1, 1) := by decide +kernel
theorem dX9_part0_74 : decode cX9_part0 74 = .ok (.iadd, 1) := by decide +kernel
theorem dX9_part0_75 : decode cX9_part0 75 = .ok (.putfield 266, 3) := by decide +kernel
theorem dX9_part0_78 : decode cX9_part0 78 = .ok (.aload_n 0, 1) := by decide +kernel
theorem dX9_part0_79 : decode cX9_part0 79 = .ok (.invokevirtual 248, 3) := by decide +kernel
theorem dX9_part0_82 : decode cX9_part0 82 = .ok (.iconst 1, 1) := by decide +kernel
theorem dX9_part0_83 : decode cX9_part0 83 = .ok (.ireturn, 1) := by decide +kernel
theorem dX9_part0_84 : decode cX9_part0 84 = .ok (.aload_n 0, 1) := by decide +kernel
theorem dX9_part0_85 : decode cX9_part0 85 = .ok (.bipush 33, 2) := by decide +kernel
theorem dX9_part0_87 : decode cX9_part0 87 = .ok (.invokevirtual 245, 3) := by decide +kernel
theorem dX9_part0_90 : decode cX9_part0 90 = .ok (.ifCond .eq 55, 3) := by decide +kernel
theorem dX9_part0_93 : decode cX9_part0 93 = .ok (.aload_n 0, 1) := by decide +kernel
theorem dX9_part0_94 : decode cX9_part0 94 = .ok (.getfield 271, 3) := by decide +kernel
theorem dX9_part0_97 : decode cX9_part0 97 = .ok (.bipush 8, 2) := by decide +kernel
theorem dX9_part0_99 : decode cX9_part0 99 = .ok (.if_icmp .ge 46, 3) := by decide +kernel
theorem dX9_part0_102 : decode cX9_part0 102 = .ok (.aload_n 0, 1) := by decide +kernel
theorem dX9_part0_103 : decode cX9_part0 103 = .ok (.dup, 1) := by decide +kernel
theorem dX9_part0_104 : decode cX9_part0 104 = .ok (.getfield 271, 3) := by decide +kernel
theorem dX9_part0_107 : decode cX9_part0 107 = .ok (.iconst 1, 1) := by decide +kernel
theorem dX9_part0_108 : decode cX9_part0 108 = .ok (.iadd, 1) := by decide +kernel
theorem dX9_part0_109 : decode cX9_part0 109 = .ok (.putfield 271, 3) := by decide +kernel
theorem dX9_part0_112 : decode cX9_part0 112 = .ok (.aload_n 0, 1) := by decide +kernel
theorem dX9_part0_113 : decode cX9_part0 113 = .ok (.invokevirtual 248, 3) := by decide +kernel
theorem dX9_part0_116 : decode cX9_part0 116 = .ok (.aload_n 0, 1) := by decide +kernel
theorem dX9_part0_117 : decode cX9_part0 117 = .ok (.iload_n 1, 1) := by decide +kernel
theorem dX9_part0_118 : decode cX9_part0 118 = .ok (.invokevirtual 263, 3) := by decide +kernel
theorem dX9_part0_121 : decode cX9_part0 121 = .ok (.ifCond .ne 5, 3) := by decide +kernel
theorem dX9_part0_124 : decode cX9_part0 124 = .ok (.iconst 0, 1) := by decide +kernel
theorem dX9_part0_125 : decode cX9_part0 125 = .ok (.ireturn, 1) := by decide +kernel
theorem dX9_part0_126 : decode cX9_part0 126 = .ok (.aload_n 0, 1) := by decide +kernel
theorem dX9_part0_127 : decode cX9_part0 127 = .ok (.dup, 1) := by decide +kernel
theorem dX9_part0_128 : decode cX9_part0 128 = .ok (.getfield 271, 3) := by decide +kernel
theorem dX9_part0_131 : decode cX9_part0 131 = .ok (.iconst 1, 1) := by decide +kernel
theorem dX9_part0_132 : decode cX9_part0 132 = .ok (.isub, 1) := by decide +kernel
theorem dX9_part0_133 : decode cX9_part0 133 = .ok (.putfield 271, 3) := by decide +kernel
theorem dX9_part0_136 : decode cX9_part0 136 = .ok (.aload_n 0, 1) := by decide +kernel
theorem dX9_part0_137 : decode cX9_part0 137 = .ok (.iconst 2, 1) := by decide +kernel
theorem dX9_part0_138 : decode cX9_part0 138 = .ok (.bipush 33, 2) := by decide +kernel
theorem dX9_part0_140 : decode cX9_part0 140 = .ok (.invokevirtual 251, 3) := by decide +kernel
theorem dX9_part0_143 : decode cX9_part0 143 = .ok (.iconst 1, 1) := by decide +kernel
theorem dX9_part0_144 : decode cX9_part0 144 = .ok (.ireturn, 1) := by decide +kernel
theorem dX9_part0_145 : decode cX9_part0 145 = .ok (.aload_n 0, 1) := by decide +kernel
theorem dX9_part0_146 : decode cX9_part0 146 = .ok (.bipush 40, 2) := by decide +kernel
theorem dX9_part0_148 : decode cX9_part0 148 = .ok (.invokevirtual 245, 3) := by decide +kernel
theorem dX9_part0_151 : decode cX9_part0 151 = .ok (.ifCond .eq 12, 3) := by decide +kernel
theorem dX9_part0_154 : decode cX9_part0 154 = .ok (.aload_n 0, 1) := by decide +kernel
theorem dX9_part0_155 : decode cX9_part0 155 = .ok (.getfield 274, 3) := by decide +kernel
theorem dX9_part0_158 : decode cX9_part0 158 = .ok (.bipush 8, 2) := by decide +kernel
theorem dX9_part0_160 : decode cX9_part0 160 = .ok (.if_icmp .ne 5, 3) := by decide +kernel
theorem dX9_part0_163 : decode cX9_part0 163 = .ok (.iconst 0, 1) := by decide +kernel
theorem dX9_part0_164 : decode cX9_part0 164 = .ok (.ireturn, 1) := by decide +kernel
theorem dX9_part0_165 : decode cX9_part0 165 = .ok (.aload_n 0, 1) := by decide +kernel
theorem dX9_part0_166 : decode cX9_part0 166 = .ok (.dup, 1) := by decide +kernel
theorem dX9_part0_167 : decode cX9_part0 167 = .ok (.getfield 274, 3) := by decide +kernel
theorem dX9_part0_170 : decode cX9_part0 170 = .ok (.iconst 1, 1) := by decide +kernel
theorem dX9_part0_171 : decode cX9_part0 171 = .ok (.iadd, 1) := by decide +kernel
theorem dX9_part0_172 : decode cX9_part0 172 = .ok (.putfield 274, 3) := by decide +kernel
theorem dX9_part0_175 : decode cX9_part0 175 = .ok (.aload_n 0, 1) := by decide +kernel
theorem dX9_part0_176 : decode cX9_part0 176 = .ok (.invokevirtual 248, 3) := by decide +kernel
theorem dX9_part0_179 : decode cX9_part0 179 = .ok (.aload_n 0, 1) := by decide +kernel
theorem dX9_part0_180 : decode cX9_part0 180 = .ok (.iload_n 1, 1) := by decide +kernel
theorem dX9_part0_181 : decode cX9_part0 181 = .ok (.invokevirtual 277, 3) := by decide +kernel
theorem dX9_part0_184 : decode cX9_part0 184 = .ok (.ifCond .eq 12, 3) := by decide +kernel
theorem dX9_part0_187 : decode cX9_part0 187 = .ok (.aload_n 0, 1) := by decide +kernel
theorem dX9_part0_188 : decode cX9_part0 188 = .ok (.bipush 41, 2) := by decide +kernel
theorem dX9_part0_190 : decode cX9_part0 190 = .ok (.invokevirtual 245, 3) := by decide +kernel
theorem dX9_part0_193 : decode cX9_part0 193 = .ok (.ifCond .ne 5, 3) := by decide +kernel
theorem dX9_part0_196 : decode cX9_part0 196 = .ok (.iconst 0, 1) := by decide +kernel
theorem dX9_part0_197 : decode cX9_part0 197 = .ok (.ireturn, 1) := by decide +kernel
theorem dX9_part0_198 : decode cX9_part0 198 = .ok (.aload_n 0, 1) := by decide +kernel
theorem dX9_part0_199 : decode cX9_part0 199 = .ok (.dup, 1) := by decide +kernel
theorem dX9_part0_200 : decode cX9_part0 200 = .ok (.getfield 274, 3) := by decide +kernel
theorem dX9_part0_203 : decode cX9_part0 203 = .ok (.iconst 1, 1) := by decide +kernel
theorem dX9_part0_204 : decode cX9_part0 204 = .ok (.isub, 1) := by decide +kernel
theorem dX9_part0_205 : decode cX9_part0 205 = .ok (.putfield 274, 3) := by decide +kernel
theorem dX9_part0_208 : decode cX9_part0 208 = .ok (.aload_n 0, 1) := by decide +kernel
theorem dX9_part0_209 : decode cX9_part0 209 = .ok (.invokevirtual 248, 3) := by decide +kernel
theorem dX9_part0_212 : decode cX9_part0 212 = .ok (.iconst 1, 1) := by decide +kernel
theorem dX9_part0_213 : decode cX9_part0 213 = .ok (.ireturn, 1) := by decide +kernel
theorem dX9_parse_0 : decode cX9_parse 0 = .ok (.aload_n 0, 1) := by decide +kernel
theorem dX9_parse_1 : decode cX9_parse 1 = .ok (.iconst 0, 1) := by decide +kernel
theorem dX9_parse_2 : decode cX9_parse 2 = .ok (.putfield 211, 3) := by decide +kernel
theorem dX9_parse_5 : decode cX9_parse 5 = .ok (.aload_n 0, 1) := by decide +kernel
theorem dX9_parse_6 : decode cX9_parse 6 = .ok (.iconst 3, 1) := by decide +kernel
theorem dX9_parse_7 : decode cX9_parse 7 = .ok (.putfield 214, 3) := by decide +kernel
theorem dX9_parse_10 : decode cX9_parse 10 = .ok (.aload_n 0, 1) := by decide +kernel
theorem dX9_parse_11 : decode cX9_parse 11 = .ok (.iconst 0, 1) := by decide +kernel
theorem dX9_parse_12 : decode cX9_parse 12 = .ok (.putfield 274, 3) := by decide +kernel
theorem dX9_parse_15 : decode cX9_parse 15 = .ok (.aload_n 0, 1) := by decide +kernel
theorem dX9_parse_16 : decode cX9_parse 16 = .ok (.iconst 0, 1) := by decide +kernel
theorem dX9_parse_17 : decode cX9_parse 17 = .ok (.putfield 271, 3) := by decide +kernel
theorem dX9_parse_20 : decode cX9_parse 20 = .ok (.aload_n 0, 1) := by decide +kernel
theorem dX9_parse_21 : decode cX9_parse 21 = .ok (.iconst 0, 1) := by decide +kernel
theorem dX9_parse_22 : decode cX9_parse 22 = .ok (.putfield 239, 3) := by decide +kernel
theorem dX9_parse_25 : decode cX9_parse 25 = .ok (.aload_n 0, 1) := by decide +kernel
theorem dX9_parse_26 : decode cX9_parse 26 = .ok (.iconst 0, 1) := by decide +kernel
theorem dX9_parse_27 : decode cX9_parse 27 = .ok (.putfield 266, 3) := by decide +kernel
theorem dX9_parse_30 : decode cX9_parse 30 = .ok (.aload_n 0, 1) := by decide +kernel
theorem dX9_parse_31 : decode cX9_parse 31 = .ok (.aload_n 0, 1) := by decide +kernel
theorem dX9_parse_32 : decode cX9_parse 32 = .ok (.getfield 7, 3) := by decide +kernel
theorem dX9_parse_35 : decode cX9_parse 35 = .ok (.iconst 1, 1) := by decide +kernel
theorem dX9_parse_36 : decode cX9_parse 36 = .ok (.iaload, 1) := by decide +kernel
theorem dX9_parse_37 : decode cX9_parse 37 = .ok (.bipush 14, 2) := by decide +kernel
theorem dX9_parse_39 : decode cX9_parse 39 = .ok (.if_icmp .ge 18, 3) := by decide +kernel
theorem dX9_parse_42 : decode cX9_parse 42 = .ok (.aload_n 0, 1) := by decide +kernel
theorem dX9_parse_43 : decode cX9_parse 43 = .ok (.aload_n 0, 1) := by decide +kernel
theorem dX9_parse_44 : decode cX9_parse 44 = .ok (.getfield 7, 3) := by decide +kernel
theorem dX9_parse_47 : decode cX9_parse 47 = .ok (.iconst 1, 1) := by decide +kernel
theorem dX9_parse_48 : decode cX9_parse 48 = .ok (.iaload, 1) := by decide +kernel
theorem dX9_parse_49 : decode cX9_parse 49 = .ok (.invokevirtual 280, 3) := by decide +kernel
theorem dX9_parse_52 : decode cX9_parse 52 = .ok (.iconst 4, 1) := by decide +kernel
theorem dX9_parse_53 : decode cX9_parse 53 = .ok (.iadd, 1) := by decide +kernel
theorem dX9_parse_54 : decode cX9_parse 54 = .ok (.goto 6, 3) := by decide +kernel
theorem dX9_parse_57 : decode cX9_parse 57 = .ok (.sipush 2954, 3) := by decide +kernel
theorem dX9_parse_60 : decode cX9_parse 60 = .ok (.putfield 236, 3) := by decide +kernel
theorem dX9_parse_63 : decode cX9_parse 63 = .ok (.aload_n 0, 1) := by decide +kernel
theorem dX9_parse_64 : decode cX9_parse 64 = .ok (.invokevirtual 248, 3) := by decide +kernel
theorem dX9_parse_67 : decode cX9_parse 67 = .ok (.aload_n 0, 1) := by decide +kernel
theorem dX9_parse_68 : decode cX9_parse 68 = .ok (.invokevirtual 283, 3) := by decide +kernel
theorem dX9_parse_71 : decode cX9_parse 71 = .ok (.istore_n 1, 1) := by decide +kernel
theorem dX9_parse_72 : decode cX9_parse 72 = .ok (.iload_n 1, 1) := by decide +kernel
theorem dX9_parse_73 : decode cX9_parse 73 = .ok (.ifCond .lt 7, 3) := by decide +kernel
theorem dX9_parse_76 : decode cX9_parse 76 = .ok (.iconst 1, 1) := by decide +kernel
theorem dX9_parse_77 : decode cX9_parse 77 = .ok (.goto 4, 3) := by decide +kernel
theorem dX9_parse_80 : decode cX9_parse 80 = .ok (.iconst 0, 1) := by decide +kernel
theorem dX9_parse_81 : decode cX9_parse 81 = .ok (.istore_n 2, 1) := by decide +kernel
theorem dX9_parse_82 : decode cX9_parse 82 = .ok (.iload_n 2, 1) := by decide +kernel
theorem dX9_parse_83 : decode cX9_parse 83 = .ok (.ifCond .eq 28, 3) := by decide +kernel
theorem dX9_parse_86 : decode cX9_parse 86 = .ok (.aload_n 0, 1) := by decide +kernel
theorem dX9_parse_87 : decode cX9_parse 87 = .ok (.invokevirtual 248, 3) := by decide +kernel
theorem dX9_parse_90 : decode cX9_parse 90 = .ok (.aload_n 0, 1) := by decide +kernel
theorem dX9_parse_91 : decode cX9_parse 91 = .ok (.iload_n 1, 1) := by decide +kernel
theorem dX9_parse_92 : decode cX9_parse 92 = .ok (.invokevirtual 277, 3) := by decide +kernel
theorem dX9_parse_95 : decode cX9_parse 95 = .ok (.ifCond .eq 14, 3) := by decide +kernel
theorem dX9_parse_98 : decode cX9_parse 98 = .ok (.aload_n 0, 1) := by decide +kernel
theorem dX9_parse_99 : decode cX9_parse 99 = .ok (.getfield 214, 3) := by decide +kernel
theorem dX9_parse_102 : decode cX9_parse 102 = .ok (.ifCond .ne 7, 3) := by decide +kernel
theorem dX9_parse_105 : decode cX9_parse 105 = .ok (.iconst 1, 1) := by decide +kernel
theorem dX9_parse_106 : decode cX9_parse 106 = .ok (.goto 4, 3) := by decide +kernel
theorem dX9_parse_109 : decode cX9_parse 109 = .ok (.iconst 0, 1) := by decide +kernel
theorem dX9_parse_110 : decode cX9_parse 110 = .ok (.istore_n 2, 1) := by decide +kernel
theorem dX9_parse_111 : decode cX9_parse 111 = .ok (.aload_n 0, 1) := by decide +kernel
theorem dX9_parse_112 : decode cX9_parse 112 = .ok (.iconst 0, 1) := by decide +kernel
theorem dX9_parse_113 : decode cX9_parse 113 = .ok (.putfield 199, 3) := by decide +kernel
theorem dX9_parse_116 : decode cX9_parse 116 = .ok (.iload_n 2, 1) := by decide +kernel
theorem dX9_parse_117 : decode cX9_parse 117 = .ok (.ifCond .eq 7, 3) := by decide +kernel
theorem dX9_parse_120 : decode cX9_parse 120 = .ok (.iload_n 1, 1) := by decide +kernel
theorem dX9_parse_121 : decode cX9_parse 121 = .ok (.goto 4, 3) := by decide +kernel
theorem dX9_parse_124 : decode cX9_parse 124 = .ok (.iconst (-1), 1) := by decide +kernel
theorem dX9_parse_125 : decode cX9_parse 125 = .ok (.ireturn, 1) := by decide +kernel
theorem dX9_text_0 : decode cX9_text 0 = .ok (.aload_n 0, 1) := by decide +kernel
theorem dX9_text_1 : decode cX9_text 1 = .ok (.invokevirtual 286, 3) := by decide +kernel
theorem dX9_text_4 : decode cX9_text 4 = .ok (.istore_n 1, 1) := by decide +kernel
theorem dX9_text_5 : decode cX9_text 5 = .ok (.iload_n 1, 1) := by decide +kernel
theorem dX9_text_6 : decode cX9_text 6 = .ok (.ifCond .ge 11, 3) := by decide +kernel
theorem dX9_text_9 : decode cX9_text 9 = .ok (.bipush (-100), 2) := by decide +kernel
theorem dX9_text_11 : decode cX9_text 11 = .ok (.aload_n 0, 1) := by decide +kernel
theorem dX9_text_12 : decode cX9_text 12 = .ok (.getfield 217, 3) := by decide +kernel
theorem dX9_text_15 : decode cX9_text 15 = .ok (.isub, 1) := by decide +kernel
theorem dX9_text_16 : decode cX9_text 16 = .ok (.ireturn, 1) := by decide +kernel
theorem dX9_text_17 : decode cX9_text 17 = .ok (.aload_n 0, 1) := by decide +kernel
theorem dX9_text_18 : decode cX9_text 18 = .ok (.getfield 7, 3) := by decide +kernel
theorem dX9_text_21 : decode cX9_text 21 = .ok (.iconst 1, 1) := by decide +kernel
theorem dX9_text_22 : decode cX9_text 22 = .ok (.iaload, 1) := by decide +kernel
theorem dX9_text_23 : decode cX9_text 23 = .ok (.bipush 14, 2) := by decide +kernel
theorem dX9_text_25 : decode cX9_text 25 = .ok (.if_icmp .ne 6, 3) := by decide +kernel
theorem dX9_text_28 : decode cX9_text 28 = .ok (.ldc 83, 2) := by decide +kernel
theorem dX9_text_30 : decode cX9_text 30 = .ok (.ireturn, 1) := by decide +kernel
theorem dX9_text_31 : decode cX9_text 31 = .ok (.aload_n 0, 1) := by decide +kernel
theorem dX9_text_32 : decode cX9_text 32 = .ok (.aload_n 0, 1) := by decide +kernel
theorem dX9_text_33 : decode cX9_text 33 = .ok (.getfield 7, 3) := by decide +kernel
theorem dX9_text_36 : decode cX9_text 36 = .ok (.iconst 1, 1) := by decide +kernel
theorem dX9_text_37 : decode cX9_text 37 = .ok (.iaload, 1) := by decide +kernel
theorem dX9_text_38 : decode cX9_text 38 = .ok (.invokevirtual 280, 3) := by decide +kernel
theorem dX9_text_41 : decode cX9_text 41 = .ok (.istore_n 2, 1) := by decide +kernel
theorem dX9_text_42 : decode cX9_text 42 = .ok (.aload_n 0, 1) := by decide +kernel
theorem dX9_text_43 : decode cX9_text 43 = .ok (.getfield 7, 3) := by decide +kernel
theorem dX9_text_46 : decode cX9_text 46 = .ok (.iload_n 2, 1) := by decide +kernel
theorem dX9_text_47 : decode cX9_text 47 = .ok (.iconst 0, 1) := by decide +kernel
theorem dX9_text_48 : decode cX9_text 48 = .ok (.iadd, 1) := by decide +kernel
theorem dX9_text_49 : decode cX9_text 49 = .ok (.iload_n 1, 1) := by decide +kernel
theorem dX9_text_50 : decode cX9_text 50 = .ok (.iastore, 1) := by decide +kernel
theorem dX9_text_51 : decode cX9_text 51 = .ok (.aload_n 0, 1) := by decide +kernel
theorem dX9_text_52 : decode cX9_text 52 = .ok (.getfield 7, 3) := by decide +kernel
theorem dX9_text_55 : decode cX9_text 55 = .ok (.iload_n 2, 1) := by decide +kernel
theorem dX9_text_56 : decode cX9_text 56 = .ok (.iconst 1, 1) := by decide +kernel
theorem dX9_text_57 : decode cX9_text 57 = .ok (.iadd, 1) := by decide +kernel
theorem dX9_text_58 : decode cX9_text 58 = .ok (.aload_n 0, 1) := by decide +kernel
theorem dX9_text_59 : decode cX9_text 59 = .ok (.getfield 266, 3) := by decide +kernel
theorem dX9_text_62 : decode cX9_text 62 = .ok (.iastore, 1) := by decide +kernel
theorem dX9_text_63 : decode cX9_text 63 = .ok (.aload_n 0, 1) := by decide +kernel
theorem dX9_text_64 : decode cX9_text 64 = .ok (.getfield 7, 3) := by decide +kernel
theorem dX9_text_67 : decode cX9_text 67 = .ok (.iload_n 2, 1) := by decide +kernel
theorem dX9_text_68 : decode cX9_text 68 = .ok (.iconst 2, 1) := by decide +kernel
theorem dX9_text_69 : decode cX9_text 69 = .ok (.iadd, 1) := by decide +kernel
theorem dX9_text_70 : decode cX9_text 70 = .ok (.aload_n 0, 1) := by decide +kernel
theorem dX9_text_71 : decode cX9_text 71 = .ok (.getfield 239, 3) := by decide +kernel
theorem dX9_text_74 : decode cX9_text 74 = .ok (.iastore, 1) := by decide +kernel
theorem dX9_text_75 : decode cX9_text 75 = .ok (.aload_n 0, 1) := by decide +kernel
theorem dX9_text_76 : decode cX9_text 76 = .ok (.getfield 7, 3) := by decide +kernel
theorem dX9_text_79 : decode cX9_text 79 = .ok (.iconst 1, 1) := by decide +kernel
theorem dX9_text_80 : decode cX9_text 80 = .ok (.dup2, 1) := by decide +kernel
theorem dX9_text_81 : decode cX9_text 81 = .ok (.iaload, 1) := by decide +kernel
theorem dX9_text_82 : decode cX9_text 82 = .ok (.iconst 1, 1) := by decide +kernel
theorem dX9_text_83 : decode cX9_text 83 = .ok (.iadd, 1) := by decide +kernel
theorem dX9_text_84 : decode cX9_text 84 = .ok (.iastore, 1) := by decide +kernel
theorem dX9_text_85 : decode cX9_text 85 = .ok (.aload_n 0, 1) := by decide +kernel
theorem dX9_text_86 : decode cX9_text 86 = .ok (.getfield 7, 3) := by decide +kernel
theorem dX9_text_89 : decode cX9_text 89 = .ok (.iconst 1, 1) := by decide +kernel
theorem dX9_text_90 : decode cX9_text 90 = .ok (.iaload, 1) := by decide +kernel
theorem dX9_text_91 : decode cX9_text 91 = .ok (.iconst 1, 1) := by decide +kernel
theorem dX9_text_92 : decode cX9_text 92 = .ok (.isub, 1) := by decide +kernel
theorem dX9_text_93 : decode cX9_text 93 = .ok (.ireturn, 1) := by decide +kernel
theorem dX9_textTold_0 : decode cX9_textTold 0 = .ok (.aload_n 0, 1) := by decide +kernel
theorem dX9_textTold_1 : decode cX9_textTold 1 = .ok (.iload_n 1, 1) := by decide +kernel
theorem dX9_textTold_2 : decode cX9_textTold 2 = .ok (.invokevirtual 289, 3) := by decide +kernel
theorem dX9_textTold_5 : decode cX9_textTold 5 = .ok (.ifCond .eq 13, 3) := by decide +kernel
theorem dX9_textTold_8 : decode cX9_textTold 8 = .ok (.iload_n 2, 1) := by decide +kernel
theorem dX9_textTold_9 : decode cX9_textTold 9 = .ok (.i2l, 1) := by decide +kernel
theorem dX9_textTold_10 : decode cX9_textTold 10 = .ok (.lconst 0, 1) := by decide +kernel
theorem dX9_textTold_11 : decode cX9_textTold 11 = .ok (.lconst 1, 1) := by decide +kernel
theorem dX9_textTold_12 : decode cX9_textTold 12 = .ok (.invokestatic 62, 3) := by decide +kernel
theorem dX9_textTold_15 : decode cX9_textTold 15 = .ok (.ifCond .ne 6, 3) := by decide +kernel
theorem dX9_textTold_18 : decode cX9_textTold 18 = .ok (.ldc 82, 2) := by decide +kernel
theorem dX9_textTold_20 : decode cX9_textTold 20 = .ok (.ireturn, 1) := by decide +kernel
theorem dX9_textTold_21 : decode cX9_textTold 21 = .ok (.aload_n 0, 1) := by decide +kernel
theorem dX9_textTold_22 : decode cX9_textTold 22 = .ok (.getfield 7, 3) := by decide +kernel
theorem dX9_textTold_25 : decode cX9_textTold 25 = .ok (.aload_n 0, 1) := by decide +kernel
theorem dX9_textTold_26 : decode cX9_textTold 26 = .ok (.iload_n 1, 1) := by decide +kernel
theorem dX9_textTold_27 : decode cX9_textTold 27 = .ok (.invokevirtual 280, 3) := by decide +kernel
theorem dX9_textTold_30 : decode cX9_textTold 30 = .ok (.iload_n 2, 1) := by decide +kernel
theorem dX9_textTold_31 : decode cX9_textTold 31 = .ok (.iadd, 1) := by decide +kernel
theorem dX9_textTold_32 : decode cX9_textTold 32 = .ok (.iaload, 1) := by decide +kernel
theorem dX9_textTold_33 : decode cX9_textTold 33 = .ok (.ireturn, 1) := by decide +kernel
theorem dX9_counts_0 : decode cX9_counts 0 = .ok (.iconst (-1), 1) := by decide +kernel
theorem dX9_counts_1 : decode cX9_counts 1 = .ok (.istore_n 2, 1) := by decide +kernel
theorem dX9_counts_2 : decode cX9_counts 2 = .ok (.iconst 0, 1) := by decide +kernel
theorem dX9_counts_3 : decode cX9_counts 3 = .ok (.istore_n 3, 1) := by decide +kernel
theorem dX9_counts_4 : decode cX9_counts 4 = .ok (.iload_n 3, 1) := by decide +kernel
theorem dX9_counts_5 : decode cX9_counts 5 = .ok (.aload_n 0, 1) := by decide +kernel
theorem dX9_counts_6 : decode cX9_counts 6 = .ok (.getfield 7, 3) := by decide +kernel
theorem dX9_counts_9 : decode cX9_counts 9 = .ok (.iconst 1, 1) := by decide +kernel
theorem dX9_counts_10 : decode cX9_counts 10 = .ok (.iaload, 1) := by decide +kernel
theorem dX9_counts_11 : decode cX9_counts 11 = .ok (.if_icmp .ge 29, 3) := by decide +kernel
theorem dX9_counts_14 : decode cX9_counts 14 = .ok (.aload_n 0, 1) := by decide +kernel
theorem dX9_counts_15 : decode cX9_counts 15 = .ok (.getfield 7, 3) := by decide +kernel
theorem dX9_counts_18 : decode cX9_counts 18 = .ok (.aload_n 0, 1) := by decide +kernel
theorem dX9_counts_19 : decode cX9_counts 19 = .ok (.iload_n 3, 1) := by decide +kernel
theorem dX9_counts_20 : decode cX9_counts 20 = .ok (.invokevirtual 280, 3) := by decide +kernel
theorem dX9_counts_23 : decode cX9_counts 23 = .ok (.iaload, 1) := by decide +kernel
theorem dX9_counts_24 : decode cX9_counts 24 = .ok (.iload_n 1, 1) := by decide +kernel
theorem dX9_counts_25 : decode cX9_counts 25 = .ok (.if_icmp .ne 7, 3) := by decide +kernel
theorem dX9_counts_28 : decode cX9_counts 28 = .ok (.iload_n 3, 1) := by decide +kernel
theorem dX9_counts_29 : decode cX9_counts 29 = .ok (.goto 4, 3) := by decide +kernel
theorem dX9_counts_32 : decode cX9_counts 32 = .ok (.iload_n 2, 1) := by decide +kernel
theorem dX9_counts_33 : decode cX9_counts 33 = .ok (.istore_n 2, 1) := by decide +kernel
theorem dX9_counts_34 : decode cX9_counts 34 = .ok (.iinc 3 1, 3) := by decide +kernel
theorem dX9_counts_37 : decode cX9_counts 37 = .ok (.goto (-33), 3) := by decide +kernel
theorem dX9_counts_40 : decode cX9_counts 40 = .ok (.iload_n 2, 1) := by decide +kernel
theorem dX9_counts_41 : decode cX9_counts 41 = .ok (.ireturn, 1) := by decide +kernel
theorem dX9_why_0 : decode cX9_why 0 = .ok (.iload_n 1, 1) := by decide +kernel
theorem dX9_why_1 : decode cX9_why 1 = .ok (.i2l, 1) := by decide +kernel
theorem dX9_why_2 : decode cX9_why 2 = .ok (.lconst 0, 1) := by decide +kernel
theorem dX9_why_3 : decode cX9_why 3 = .ok (.ldc2_w 292, 3) := by decide +kernel
theorem dX9_why_6 : decode cX9_why 6 = .ok (.invokestatic 62, 3) := by decide +kernel
theorem dX9_why_9 : decode cX9_why 9 = .ok (.ifCond .eq 14, 3) := by decide +kernel
theorem dX9_why_12 : decode cX9_why 12 = .ok (.aload_n 0, 1) := by decide +kernel
theorem dX9_why_13 : decode cX9_why 13 = .ok (.iload_n 1, 1) := by decide +kernel
theorem dX9_why_14 : decode cX9_why 14 = .ok (.invokevirtual 88, 3) := by decide +kernel
theorem dX9_why_17 : decode cX9_why 17 = .ok (.invokestatic 188, 3) := by decide +kernel
theorem dX9_why_20 : decode cX9_why 20 = .ok (.goto 5, 3) := by decide +kernel
theorem dX9_why_23 : decode cX9_why 23 = .ok (.ldc 82, 2) := by decide +kernel
theorem dX9_why_25 : decode cX9_why 25 = .ok (.ireturn, 1) := by decide +kernel
theorem dX9_joined_0 : decode cX9_joined 0 = .ok (.iload_n 0, 1) := by decide +kernel
theorem dX9_joined_1 : decode cX9_joined 1 = .ok (.tableswitch 196 38 62 #[182, 196, 196, 196, 123, 115, 196, 119, 196, 127, 196, 196, 196, 196, 196, 196, 196, 196, 196, 196, 196, 196, 149, 171, 160], 115) := by decide +kernel
theorem dX9_joined_116 : decode cX9_joined 116 = .ok (.iload_n 1, 1) := by decide +kernel
theorem dX9_joined_117 : decode cX9_joined 117 = .ok (.iload_n 2, 1) := by decide +kernel
theorem dX9_joined_118 : decode cX9_joined 118 = .ok (.iadd, 1) := by decide +kernel
theorem dX9_joined_119 : decode cX9_joined 119 = .ok (.ireturn, 1) := by decide +kernel
theorem dX9_joined_120 : decode cX9_joined 120 = .ok (.iload_n 1, 1) := by decide +kernel
theorem dX9_joined_121 : decode cX9_joined 121 = .ok (.iload_n 2, 1) := by decide +kernel
theorem dX9_joined_122 : decode cX9_joined 122 = .ok (.isub, 1) := by decide +kernel
theorem dX9_joined_123 : decode cX9_joined 123 = .ok (.ireturn, 1) := by decide +kernel
theorem dX9_joined_124 : decode cX9_joined 124 = .ok (.iload_n 1, 1) := by decide +kernel
theorem dX9_joined_125 : decode cX9_joined 125 = .ok (.iload_n 2, 1) := by decide +kernel
theorem dX9_joined_126 : decode cX9_joined 126 = .ok (.imul, 1) := by decide +kernel
theorem dX9_joined_127 : decode cX9_joined 127 = .ok (.ireturn, 1) := by decide +kernel
theorem dX9_joined_128 : decode cX9_joined 128 = .ok (.iload_n 2, 1) := by decide +kernel
theorem dX9_joined_129 : decode cX9_joined 129 = .ok (.ifCond .ne 7, 3) := by decide +kernel
theorem dX9_joined_132 : decode cX9_joined 132 = .ok (.iconst 0, 1) := by decide +kernel
theorem dX9_joined_133 : decode cX9_joined 133 = .ok (.goto 16, 3) := by decide +kernel
theorem dX9_joined_136 : decode cX9_joined 136 = .ok (.iload_n 2, 1) := by decide +kernel
theorem dX9_joined_137 : decode cX9_joined 137 = .ok (.iconst (-1), 1) := by decide +kernel
theorem dX9_joined_138 : decode cX9_joined 138 = .ok (.if_icmp .ne 8, 3) := by decide +kernel
theorem dX9_joined_141 : decode cX9_joined 141 = .ok (.iload_n 1, 1) := by decide +kernel
theorem dX9_joined_142 : decode cX9_joined 142 = .ok (.ineg, 1) := by decide +kernel
theorem dX9_joined_143 : decode cX9_joined 143 = .ok (.goto 6, 3) := by decide +kernel
theorem dX9_joined_146 : decode cX9_joined 146 = .ok (.iload_n 1, 1) := by decide +kernel
theorem dX9_joined_147 : decode cX9_joined 147 = .ok (.iload_n 2, 1) := by decide +kernel
theorem dX9_joined_148 : decode cX9_joined 148 = .ok (.idiv, 1) := by decide +kernel
theorem dX9_joined_149 : decode cX9_joined 149 = .ok (.ireturn, 1) := by decide +kernel
theorem dX9_joined_150 : decode cX9_joined 150 = .ok (.iload_n 1, 1) := by decide +kernel
theorem dX9_joined_151 : decode cX9_joined 151 = .ok (.iload_n 2, 1) := by decide +kernel
theorem dX9_joined_152 : decode cX9_joined 152 = .ok (.if_icmp .ge 7, 3) := by decide +kernel
theorem dX9_joined_155 : decode cX9_joined 155 = .ok (.iconst 1, 1) := by decide +kernel
theorem dX9_joined_156 : decode cX9_joined 156 = .ok (.goto 4, 3) := by decide +kernel
theorem dX9_joined_159 : decode cX9_joined 159 = .ok (.iconst 0, 1) := by decide +kernel
theorem dX9_joined_160 : decode cX9_joined 160 = .ok (.ireturn, 1) := by decide +kernel
theorem dX9_joined_161 : decode cX9_joined 161 = .ok (.iload_n 1, 1) := by decide +kernel
theorem dX9_joined_162 : decode cX9_joined 162 = .ok (.iload_n 2, 1) := by decide +kernel
theorem dX9_joined_163 : decode cX9_joined 163 = .ok (.if_icmp .le 7, 3) := by decide +kernel
theorem dX9_joined_166 : decode cX9_joined 166 = .ok (.iconst 1, 1) := by decide +kernel
theorem dX9_joined_167 : decode cX9_joined 167 = .ok (.goto 4, 3) := by decide +kernel
theorem dX9_joined_170 : decode cX9_joined 170 = .ok (.iconst 0, 1) := by decide +kernel
theorem dX9_joined_171 : decode cX9_joined 171 = .ok (.ireturn, 1) := by decide +kernel
theorem dX9_joined_172 : decode cX9_joined 172 = .ok (.iload_n 1, 1) := by decide +kernel
theorem dX9_joined_173 : decode cX9_joined 173 = .ok (.iload_n 2, 1) := by decide +kernel
theorem dX9_joined_174 : decode cX9_joined 174 = .ok (.if_icmp .ne 7, 3) := by decide +kernel
theorem dX9_joined_177 : decode cX9_joined 177 = .ok (.iconst 1, 1) := by decide +kernel
theorem dX9_joined_178 : decode cX9_joined 178 = .ok (.goto 4, 3) := by decide +kernel
theorem dX9_joined_181 : decode cX9_joined 181 = .ok (.iconst 0, 1) := by decide +kernel
theorem dX9_joined_182 : decode cX9_joined 182 = .ok (.ireturn, 1) := by decide +kernel
theorem dX9_joined_183 : decode cX9_joined 183 = .ok (.iload_n 1, 1) := by decide +kernel
theorem dX9_joined_184 : decode cX9_joined 184 = .ok (.ifCond .eq 11, 3) := by decide +kernel
theorem dX9_joined_187 : decode cX9_joined 187 = .ok (.iload_n 2, 1) := by decide +kernel
theorem dX9_joined_188 : decode cX9_joined 188 = .ok (.ifCond .eq 7, 3) := by decide +kernel
theorem dX9_joined_191 : decode cX9_joined 191 = .ok (.iconst 1, 1) := by decide +kernel
theorem dX9_joined_192 : decode cX9_joined 192 = .ok (.goto 4, 3) := by decide +kernel
theorem dX9_joined_195 : decode cX9_joined 195 = .ok (.iconst 0, 1) := by decide +kernel
theorem dX9_joined_196 : decode cX9_joined 196 = .ok (.ireturn, 1) := by decide +kernel
theorem dX9_joined_197 : decode cX9_joined 197 = .ok (.iload_n 1, 1) := by decide +kernel
theorem dX9_joined_198 : decode cX9_joined 198 = .ok (.ifCond .ne 7, 3) := by decide +kernel
theorem dX9_joined_201 : decode cX9_joined 201 = .ok (.iload_n 2, 1) := by decide +kernel
theorem dX9_joined_202 : decode cX9_joined 202 = .ok (.ifCond .eq 7, 3) := by decide +kernel
theorem dX9_joined_205 : decode cX9_joined 205 = .ok (.iconst 1, 1) := by decide +kernel
theorem dX9_joined_206 : decode cX9_joined 206 = .ok (.goto 4, 3) := by decide +kernel
theorem dX9_joined_209 : decode cX9_joined 209 = .ok (.iconst 0, 1) := by decide +kernel
theorem dX9_joined_210 : decode cX9_joined 210 = .ok (.ireturn, 1) := by decide +kernel
theorem dX9_worked_0 : decode cX9_worked 0 = .ok (.iconst 0, 1) := by decide +kernel
theorem dX9_worked_1 : decode cX9_worked 1 = .ok (.istore_n 2, 1) := by decide +kernel
theorem dX9_worked_2 : decode cX9_worked 2 = .ok (.iconst 0, 1) := by decide +kernel
theorem dX9_worked_3 : decode cX9_worked 3 = .ok (.istore_n 3, 1) := by decide +kernel
theorem dX9_worked_4 : decode cX9_worked 4 = .ok (.iload_n 3, 1) := by decide +kernel
theorem dX9_worked_5 : decode cX9_worked 5 = .ok (.aload_n 0, 1) := by decide +kernel
theorem dX9_worked_6 : decode cX9_worked 6 = .ok (.getfield 7, 3) := by decide +kernel
theorem dX9_worked_9 : decode cX9_worked 9 = .ok (.aload_n 0, 1) := by decide +kernel
theorem dX9_worked_10 : decode cX9_worked 10 = .ok (.iload_n 1, 1) := by decide +kernel
theorem dX9_worked_11 : decode cX9_worked 11 = .ok (.invokevirtual 280, 3) := by decide +kernel
theorem dX9_worked_14 : decode cX9_worked 14 = .ok (.iconst 2, 1) := by decide +kernel
theorem dX9_worked_15 : decode cX9_worked 15 = .ok (.iadd, 1) := by decide +kernel
theorem dX9_worked_16 : decode cX9_worked 16 = .ok (.iaload, 1) := by decide +kernel
theorem dX9_worked_17 : decode cX9_worked 17 = .ok (.if_icmp .ge 146, 3) := by decide +kernel
theorem dX9_worked_20 : decode cX9_worked 20 = .ok (.aload_n 0, 1) := by decide +kernel
theorem dX9_worked_21 : decode cX9_worked 21 = .ok (.getfield 7, 3) := by decide +kernel
theorem dX9_worked_24 : decode cX9_worked 24 = .ok (.aload_n 0, 1) := by decide +kernel
theorem dX9_worked_25 : decode cX9_worked 25 = .ok (.iload_n 1, 1) := by decide +kernel
theorem dX9_worked_26 : decode cX9_worked 26 = .ok (.invokevirtual 280, 3) := by decide +kernel
theorem dX9_worked_29 : decode cX9_worked 29 = .ok (.iconst 4, 1) := by decide +kernel
theorem dX9_worked_30 : decode cX9_worked 30 = .ok (.iadd, 1) := by decide +kernel
theorem dX9_worked_31 : decode cX9_worked 31 = .ok (.iconst 2, 1) := by decide +kernel
theorem dX9_worked_32 : decode cX9_worked 32 = .ok (.iload_n 3, 1) := by decide +kernel
theorem dX9_worked_33 : decode cX9_worked 33 = .ok (.imul, 1) := by decide +kernel
theorem dX9_worked_34 : decode cX9_worked 34 = .ok (.iadd, 1) := by decide +kernel
theorem dX9_worked_35 : decode cX9_worked 35 = .ok (.iaload, 1) := by decide +kernel
theorem dX9_worked_36 : decode cX9_worked 36 = .ok (.istore 4, 2) := by decide +kernel
theorem dX9_worked_38 : decode cX9_worked 38 = .ok (.aload_n 0, 1) := by decide +kernel
theorem dX9_worked_39 : decode cX9_worked 39 = .ok (.getfield 7, 3) := by decide +kernel
theorem dX9_worked_42 : decode cX9_worked 42 = .ok (.aload_n 0, 1) := by decide +kernel
theorem dX9_worked_43 : decode cX9_worked 43 = .ok (.iload_n 1, 1) := by decide +kernel
theorem dX9_worked_44 : decode cX9_worked 44 = .ok (.invokevirtual 280, 3) := by decide +kernel
theorem dX9_worked_47 : decode cX9_worked 47 = .ok (.iconst 4, 1) := by decide +kernel
theorem dX9_worked_48 : decode cX9_worked 48 = .ok (.iadd, 1) := by decide +kernel
theorem dX9_worked_49 : decode cX9_worked 49 = .ok (.iconst 2, 1) := by decide +kernel
theorem dX9_worked_50 : decode cX9_worked 50 = .ok (.iload_n 3, 1) := by decide +kernel
theorem dX9_worked_51 : decode cX9_worked 51 = .ok (.imul, 1) := by decide +kernel
theorem dX9_worked_52 : decode cX9_worked 52 = .ok (.iadd, 1) := by decide +kernel
theorem dX9_worked_53 : decode cX9_worked 53 = .ok (.iconst 1, 1) := by decide +kernel
theorem dX9_worked_54 : decode cX9_worked 54 = .ok (.iadd, 1) := by decide +kernel
theorem dX9_worked_55 : decode cX9_worked 55 = .ok (.iaload, 1) := by decide +kernel
theorem dX9_worked_56 : decode cX9_worked 56 = .ok (.istore 5, 2) := by decide +kernel
theorem dX9_worked_58 : decode cX9_worked 58 = .ok (.iload 4, 2) := by decide +kernel
theorem dX9_worked_60 : decode cX9_worked 60 = .ok (.iconst 2, 1) := by decide +kernel
theorem dX9_worked_61 : decode cX9_worked 61 = .ok (.if_icmp .eq 32, 3) := by decide +kernel
theorem dX9_worked_64 : decode cX9_worked 64 = .ok (.aload_n 0, 1) := by decide +kernel
theorem dX9_worked_65 : decode cX9_worked 65 = .ok (.getfield 49, 3) := by decide +kernel
theorem dX9_worked_68 : decode cX9_worked 68 = .ok (.iload_n 2, 1) := by decide +kernel
theorem dX9_worked_69 : decode cX9_worked 69 = .ok (.iload 4, 2) := by decide +kernel
theorem dX9_worked_71 : decode cX9_worked 71 = .ok (.ifCond .ne 8, 3) := by decide +kernel
theorem dX9_worked_74 : decode cX9_worked 74 = .ok (.iload 5, 2) := by decide +kernel
theorem dX9_worked_76 : decode cX9_worked 76 = .ok (.goto 10, 3) := by decide +kernel
theorem dX9_worked_79 : decode cX9_worked 79 = .ok (.aload_n 0, 1) := by decide +kernel
theorem dX9_worked_80 : decode cX9_worked 80 = .ok (.getfield 46, 3) := by decide +kernel
theorem dX9_worked_83 : decode cX9_worked 83 = .ok (.iload 5, 2) := by decide +kernel
theorem dX9_worked_85 : decode cX9_worked 85 = .ok (.iaload, 1) := by decide +kernel
theorem dX9_worked_86 : decode cX9_worked 86 = .ok (.iastore, 1) := by decide +kernel
theorem dX9_worked_87 : decode cX9_worked 87 = .ok (.iinc 2 1, 3) := by decide +kernel
theorem dX9_worked_90 : decode cX9_worked 90 = .ok (.goto 67, 3) := by decide +kernel
theorem dX9_worked_93 : decode cX9_worked 93 = .ok (.iload 5, 2) := by decide +kernel
theorem dX9_worked_95 : decode cX9_worked 95 = .ok (.bipush 33, 2) := by decide +kernel
theorem dX9_worked_97 : decode cX9_worked 97 = .ok (.if_icmp .ne 30, 3) := by decide +kernel
theorem dX9_worked_100 : decode cX9_worked 100 = .ok (.aload_n 0, 1) := by decide +kernel
theorem dX9_worked_101 : decode cX9_worked 101 = .ok (.getfield 49, 3) := by decide +kernel
theorem dX9_worked_104 : decode cX9_worked 104 = .ok (.iload_n 2, 1) := by decide +kernel
theorem dX9_worked_105 : decode cX9_worked 105 = .ok (.iconst 1, 1) := by decide +kernel
theorem dX9_worked_106 : decode cX9_worked 106 = .ok (.isub, 1) := by decide +kernel
theorem dX9_worked_107 : decode cX9_worked 107 = .ok (.aload_n 0, 1) := by decide +kernel
theorem dX9_worked_108 : decode cX9_worked 108 = .ok (.getfield 49, 3) := by decide +kernel
theorem dX9_worked_111 : decode cX9_worked 111 = .ok (.iload_n 2, 1) := by decide +kernel
theorem dX9_worked_112 : decode cX9_worked 112 = .ok (.iconst 1, 1) := by decide +kernel
theorem dX9_worked_113 : decode cX9_worked 113 = .ok (.isub, 1) := by decide +kernel
theorem dX9_worked_114 : decode cX9_worked 114 = .ok (.iaload, 1) := by decide +kernel
theorem dX9_worked_115 : decode cX9_worked 115 = .ok (.ifCond .ne 7, 3) := by decide +kernel
theorem dX9_worked_118 : decode cX9_worked 118 = .ok (.iconst 1, 1) := by decide +kernel
theorem dX9_worked_119 : decode cX9_worked 119 = .ok (.goto 4, 3) := by decide +kernel
theorem dX9_worked_122 : decode cX9_worked 122 = .ok (.iconst 0, 1) := by decide +kernel
theorem dX9_worked_123 : decode cX9_worked 123 = .ok (.iastore, 1) := by decide +kernel
theorem dX9_worked_124 : decode cX9_worked 124 = .ok (.goto 33, 3) := by decide +kernel
theorem dX9_worked_127 : decode cX9_worked 127 = .ok (.iinc 2 (-1), 3) := by decide +kernel
theorem dX9_worked_130 : decode cX9_worked 130 = .ok (.aload_n 0, 1) := by decide +kernel
theorem dX9_worked_131 : decode cX9_worked 131 = .ok (.getfield 49, 3) := by decide +kernel
theorem dX9_worked_134 : decode cX9_worked 134 = .ok (.iload_n 2, 1) := by decide +kernel
theorem dX9_worked_135 : decode cX9_worked 135 = .ok (.iconst 1, 1) := by decide +kernel
theorem dX9_worked_136 : decode cX9_worked 136 = .ok (.isub, 1) := by decide +kernel
theorem dX9_worked_137 : decode cX9_worked 137 = .ok (.iload 5, 2) := by decide +kernel
theorem dX9_worked_139 : decode cX9_worked 139 = .ok (.aload_n 0, 1) := by decide +kernel
theorem dX9_worked_140 : decode cX9_worked 140 = .ok (.getfield 49, 3) := by decide +kernel
theorem dX9_worked_143 : decode cX9_worked 143 = .ok (.iload_n 2, 1) := by decide +kernel
theorem dX9_worked_144 : decode cX9_worked 144 = .ok (.iconst 1, 1) := by decide +kernel
theorem dX9_worked_145 : decode cX9_worked 145 = .ok (.isub, 1) := by decide +kernel
theorem dX9_worked_146 : decode cX9_worked 146 = .ok (.iaload, 1) := by decide +kernel
theorem dX9_worked_147 : decode cX9_worked 147 = .ok (.aload_n 0, 1) := by decide +kernel
theorem dX9_worked_148 : decode cX9_worked 148 = .ok (.getfield 49, 3) := by decide +kernel
theorem dX9_worked_151 : decode cX9_worked 151 = .ok (.iload_n 2, 1) := by decide +kernel
theorem dX9_worked_152 : decode cX9_worked 152 = .ok (.iaload, 1) := by decide +kernel
theorem dX9_worked_153 : decode cX9_worked 153 = .ok (.invokestatic 294, 3) := by decide +kernel
theorem dX9_worked_156 : decode cX9_worked 156 = .ok (.iastore, 1) := by decide +kernel
theorem dX9_worked_157 : decode cX9_worked 157 = .ok (.iinc 3 1, 3) := by decide +kernel
theorem dX9_worked_160 : decode cX9_worked 160 = .ok (.goto (-156), 3) := by decide +kernel
theorem dX9_worked_163 : decode cX9_worked 163 = .ok (.aload_n 0, 1) := by decide +kernel
theorem dX9_worked_164 : decode cX9_worked 164 = .ok (.getfield 49, 3) := by decide +kernel
theorem dX9_worked_167 : decode cX9_worked 167 = .ok (.iconst 0, 1) := by decide +kernel
theorem dX9_worked_168 : decode cX9_worked 168 = .ok (.iaload, 1) := by decide +kernel
theorem dX9_worked_169 : decode cX9_worked 169 = .ok (.ireturn, 1) := by decide +kernel
theorem dX9_isSheet_0 : decode cX9_isSheet 0 = .ok (.iload_n 0, 1) := by decide +kernel
theorem dX9_isSheet_1 : decode cX9_isSheet 1 = .ok (.i2l, 1) := by decide +kernel
theorem dX9_isSheet_2 : decode cX9_isSheet 2 = .ok (.lconst 0, 1) := by decide +kernel
theorem dX9_isSheet_3 : decode cX9_isSheet 3 = .ok (.ldc2_w 172, 3) := by decide +kernel
theorem dX9_isSheet_6 : decode cX9_isSheet 6 = .ok (.invokestatic 62, 3) := by decide +kernel
theorem dX9_isSheet_9 : decode cX9_isSheet 9 = .ok (.ireturn, 1) := by decide +kernel
theorem dX9_sheet_0 : decode cX9_sheet 0 = .ok (.iload_n 1, 1) := by decide +kernel
theorem dX9_sheet_1 : decode cX9_sheet 1 = .ok (.invokestatic 297, 3) := by decide +kernel
theorem dX9_sheet_4 : decode cX9_sheet 4 = .ok (.ifCond .eq 25, 3) := by decide +kernel
theorem dX9_sheet_7 : decode cX9_sheet 7 = .ok (.iload_n 2, 1) := by decide +kernel
theorem dX9_sheet_8 : decode cX9_sheet 8 = .ok (.i2l, 1) := by decide +kernel
theorem dX9_sheet_9 : decode cX9_sheet 9 = .ok (.ldc2_w 300, 3) := by decide +kernel
theorem dX9_sheet_12 : decode cX9_sheet 12 = .ok (.lconst 1, 1) := by decide +kernel
theorem dX9_sheet_13 : decode cX9_sheet 13 = .ok (.invokestatic 62, 3) := by decide +kernel
theorem dX9_sheet_16 : decode cX9_sheet 16 = .ok (.ifCond .eq 13, 3) := by decide +kernel
theorem dX9_sheet_19 : decode cX9_sheet 19 = .ok (.iload_n 2, 1) := by decide +kernel
theorem dX9_sheet_20 : decode cX9_sheet 20 = .ok (.ifCond .lt 12, 3) := by decide +kernel
theorem dX9_sheet_23 : decode cX9_sheet 23 = .ok (.iload_n 3, 1) := by decide +kernel
theorem dX9_sheet_24 : decode cX9_sheet 24 = .ok (.bipush 24, 2) := by decide +kernel
theorem dX9_sheet_26 : decode cX9_sheet 26 = .ok (.if_icmp .le 6, 3) := by decide +kernel
theorem dX9_sheet_29 : decode cX9_sheet 29 = .ok (.ldc 82, 2) := by decide +kernel
theorem dX9_sheet_31 : decode cX9_sheet 31 = .ok (.ireturn, 1) := by decide +kernel
theorem dX9_sheet_32 : decode cX9_sheet 32 = .ok (.iload_n 2, 1) := by decide +kernel
theorem dX9_sheet_33 : decode cX9_sheet 33 = .ok (.ifCond .lt 11, 3) := by decide +kernel
theorem dX9_sheet_36 : decode cX9_sheet 36 = .ok (.iload_n 3, 1) := by decide +kernel
theorem dX9_sheet_37 : decode cX9_sheet 37 = .ok (.ifCond .ge 7, 3) := by decide +kernel
theorem dX9_sheet_40 : decode cX9_sheet 40 = .ok (.ldc_w 302, 3) := by decide +kernel
theorem dX9_sheet_43 : decode cX9_sheet 43 = .ok (.ireturn, 1) := by decide +kernel
theorem dX9_sheet_44 : decode cX9_sheet 44 = .ok (.aload_n 0, 1) := by decide +kernel
theorem dX9_sheet_45 : decode cX9_sheet 45 = .ok (.getfield 19, 3) := by decide +kernel
theorem dX9_sheet_48 : decode cX9_sheet 48 = .ok (.iload_n 1, 1) := by decide +kernel
theorem dX9_sheet_49 : decode cX9_sheet 49 = .ok (.iload_n 2, 1) := by decide +kernel
theorem dX9_sheet_50 : decode cX9_sheet 50 = .ok (.iastore, 1) := by decide +kernel
theorem dX9_sheet_51 : decode cX9_sheet 51 = .ok (.aload_n 0, 1) := by decide +kernel
theorem dX9_sheet_52 : decode cX9_sheet 52 = .ok (.getfield 22, 3) := by decide +kernel
theorem dX9_sheet_55 : decode cX9_sheet 55 = .ok (.iload_n 1, 1) := by decide +kernel
theorem dX9_sheet_56 : decode cX9_sheet 56 = .ok (.iload_n 2, 1) := by decide +kernel
theorem dX9_sheet_57 : decode cX9_sheet 57 = .ok (.ifCond .ge 7, 3) := by decide +kernel
theorem dX9_sheet_60 : decode cX9_sheet 60 = .ok (.iconst 0, 1) := by decide +kernel
theorem dX9_sheet_61 : decode cX9_sheet 61 = .ok (.goto 4, 3) := by decide +kernel
theorem dX9_sheet_64 : decode cX9_sheet 64 = .ok (.iload_n 3, 1) := by decide +kernel
theorem dX9_sheet_65 : decode cX9_sheet 65 = .ok (.iastore, 1) := by decide +kernel
theorem dX9_sheet_66 : decode cX9_sheet 66 = .ok (.iconst 0, 1) := by decide +kernel
theorem dX9_sheet_67 : decode cX9_sheet 67 = .ok (.istore 4, 2) := by decide +kernel
theorem dX9_sheet_69 : decode cX9_sheet 69 = .ok (.iload 4, 2) := by decide +kernel
theorem dX9_sheet_71 : decode cX9_sheet 71 = .ok (.bipush 24, 2) := by decide +kernel
theorem dX9_sheet_73 : decode cX9_sheet 73 = .ok (.if_icmp .ge 22, 3) := by decide +kernel
theorem dX9_sheet_76 : decode cX9_sheet 76 = .ok (.aload_n 0, 1) := by decide +kernel
theorem dX9_sheet_77 : decode cX9_sheet 77 = .ok (.getfield 25, 3) := by decide +kernel
theorem dX9_sheet_80 : decode cX9_sheet 80 = .ok (.bipush 24, 2) := by decide +kernel
theorem dX9_sheet_82 : decode cX9_sheet 82 = .ok (.iload_n 1, 1) := by decide +kernel
theorem dX9_sheet_83 : decode cX9_sheet 83 = .ok (.imul, 1) := by decide +kernel
theorem dX9_sheet_84 : decode cX9_sheet 84 = .ok (.iload 4, 2) := by decide +kernel
theorem dX9_sheet_86 : decode cX9_sheet 86 = .ok (.iadd, 1) := by decide +kernel
theorem dX9_sheet_87 : decode cX9_sheet 87 = .ok (.iconst 0, 1) := by decide +kernel
theorem dX9_sheet_88 : decode cX9_sheet 88 = .ok (.iastore, 1) := by decide +kernel
theorem dX9_sheet_89 : decode cX9_sheet 89 = .ok (.iinc 4 1, 3) := by decide +kernel
theorem dX9_sheet_92 : decode cX9_sheet 92 = .ok (.goto (-23), 3) := by decide +kernel
theorem dX9_sheet_95 : decode cX9_sheet 95 = .ok (.aload_n 0, 1) := by decide +kernel
theorem dX9_sheet_96 : decode cX9_sheet 96 = .ok (.getfield 22, 3) := by decide +kernel
theorem dX9_sheet_99 : decode cX9_sheet 99 = .ok (.iload_n 1, 1) := by decide +kernel
theorem dX9_sheet_100 : decode cX9_sheet 100 = .ok (.iaload, 1) := by decide +kernel
theorem dX9_sheet_101 : decode cX9_sheet 101 = .ok (.ireturn, 1) := by decide +kernel
theorem dX9_mark_0 : decode cX9_mark 0 = .ok (.iload_n 1, 1) := by decide +kernel
theorem dX9_mark_1 : decode cX9_mark 1 = .ok (.invokestatic 297, 3) := by decide +kernel
theorem dX9_mark_4 : decode cX9_mark 4 = .ok (.ifCond .ne 6, 3) := by decide +kernel
theorem dX9_mark_7 : decode cX9_mark 7 = .ok (.ldc 82, 2) := by decide +kernel
theorem dX9_mark_9 : decode cX9_mark 9 = .ok (.ireturn, 1) := by decide +kernel
theorem dX9_mark_10 : decode cX9_mark 10 = .ok (.aload_n 0, 1) := by decide +kernel
theorem dX9_mark_11 : decode cX9_mark 11 = .ok (.getfield 19, 3) := by decide +kernel
theorem dX9_mark_14 : decode cX9_mark 14 = .ok (.iload_n 1, 1) := by decide +kernel
theorem dX9_mark_15 : decode cX9_mark 15 = .ok (.iaload, 1) := by decide +kernel
theorem dX9_mark_16 : decode cX9_mark 16 = .ok (.ifCond .ge 7, 3) := by decide +kernel
theorem dX9_mark_19 : decode cX9_mark 19 = .ok (.ldc_w 303, 3) := by decide +kernel
theorem dX9_mark_22 : decode cX9_mark 22 = .ok (.ireturn, 1) := by decide +kernel
theorem dX9_mark_23 : decode cX9_mark 23 = .ok (.iload_n 2, 1) := by decide +kernel
theorem dX9_mark_24 : decode cX9_mark 24 = .ok (.i2l, 1) := by decide +kernel
theorem dX9_mark_25 : decode cX9_mark 25 = .ok (.lconst 0, 1) := by decide +kernel
theorem dX9_mark_26 : decode cX9_mark 26 = .ok (.aload_n 0, 1) := by decide +kernel
theorem dX9_mark_27 : decode cX9_mark 27 = .ok (.getfield 22, 3) := by decide +kernel
theorem dX9_mark_30 : decode cX9_mark 30 = .ok (.iload_n 1, 1) := by decide +kernel
theorem dX9_mark_31 : decode cX9_mark 31 = .ok (.iaload, 1) := by decide +kernel
theorem dX9_mark_32 : decode cX9_mark 32 = .ok (.iconst 1, 1) := by decide +kernel
theorem dX9_mark_33 : decode cX9_mark 33 = .ok (.isub, 1) := by decide +kernel
theorem dX9_mark_34 : decode cX9_mark 34 = .ok (.i2l, 1) := by decide +kernel
theorem dX9_mark_35 : decode cX9_mark 35 = .ok (.invokestatic 62, 3) := by decide +kernel
theorem dX9_mark_38 : decode cX9_mark 38 = .ok (.ifCond .ne 7, 3) := by decide +kernel
theorem dX9_mark_41 : decode cX9_mark 41 = .ok (.ldc_w 304, 3) := by decide +kernel
theorem dX9_mark_44 : decode cX9_mark 44 = .ok (.ireturn, 1) := by decide +kernel
theorem dX9_mark_45 : decode cX9_mark 45 = .ok (.aload_n 0, 1) := by decide +kernel
theorem dX9_mark_46 : decode cX9_mark 46 = .ok (.getfield 19, 3) := by decide +kernel
theorem dX9_mark_49 : decode cX9_mark 49 = .ok (.iload_n 1, 1) := by decide +kernel
theorem dX9_mark_50 : decode cX9_mark 50 = .ok (.iaload, 1) := by decide +kernel
theorem dX9_mark_51 : decode cX9_mark 51 = .ok (.ifCond .ne 12, 3) := by decide +kernel
theorem dX9_mark_54 : decode cX9_mark 54 = .ok (.iload_n 3, 1) := by decide +kernel
theorem dX9_mark_55 : decode cX9_mark 55 = .ok (.ldc 61, 2) := by decide +kernel
theorem dX9_mark_57 : decode cX9_mark 57 = .ok (.if_icmp .ne 6, 3) := by decide +kernel
theorem dX9_mark_60 : decode cX9_mark 60 = .ok (.ldc 119, 2) := by decide +kernel
theorem dX9_mark_62 : decode cX9_mark 62 = .ok (.ireturn, 1) := by decide +kernel
theorem dX9_mark_63 : decode cX9_mark 63 = .ok (.aload_n 0, 1) := by decide +kernel
theorem dX9_mark_64 : decode cX9_mark 64 = .ok (.getfield 19, 3) := by decide +kernel
theorem dX9_mark_67 : decode cX9_mark 67 = .ok (.iload_n 1, 1) := by decide +kernel
theorem dX9_mark_68 : decode cX9_mark 68 = .ok (.iaload, 1) := by decide +kernel
theorem dX9_mark_69 : decode cX9_mark 69 = .ok (.iconst 1, 1) := by decide +kernel
theorem dX9_mark_70 : decode cX9_mark 70 = .ok (.if_icmp .ne 26, 3) := by decide +kernel
theorem dX9_mark_73 : decode cX9_mark 73 = .ok (.iload_n 3, 1) := by decide +kernel
theorem dX9_mark_74 : decode cX9_mark 74 = .ok (.ldc 61, 2) := by decide +kernel
theorem dX9_mark_76 : decode cX9_mark 76 = .ok (.if_icmp .eq 20, 3) := by decide +kernel
theorem dX9_mark_79 : decode cX9_mark 79 = .ok (.iload_n 3, 1) := by decide +kernel
theorem dX9_mark_80 : decode cX9_mark 80 = .ok (.i2l, 1) := by decide +kernel
theorem dX9_mark_81 : decode cX9_mark 81 = .ok (.ldc2_w 305, 3) := by decide +kernel
theorem dX9_mark_84 : decode cX9_mark 84 = .ok (.ldc2_w 307, 3) := by decide +kernel
theorem dX9_mark_87 : decode cX9_mark 87 = .ok (.invokestatic 62, 3) := by decide +kernel
theorem dX9_mark_90 : decode cX9_mark 90 = .ok (.ifCond .ne 6, 3) := by decide +kernel
theorem dX9_mark_93 : decode cX9_mark 93 = .ok (.ldc 82, 2) := by decide +kernel
theorem dX9_mark_95 : decode cX9_mark 95 = .ok (.ireturn, 1) := by decide +kernel
theorem dX9_mark_96 : decode cX9_mark 96 = .ok (.aload_n 0, 1) := by decide +kernel
theorem dX9_mark_97 : decode cX9_mark 97 = .ok (.getfield 25, 3) := by decide +kernel
theorem dX9_mark_100 : decode cX9_mark 100 = .ok (.bipush 24, 2) := by decide +kernel
theorem dX9_mark_102 : decode cX9_mark 102 = .ok (.iload_n 1, 1) := by decide +kernel
theorem dX9_mark_103 : decode cX9_mark 103 = .ok (.imul, 1) := by decide +kernel
theorem dX9_mark_104 : decode cX9_mark 104 = .ok (.iload_n 2, 1) := by decide +kernel
theorem dX9_mark_105 : decode cX9_mark 105 = .ok (.iadd, 1) := by decide +kernel
theorem dX9_mark_106 : decode cX9_mark 106 = .ok (.aload_n 0, 1) := by decide +kernel
theorem dX9_mark_107 : decode cX9_mark 107 = .ok (.getfield 19, 3) := by decide +kernel
theorem dX9_mark_110 : decode cX9_mark 110 = .ok (.iload_n 1, 1) := by decide +kernel
theorem dX9_mark_111 : decode cX9_mark 111 = .ok (.iaload, 1) := by decide +kernel
theorem dX9_mark_112 : decode cX9_mark 112 = .ok (.ifCond .ne 13, 3) := by decide +kernel
theorem dX9_mark_115 : decode cX9_mark 115 = .ok (.iload_n 3, 1) := by decide +kernel
theorem dX9_mark_116 : decode cX9_mark 116 = .ok (.bipush 16, 2) := by decide +kernel
theorem dX9_mark_118 : decode cX9_mark 118 = .ok (.ishl, 1) := by decide +kernel
theorem dX9_mark_119 : decode cX9_mark 119 = .ok (.bipush 16, 2) := by decide +kernel
theorem dX9_mark_121 : decode cX9_mark 121 = .ok (.ishr, 1) := by decide +kernel
theorem dX9_mark_122 : decode cX9_mark 122 = .ok (.goto 4, 3) := by decide +kernel
theorem dX9_mark_125 : decode cX9_mark 125 = .ok (.iload_n 3, 1) := by decide +kernel
theorem dX9_mark_126 : decode cX9_mark 126 = .ok (.iastore, 1) := by decide +kernel
theorem dX9_mark_127 : decode cX9_mark 127 = .ok (.iconst 1, 1) := by decide +kernel
theorem dX9_mark_128 : decode cX9_mark 128 = .ok (.ireturn, 1) := by decide +kernel
theorem dX9_pour_0 : decode cX9_pour 0 = .ok (.iload_n 1, 1) := by decide +kernel
theorem dX9_pour_1 : decode cX9_pour 1 = .ok (.invokestatic 297, 3) := by decide +kernel
theorem dX9_pour_4 : decode cX9_pour 4 = .ok (.ifCond .ne 6, 3) := by decide +kernel
theorem dX9_pour_7 : decode cX9_pour 7 = .ok (.ldc 82, 2) := by decide +kernel
theorem dX9_pour_9 : decode cX9_pour 9 = .ok (.ireturn, 1) := by decide +kernel
theorem dX9_pour_10 : decode cX9_pour 10 = .ok (.aload_n 0, 1) := by decide +kernel
theorem dX9_pour_11 : decode cX9_pour 11 = .ok (.getfield 19, 3) := by decide +kernel
theorem dX9_pour_14 : decode cX9_pour 14 = .ok (.iload_n 1, 1) := by decide +kernel
theorem dX9_pour_15 : decode cX9_pour 15 = .ok (.iaload, 1) := by decide +kernel
theorem dX9_pour_16 : decode cX9_pour 16 = .ok (.ifCond .ge 7, 3) := by decide +kernel
theorem dX9_pour_19 : decode cX9_pour 19 = .ok (.ldc_w 303, 3) := by decide +kernel
theorem dX9_pour_22 : decode cX9_pour 22 = .ok (.ireturn, 1) := by decide +kernel
theorem dX9_pour_23 : decode cX9_pour 23 = .ok (.iconst 0, 1) := by decide +kernel
theorem dX9_pour_24 : decode cX9_pour 24 = .ok (.istore_n 2, 1) := by decide +kernel
theorem dX9_pour_25 : decode cX9_pour 25 = .ok (.iconst 0, 1) := by decide +kernel
theorem dX9_pour_26 : decode cX9_pour 26 = .ok (.istore_n 3, 1) := by decide +kernel
theorem dX9_pour_27 : decode cX9_pour 27 = .ok (.iload_n 3, 1) := by decide +kernel
theorem dX9_pour_28 : decode cX9_pour 28 = .ok (.aload_n 0, 1) := by decide +kernel
theorem dX9_pour_29 : decode cX9_pour 29 = .ok (.getfield 22, 3) := by decide +kernel
theorem dX9_pour_32 : decode cX9_pour 32 = .ok (.iload_n 1, 1) := by decide +kernel
theorem dX9_pour_33 : decode cX9_pour 33 = .ok (.iaload, 1) := by decide +kernel
theorem dX9_pour_34 : decode cX9_pour 34 = .ok (.if_icmp .ge 85, 3) := by decide +kernel
theorem dX9_pour_37 : decode cX9_pour 37 = .ok (.iload_n 3, 1) := by decide +kernel
theorem dX9_pour_38 : decode cX9_pour 38 = .ok (.aload_n 0, 1) := by decide +kernel
theorem dX9_pour_39 : decode cX9_pour 39 = .ok (.getfield 7, 3) := by decide +kernel
theorem dX9_pour_42 : decode cX9_pour 42 = .ok (.iconst 0, 1) := by decide +kernel
theorem dX9_pour_43 : decode cX9_pour 43 = .ok (.iaload, 1) := by decide +kernel
theorem dX9_pour_44 : decode cX9_pour 44 = .ok (.if_icmp .ge 75, 3) := by decide +kernel
theorem dX9_pour_47 : decode cX9_pour 47 = .ok (.aload_n 0, 1) := by decide +kernel
theorem dX9_pour_48 : decode cX9_pour 48 = .ok (.getfield 25, 3) := by decide +kernel
theorem dX9_pour_51 : decode cX9_pour 51 = .ok (.bipush 24, 2) := by decide +kernel
theorem dX9_pour_53 : decode cX9_pour 53 = .ok (.iload_n 1, 1) := by decide +kernel
theorem dX9_pour_54 : decode cX9_pour 54 = .ok (.imul, 1) := by decide +kernel
theorem dX9_pour_55 : decode cX9_pour 55 = .ok (.iload_n 3, 1) := by decide +kernel
theorem dX9_pour_56 : decode cX9_pour 56 = .ok (.iadd, 1) := by decide +kernel
theorem dX9_pour_57 : decode cX9_pour 57 = .ok (.iaload, 1) := by decide +kernel
theorem dX9_pour_58 : decode cX9_pour 58 = .ok (.istore 4, 2) := by decide +kernel
theorem dX9_pour_60 : decode cX9_pour 60 = .ok (.aload_n 0, 1) := by decide +kernel
theorem dX9_pour_61 : decode cX9_pour 61 = .ok (.iload_n 3, 1) := by decide +kernel
theorem dX9_pour_62 : decode cX9_pour 62 = .ok (.iconst 2, 1) := by decide +kernel
theorem dX9_pour_63 : decode cX9_pour 63 = .ok (.invokevirtual 67, 3) := by decide +kernel
theorem dX9_pour_66 : decode cX9_pour 66 = .ok (.istore 5, 2) := by decide +kernel
theorem dX9_pour_68 : decode cX9_pour 68 = .ok (.iload 4, 2) := by decide +kernel
theorem dX9_pour_70 : decode cX9_pour 70 = .ok (.ldc 61, 2) := by decide +kernel
theorem dX9_pour_72 : decode cX9_pour 72 = .ok (.if_icmp .ne 8, 3) := by decide +kernel
theorem dX9_pour_75 : decode cX9_pour 75 = .ok (.iload 5, 2) := by decide +kernel
theorem dX9_pour_77 : decode cX9_pour 77 = .ok (.goto 11, 3) := by decide +kernel
theorem dX9_pour_80 : decode cX9_pour 80 = .ok (.iload 4, 2) := by decide +kernel
theorem dX9_pour_82 : decode cX9_pour 82 = .ok (.sipush 999, 3) := by decide +kernel
theorem dX9_pour_85 : decode cX9_pour 85 = .ok (.invokestatic 95, 3) := by decide +kernel
theorem dX9_pour_88 : decode cX9_pour 88 = .ok (.istore 6, 2) := by decide +kernel
theorem dX9_pour_90 : decode cX9_pour 90 = .ok (.aload_n 0, 1) := by decide +kernel
theorem dX9_pour_91 : decode cX9_pour 91 = .ok (.iload_n 3, 1) := by decide +kernel
theorem dX9_pour_92 : decode cX9_pour 92 = .ok (.iconst 2, 1) := by decide +kernel
theorem dX9_pour_93 : decode cX9_pour 93 = .ok (.iload 6, 2) := by decide +kernel
theorem dX9_pour_95 : decode cX9_pour 95 = .ok (.invokevirtual 74, 3) := by decide +kernel
theorem dX9_pour_98 : decode cX9_pour 98 = .ok (.iload_n 2, 1) := by decide +kernel
theorem dX9_pour_99 : decode cX9_pour 99 = .ok (.iload 6, 2) := by decide +kernel
theorem dX9_pour_101 : decode cX9_pour 101 = .ok (.iload 5, 2) := by decide +kernel
theorem dX9_pour_103 : decode cX9_pour 103 = .ok (.if_icmp .ne 7, 3) := by decide +kernel
theorem dX9_pour_106 : decode cX9_pour 106 = .ok (.iconst 0, 1) := by decide +kernel
theorem dX9_pour_107 : decode cX9_pour 107 = .ok (.goto 4, 3) := by decide +kernel
theorem dX9_pour_110 : decode cX9_pour 110 = .ok (.iconst 1, 1) := by decide +kernel
theorem dX9_pour_111 : decode cX9_pour 111 = .ok (.iadd, 1) := by decide +kernel
theorem dX9_pour_112 : decode cX9_pour 112 = .ok (.istore_n 2, 1) := by decide +kernel
theorem dX9_pour_113 : decode cX9_pour 113 = .ok (.iinc 3 1, 3) := by decide +kernel
theorem dX9_pour_116 : decode cX9_pour 116 = .ok (.goto (-89), 3) := by decide +kernel
theorem dX9_pour_119 : decode cX9_pour 119 = .ok (.iload_n 2, 1) := by decide +kernel
theorem dX9_pour_120 : decode cX9_pour 120 = .ok (.ireturn, 1) := by decide +kernel
theorem dX9_reads_0 : decode cX9_reads 0 = .ok (.iload_n 1, 1) := by decide +kernel
theorem dX9_reads_1 : decode cX9_reads 1 = .ok (.invokestatic 297, 3) := by decide +kernel
theorem dX9_reads_4 : decode cX9_reads 4 = .ok (.ifCond .eq 11, 3) := by decide +kernel
theorem dX9_reads_7 : decode cX9_reads 7 = .ok (.aload_n 0, 1) := by decide +kernel
theorem dX9_reads_8 : decode cX9_reads 8 = .ok (.iload_n 2, 1) := by decide +kernel
theorem dX9_reads_9 : decode cX9_reads 9 = .ok (.invokevirtual 105, 3) := by decide +kernel
theorem dX9_reads_12 : decode cX9_reads 12 = .ok (.ifCond .ne 6, 3) := by decide +kernel
theorem dX9_reads_15 : decode cX9_reads 15 = .ok (.ldc 82, 2) := by decide +kernel
theorem dX9_reads_17 : decode cX9_reads 17 = .ok (.ireturn, 1) := by decide +kernel
theorem dX9_reads_18 : decode cX9_reads 18 = .ok (.aload_n 0, 1) := by decide +kernel
theorem dX9_reads_19 : decode cX9_reads 19 = .ok (.getfield 19, 3) := by decide +kernel
theorem dX9_reads_22 : decode cX9_reads 22 = .ok (.iload_n 1, 1) := by decide +kernel
theorem dX9_reads_23 : decode cX9_reads 23 = .ok (.iaload, 1) := by decide +kernel
theorem dX9_reads_24 : decode cX9_reads 24 = .ok (.ifCond .ge 7, 3) := by decide +kernel
theorem dX9_reads_27 : decode cX9_reads 27 = .ok (.ldc_w 303, 3) := by decide +kernel
theorem dX9_reads_30 : decode cX9_reads 30 = .ok (.ireturn, 1) := by decide +kernel
theorem dX9_reads_31 : decode cX9_reads 31 = .ok (.iconst 0, 1) := by decide +kernel
theorem dX9_reads_32 : decode cX9_reads 32 = .ok (.istore_n 3, 1) := by decide +kernel
theorem dX9_reads_33 : decode cX9_reads 33 = .ok (.iload_n 3, 1) := by decide +kernel
theorem dX9_reads_34 : decode cX9_reads 34 = .ok (.aload_n 0, 1) := by decide +kernel
theorem dX9_reads_35 : decode cX9_reads 35 = .ok (.getfield 22, 3) := by decide +kernel
theorem dX9_reads_38 : decode cX9_reads 38 = .ok (.iload_n 1, 1) := by decide +kernel
theorem dX9_reads_39 : decode cX9_reads 39 = .ok (.iaload, 1) := by decide +kernel
theorem dX9_reads_40 : decode cX9_reads 40 = .ok (.if_icmp .ge 42, 3) := by decide +kernel
theorem dX9_reads_43 : decode cX9_reads 43 = .ok (.aload_n 0, 1) := by decide +kernel
theorem dX9_reads_44 : decode cX9_reads 44 = .ok (.getfield 25, 3) := by decide +kernel
theorem dX9_reads_47 : decode cX9_reads 47 = .ok (.bipush 24, 2) := by decide +kernel
theorem dX9_reads_49 : decode cX9_reads 49 = .ok (.iload_n 1, 1) := by decide +kernel
theorem dX9_reads_50 : decode cX9_reads 50 = .ok (.imul, 1) := by decide +kernel
theorem dX9_reads_51 : decode cX9_reads 51 = .ok (.iload_n 3, 1) := by decide +kernel
theorem dX9_reads_52 : decode cX9_reads 52 = .ok (.iadd, 1) := by decide +kernel
theorem dX9_reads_53 : decode cX9_reads 53 = .ok (.iaload, 1) := by decide +kernel
theorem dX9_reads_54 : decode cX9_reads 54 = .ok (.istore 4, 2) := by decide +kernel
theorem dX9_reads_56 : decode cX9_reads 56 = .ok (.iload 4, 2) := by decide +kernel
theorem dX9_reads_58 : decode cX9_reads 58 = .ok (.ldc 61, 2) := by decide +kernel
theorem dX9_reads_60 : decode cX9_reads 60 = .ok (.if_icmp .eq 16, 3) := by decide +kernel
theorem dX9_reads_63 : decode cX9_reads 63 = .ok (.iload 4, 2) := by decide +kernel
theorem dX9_reads_65 : decode cX9_reads 65 = .ok (.aload_n 0, 1) := by decide +kernel
theorem dX9_reads_66 : decode cX9_reads 66 = .ok (.iload_n 2, 1) := by decide +kernel
theorem dX9_reads_67 : decode cX9_reads 67 = .ok (.iload_n 3, 1) := by decide +kernel
theorem dX9_reads_68 : decode cX9_reads 68 = .ok (.invokevirtual 179, 3) := by decide +kernel
theorem dX9_reads_71 : decode cX9_reads 71 = .ok (.if_icmp .eq 5, 3) := by decide +kernel
theorem dX9_reads_74 : decode cX9_reads 74 = .ok (.iload_n 3, 1) := by decide +kernel
theorem dX9_reads_75 : decode cX9_reads 75 = .ok (.ireturn, 1) := by decide +kernel
theorem dX9_reads_76 : decode cX9_reads 76 = .ok (.iinc 3 1, 3) := by decide +kernel
theorem dX9_reads_79 : decode cX9_reads 79 = .ok (.goto (-46), 3) := by decide +kernel
theorem dX9_reads_82 : decode cX9_reads 82 = .ok (.ldc 61, 2) := by decide +kernel
theorem dX9_reads_84 : decode cX9_reads 84 = .ok (.ireturn, 1) := by decide +kernel
theorem dX9_copy_0 : decode cX9_copy 0 = .ok (.iload_n 1, 1) := by decide +kernel
theorem dX9_copy_1 : decode cX9_copy 1 = .ok (.invokestatic 297, 3) := by decide +kernel
theorem dX9_copy_4 : decode cX9_copy 4 = .ok (.ifCond .eq 10, 3) := by decide +kernel
theorem dX9_copy_7 : decode cX9_copy 7 = .ok (.iload_n 3, 1) := by decide +kernel
theorem dX9_copy_8 : decode cX9_copy 8 = .ok (.invokestatic 297, 3) := by decide +kernel
theorem dX9_copy_11 : decode cX9_copy 11 = .ok (.ifCond .ne 6, 3) := by decide +kernel
theorem dX9_copy_14 : decode cX9_copy 14 = .ok (.ldc 82, 2) := by decide +kernel
theorem dX9_copy_16 : decode cX9_copy 16 = .ok (.ireturn, 1) := by decide +kernel
theorem dX9_copy_17 : decode cX9_copy 17 = .ok (.aload_n 0, 1) := by decide +kernel
theorem dX9_copy_18 : decode cX9_copy 18 = .ok (.getfield 19, 3) := by decide +kernel
theorem dX9_copy_21 : decode cX9_copy 21 = .ok (.iload_n 1, 1) := by decide +kernel
theorem dX9_copy_22 : decode cX9_copy 22 = .ok (.iaload, 1) := by decide +kernel
theorem dX9_copy_23 : decode cX9_copy 23 = .ok (.ifCond .lt 12, 3) := by decide +kernel
theorem dX9_copy_26 : decode cX9_copy 26 = .ok (.aload_n 0, 1) := by decide +kernel
theorem dX9_copy_27 : decode cX9_copy 27 = .ok (.getfield 19, 3) := by decide +kernel
theorem dX9_copy_30 : decode cX9_copy 30 = .ok (.iload_n 3, 1) := by decide +kernel
theorem dX9_copy_31 : decode cX9_copy 31 = .ok (.iaload, 1) := by decide +kernel
theorem dX9_copy_32 : decode cX9_copy 32 = .ok (.ifCond .ge 7, 3) := by decide +kernel
theorem dX9_copy_35 : decode cX9_copy 35 = .ok (.ldc_w 303, 3) := by decide +kernel
theorem dX9_copy_38 : decode cX9_copy 38 = .ok (.ireturn, 1) := by decide +kernel
theorem dX9_copy_39 : decode cX9_copy 39 = .ok (.aload_n 0, 1) := by decide +kernel
theorem dX9_copy_40 : decode cX9_copy 40 = .ok (.getfield 19, 3) := by decide +kernel
theorem dX9_copy_43 : decode cX9_copy 43 = .ok (.iload_n 1, 1) := by decide +kernel
theorem dX9_copy_44 : decode cX9_copy 44 = .ok (.iaload, 1) := by decide +kernel
theorem dX9_copy_45 : decode cX9_copy 45 = .ok (.aload_n 0, 1) := by decide +kernel
theorem dX9_copy_46 : decode cX9_copy 46 = .ok (.getfield 19, 3) := by decide +kernel
theorem dX9_copy_49 : decode cX9_copy 49 = .ok (.iload_n 3, 1) := by decide +kernel
theorem dX9_copy_50 : decode cX9_copy 50 = .ok (.iaload, 1) := by decide +kernel
theorem dX9_copy_51 : decode cX9_copy 51 = .ok (.if_icmp .eq 6, 3) := by decide +kernel
theorem dX9_copy_54 : decode cX9_copy 54 = .ok (.ldc 119, 2) := by decide +kernel
theorem dX9_copy_56 : decode cX9_copy 56 = .ok (.ireturn, 1) := by decide +kernel
theorem dX9_copy_57 : decode cX9_copy 57 = .ok (.iload_n 2, 1) := by decide +kernel
theorem dX9_copy_58 : decode cX9_copy 58 = .ok (.ifCond .lt 48, 3) := by decide +kernel
theorem dX9_copy_61 : decode cX9_copy 61 = .ok (.iload 4, 2) := by decide +kernel
theorem dX9_copy_63 : decode cX9_copy 63 = .ok (.ifCond .lt 43, 3) := by decide +kernel
theorem dX9_copy_66 : decode cX9_copy 66 = .ok (.iload 5, 2) := by decide +kernel
theorem dX9_copy_68 : decode cX9_copy 68 = .ok (.ifCond .lt 38, 3) := by decide +kernel
theorem dX9_copy_71 : decode cX9_copy 71 = .ok (.iload_n 2, 1) := by decide +kernel
theorem dX9_copy_72 : decode cX9_copy 72 = .ok (.i2l, 1) := by decide +kernel
theorem dX9_copy_73 : decode cX9_copy 73 = .ok (.iload 5, 2) := by decide +kernel
theorem dX9_copy_75 : decode cX9_copy 75 = .ok (.i2l, 1) := by decide +kernel
theorem dX9_copy_76 : decode cX9_copy 76 = .ok (.ladd, 1) := by decide +kernel
theorem dX9_copy_77 : decode cX9_copy 77 = .ok (.aload_n 0, 1) := by decide +kernel
theorem dX9_copy_78 : decode cX9_copy 78 = .ok (.getfield 22, 3) := by decide +kernel
theorem dX9_copy_81 : decode cX9_copy 81 = .ok (.iload_n 1, 1) := by decide +kernel
theorem dX9_copy_82 : decode cX9_copy 82 = .ok (.iaload, 1) := by decide +kernel
theorem dX9_copy_83 : decode cX9_copy 83 = .ok (.i2l, 1) := by decide +kernel
theorem dX9_copy_84 : decode cX9_copy 84 = .ok (.lcmp, 1) := by decide +kernel
theorem dX9_copy_85 : decode cX9_copy 85 = .ok (.ifCond .gt 21, 3) := by decide +kernel
theorem dX9_copy_88 : decode cX9_copy 88 = .ok (.iload 4, 2) := by decide +kernel
theorem dX9_copy_90 : decode cX9_copy 90 = .ok (.i2l, 1) := by decide +kernel
theorem dX9_copy_91 : decode cX9_copy 91 = .ok (.iload 5, 2) := by decide +kernel
theorem dX9_copy_93 : decode cX9_copy 93 = .ok (.i2l, 1) := by decide +kernel
theorem dX9_copy_94 : decode cX9_copy 94 = .ok (.ladd, 1) := by decide +kernel
theorem dX9_copy_95 : decode cX9_copy 95 = .ok (.aload_n 0, 1) := by decide +kernel
theorem dX9_copy_96 : decode cX9_copy 96 = .ok (.getfield 22, 3) := by decide +kernel
theorem dX9_copy_99 : decode cX9_copy 99 = .ok (.iload_n 3, 1) := by decide +kernel
theorem dX9_copy_100 : decode cX9_copy 100 = .ok (.iaload, 1) := by decide +kernel
theorem dX9_copy_101 : decode cX9_copy 101 = .ok (.i2l, 1) := by decide +kernel
theorem dX9_copy_102 : decode cX9_copy 102 = .ok (.lcmp, 1) := by decide +kernel
theorem dX9_copy_103 : decode cX9_copy 103 = .ok (.ifCond .le 7, 3) := by decide +kernel
theorem dX9_copy_106 : decode cX9_copy 106 = .ok (.ldc_w 304, 3) := by decide +kernel
theorem dX9_copy_109 : decode cX9_copy 109 = .ok (.ireturn, 1) := by decide +kernel
theorem dX9_copy_110 : decode cX9_copy 110 = .ok (.iconst 0, 1) := by decide +kernel
theorem dX9_copy_111 : decode cX9_copy 111 = .ok (.istore 6, 2) := by decide +kernel
theorem dX9_copy_113 : decode cX9_copy 113 = .ok (.iload 6, 2) := by decide +kernel
theorem dX9_copy_115 : decode cX9_copy 115 = .ok (.iload 5, 2) := by decide +kernel
theorem dX9_copy_117 : decode cX9_copy 117 = .ok (.if_icmp .ge 30, 3) := by decide +kernel
theorem dX9_copy_120 : decode cX9_copy 120 = .ok (.aload_n 0, 1) := by decide +kernel
theorem dX9_copy_121 : decode cX9_copy 121 = .ok (.getfield 52, 3) := by decide +kernel
theorem dX9_copy_124 : decode cX9_copy 124 = .ok (.iload 6, 2) := by decide +kernel
theorem dX9_copy_126 : decode cX9_copy 126 = .ok (.aload_n 0, 1) := by decide +kernel
theorem dX9_copy_127 : decode cX9_copy 127 = .ok (.getfield 25, 3) := by decide +kernel
theorem dX9_copy_130 : decode cX9_copy 130 = .ok (.bipush 24, 2) := by decide +kernel
theorem dX9_copy_132 : decode cX9_copy 132 = .ok (.iload_n 1, 1) := by decide +kernel
theorem dX9_copy_133 : decode cX9_copy 133 = .ok (.imul, 1) := by decide +kernel
theorem dX9_copy_134 : decode cX9_copy 134 = .ok (.iload_n 2, 1) := by decide +kernel
theorem dX9_copy_135 : decode cX9_copy 135 = .ok (.iadd, 1) := by decide +kernel
theorem dX9_copy_136 : decode cX9_copy 136 = .ok (.iload 6, 2) := by decide +kernel
theorem dX9_copy_138 : decode cX9_copy 138 = .ok (.iadd, 1) := by decide +kernel
theorem dX9_copy_139 : decode cX9_copy 139 = .ok (.iaload, 1) := by decide +kernel
theorem dX9_copy_140 : decode cX9_copy 140 = .ok (.iastore, 1) := by decide +kernel
theorem dX9_copy_141 : decode cX9_copy 141 = .ok (.iinc 6 1, 3) := by decide +kernel
theorem dX9_copy_144 : decode cX9_copy 144 = .ok (.goto (-31), 3) := by decide +kernel
theorem dX9_copy_147 : decode cX9_copy 147 = .ok (.iconst 0, 1) := by decide +kernel
theorem dX9_copy_148 : decode cX9_copy 148 = .ok (.istore 6, 2) := by decide +kernel
theorem dX9_copy_150 : decode cX9_copy 150 = .ok (.iload 6, 2) := by decide +kernel
theorem dX9_copy_152 : decode cX9_copy 152 = .ok (.iload 5, 2) := by decide +kernel
theorem dX9_copy_154 : decode cX9_copy 154 = .ok (.if_icmp .ge 31, 3) := by decide +kernel
theorem dX9_copy_157 : decode cX9_copy 157 = .ok (.aload_n 0, 1) := by decide +kernel
theorem dX9_copy_158 : decode cX9_copy 158 = .ok (.getfield 25, 3) := by decide +kernel
theorem dX9_copy_161 : decode cX9_copy 161 = .ok (.bipush 24, 2) := by decide +kernel
theorem dX9_copy_163 : decode cX9_copy 163 = .ok (.iload_n 3, 1) := by decide +kernel
theorem dX9_copy_164 : decode cX9_copy 164 = .ok (.imul, 1) := by decide +kernel
theorem dX9_copy_165 : decode cX9_copy 165 = .ok (.iload 4, 2) := by decide +kernel
theorem dX9_copy_167 : decode cX9_copy 167 = .ok (.iadd, 1) := by decide +kernel
theorem dX9_copy_168 : decode cX9_copy 168 = .ok (.iload 6, 2) := by decide +kernel
theorem dX9_copy_170 : decode cX9_copy 170 = .ok (.iadd, 1) := by decide +kernel
theorem dX9_copy_171 : decode cX9_copy 171 = .ok (.aload_n 0, 1) := by decide +kernel
theorem dX9_copy_172 : decode cX9_copy 172 = .ok (.getfield 52, 3) := by decide +kernel
theorem dX9_copy_175 : decode cX9_copy 175 = .ok (.iload 6, 2) := by decide +kernel
theorem dX9_copy_177 : decode cX9_copy 177 = .ok (.iaload, 1) := by decide +kernel
theorem dX9_copy_178 : decode cX9_copy 178 = .ok (.iastore, 1) := by decide +kernel
theorem dX9_copy_179 : decode cX9_copy 179 = .ok (.iinc 6 1, 3) := by decide +kernel
theorem dX9_copy_182 : decode cX9_copy 182 = .ok (.goto (-32), 3) := by decide +kernel
theorem dX9_copy_185 : decode cX9_copy 185 = .ok (.iload 5, 2) := by decide +kernel
theorem dX9_copy_187 : decode cX9_copy 187 = .ok (.ireturn, 1) := by decide +kernel
theorem dX9_isSlot_0 : decode cX9_isSlot 0 = .ok (.iload_n 0, 1) := by decide +kernel
theorem dX9_isSlot_1 : decode cX9_isSlot 1 = .ok (.i2l, 1) := by decide +kernel
theorem dX9_isSlot_2 : decode cX9_isSlot 2 = .ok (.lconst 0, 1) := by decide +kernel
theorem dX9_isSlot_3 : decode cX9_isSlot 3 = .ok (.ldc2_w 309, 3) := by decide +kernel
theorem dX9_isSlot_6 : decode cX9_isSlot 6 = .ok (.invokestatic 62, 3) := by decide +kernel
theorem dX9_isSlot_9 : decode cX9_isSlot 9 = .ok (.ireturn, 1) := by decide +kernel
theorem dX9_lay_0 : decode cX9_lay 0 = .ok (.iload_n 2, 1) := by decide +kernel
theorem dX9_lay_1 : decode cX9_lay 1 = .ok (.ifCond .eq 33, 3) := by decide +kernel
theorem dX9_lay_4 : decode cX9_lay 4 = .ok (.iload_n 2, 1) := by decide +kernel
theorem dX9_lay_5 : decode cX9_lay 5 = .ok (.iconst 3, 1) := by decide +kernel
theorem dX9_lay_6 : decode cX9_lay 6 = .ok (.if_icmp .eq 28, 3) := by decide +kernel
theorem dX9_lay_9 : decode cX9_lay 9 = .ok (.iload_n 2, 1) := by decide +kernel
theorem dX9_lay_10 : decode cX9_lay 10 = .ok (.iconst 1, 1) := by decide +kernel
theorem dX9_lay_11 : decode cX9_lay 11 = .ok (.if_icmp .ne 11, 3) := by decide +kernel
theorem dX9_lay_14 : decode cX9_lay 14 = .ok (.aload_n 0, 1) := by decide +kernel
theorem dX9_lay_15 : decode cX9_lay 15 = .ok (.iload_n 3, 1) := by decide +kernel
theorem dX9_lay_16 : decode cX9_lay 16 = .ok (.invokevirtual 105, 3) := by decide +kernel
theorem dX9_lay_19 : decode cX9_lay 19 = .ok (.ifCond .ne 15, 3) := by decide +kernel
theorem dX9_lay_22 : decode cX9_lay 22 = .ok (.iload_n 2, 1) := by decide +kernel
theorem dX9_lay_23 : decode cX9_lay 23 = .ok (.iconst 2, 1) := by decide +kernel
theorem dX9_lay_24 : decode cX9_lay 24 = .ok (.if_icmp .ne 14, 3) := by decide +kernel
theorem dX9_lay_27 : decode cX9_lay 27 = .ok (.iload_n 3, 1) := by decide +kernel
theorem dX9_lay_28 : decode cX9_lay 28 = .ok (.invokestatic 297, 3) := by decide +kernel
theorem dX9_lay_31 : decode cX9_lay 31 = .ok (.ifCond .eq 7, 3) := by decide +kernel
theorem dX9_lay_34 : decode cX9_lay 34 = .ok (.iconst 1, 1) := by decide +kernel
theorem dX9_lay_35 : decode cX9_lay 35 = .ok (.goto 4, 3) := by decide +kernel
theorem dX9_lay_38 : decode cX9_lay 38 = .ok (.iconst 0, 1) := by decide +kernel
theorem dX9_lay_39 : decode cX9_lay 39 = .ok (.istore 4, 2) := by decide +kernel
theorem dX9_lay_41 : decode cX9_lay 41 = .ok (.iload_n 1, 1) := by decide +kernel
theorem dX9_lay_42 : decode cX9_lay 42 = .ok (.invokestatic 311, 3) := by decide +kernel
theorem dX9_lay_45 : decode cX9_lay 45 = .ok (.ifCond .eq 8, 3) := by decide +kernel
theorem dX9_lay_48 : decode cX9_lay 48 = .ok (.iload 4, 2) := by decide +kernel
theorem dX9_lay_50 : decode cX9_lay 50 = .ok (.ifCond .ne 6, 3) := by decide +kernel
theorem dX9_lay_53 : decode cX9_lay 53 = .ok (.ldc 82, 2) := by decide +kernel
theorem dX9_lay_55 : decode cX9_lay 55 = .ok (.ireturn, 1) := by decide +kernel
theorem dX9_lay_56 : decode cX9_lay 56 = .ok (.iload_n 2, 1) := by decide +kernel
theorem dX9_lay_57 : decode cX9_lay 57 = .ok (.iconst 2, 1) := by decide +kernel
theorem dX9_lay_58 : decode cX9_lay 58 = .ok (.if_icmp .ne 16, 3) := by decide +kernel
theorem dX9_lay_61 : decode cX9_lay 61 = .ok (.aload_n 0, 1) := by decide +kernel
theorem dX9_lay_62 : decode cX9_lay 62 = .ok (.getfield 19, 3) := by decide +kernel
theorem dX9_lay_65 : decode cX9_lay 65 = .ok (.iload_n 3, 1) := by decide +kernel
theorem dX9_lay_66 : decode cX9_lay 66 = .ok (.iaload, 1) := by decide +kernel
theorem dX9_lay_67 : decode cX9_lay 67 = .ok (.ifCond .ge 7, 3) := by decide +kernel
theorem dX9_lay_70 : decode cX9_lay 70 = .ok (.ldc_w 303, 3) := by decide +kernel
theorem dX9_lay_73 : decode cX9_lay 73 = .ok (.ireturn, 1) := by decide +kernel
theorem dX9_lay_74 : decode cX9_lay 74 = .ok (.aload_n 0, 1) := by decide +kernel
theorem dX9_lay_75 : decode cX9_lay 75 = .ok (.getfield 28, 3) := by decide +kernel
theorem dX9_lay_78 : decode cX9_lay 78 = .ok (.iload_n 1, 1) := by decide +kernel
theorem dX9_lay_79 : decode cX9_lay 79 = .ok (.iaload, 1) := by decide +kernel
theorem dX9_lay_80 : decode cX9_lay 80 = .ok (.istore 5, 2) := by decide +kernel
theorem dX9_lay_82 : decode cX9_lay 82 = .ok (.aload_n 0, 1) := by decide +kernel
theorem dX9_lay_83 : decode cX9_lay 83 = .ok (.getfield 28, 3) := by decide +kernel
theorem dX9_lay_86 : decode cX9_lay 86 = .ok (.iload_n 1, 1) := by decide +kernel
theorem dX9_lay_87 : decode cX9_lay 87 = .ok (.iload_n 2, 1) := by decide +kernel
theorem dX9_lay_88 : decode cX9_lay 88 = .ok (.iastore, 1) := by decide +kernel
theorem dX9_lay_89 : decode cX9_lay 89 = .ok (.aload_n 0, 1) := by decide +kernel
theorem dX9_lay_90 : decode cX9_lay 90 = .ok (.getfield 31, 3) := by decide +kernel
theorem dX9_lay_93 : decode cX9_lay 93 = .ok (.iload_n 1, 1) := by decide +kernel
theorem dX9_lay_94 : decode cX9_lay 94 = .ok (.iload_n 2, 1) := by decide +kernel
theorem dX9_lay_95 : decode cX9_lay 95 = .ok (.iconst 1, 1) := by decide +kernel
theorem dX9_lay_96 : decode cX9_lay 96 = .ok (.if_icmp .ne 12, 3) := by decide +kernel
theorem dX9_lay_99 : decode cX9_lay 99 = .ok (.aload_n 0, 1) := by decide +kernel
theorem dX9_lay_100 : decode cX9_lay 100 = .ok (.iload_n 3, 1) := by decide +kernel
theorem dX9_lay_101 : decode cX9_lay 101 = .ok (.iconst 0, 1) := by decide +kernel
theorem dX9_lay_102 : decode cX9_lay 102 = .ok (.invokevirtual 67, 3) := by decide +kernel
theorem dX9_lay_105 : decode cX9_lay 105 = .ok (.goto 4, 3) := by decide +kernel
theorem dX9_lay_108 : decode cX9_lay 108 = .ok (.iload_n 3, 1) := by decide +kernel
theorem dX9_lay_109 : decode cX9_lay 109 = .ok (.iastore, 1) := by decide +kernel
theorem dX9_lay_110 : decode cX9_lay 110 = .ok (.aload_n 0, 1) := by decide +kernel
theorem dX9_lay_111 : decode cX9_lay 111 = .ok (.getfield 34, 3) := by decide +kernel
theorem dX9_lay_114 : decode cX9_lay 114 = .ok (.iload_n 1, 1) := by decide +kernel
theorem dX9_lay_115 : decode cX9_lay 115 = .ok (.iload_n 2, 1) := by decide +kernel
theorem dX9_lay_116 : decode cX9_lay 116 = .ok (.iconst 1, 1) := by decide +kernel
theorem dX9_lay_117 : decode cX9_lay 117 = .ok (.if_icmp .ne 11, 3) := by decide +kernel
theorem dX9_lay_120 : decode cX9_lay 120 = .ok (.aload_n 0, 1) := by decide +kernel
theorem dX9_lay_121 : decode cX9_lay 121 = .ok (.iload_n 3, 1) := by decide +kernel
theorem dX9_lay_122 : decode cX9_lay 122 = .ok (.invokevirtual 112, 3) := by decide +kernel
theorem dX9_lay_125 : decode cX9_lay 125 = .ok (.goto 4, 3) := by decide +kernel
theorem dX9_lay_128 : decode cX9_lay 128 = .ok (.iconst 0, 1) := by decide +kernel
theorem dX9_lay_129 : decode cX9_lay 129 = .ok (.iastore, 1) := by decide +kernel
theorem dX9_lay_130 : decode cX9_lay 130 = .ok (.iload_n 2, 1) := by decide +kernel
theorem dX9_lay_131 : decode cX9_lay 131 = .ok (.iconst 2, 1) := by decide +kernel
theorem dX9_lay_132 : decode cX9_lay 132 = .ok (.if_icmp .ne 55, 3) := by decide +kernel
theorem dX9_lay_135 : decode cX9_lay 135 = .ok (.aload_n 0, 1) := by decide +kernel
theorem dX9_lay_136 : decode cX9_lay 136 = .ok (.getfield 37, 3) := by decide +kernel
theorem dX9_lay_139 : decode cX9_lay 139 = .ok (.iload_n 1, 1) := by decide +kernel
theorem dX9_lay_140 : decode cX9_lay 140 = .ok (.aload_n 0, 1) := by decide +kernel
theorem dX9_lay_141 : decode cX9_lay 141 = .ok (.getfield 22, 3) := by decide +kernel
theorem dX9_lay_144 : decode cX9_lay 144 = .ok (.iload_n 3, 1) := by decide +kernel
theorem dX9_lay_145 : decode cX9_lay 145 = .ok (.iaload, 1) := by decide +kernel
theorem dX9_lay_146 : decode cX9_lay 146 = .ok (.iastore, 1) := by decide +kernel
theorem dX9_lay_147 : decode cX9_lay 147 = .ok (.iconst 0, 1) := by decide +kernel
theorem dX9_lay_148 : decode cX9_lay 148 = .ok (.istore 6, 2) := by decide +kernel
theorem dX9_lay_150 : decode cX9_lay 150 = .ok (.iload 6, 2) := by decide +kernel
theorem dX9_lay_152 : decode cX9_lay 152 = .ok (.bipush 24, 2) := by decide +kernel
theorem dX9_lay_154 : decode cX9_lay 154 = .ok (.if_icmp .ge 33, 3) := by decide +kernel
theorem dX9_lay_157 : decode cX9_lay 157 = .ok (.aload_n 0, 1) := by decide +kernel
theorem dX9_lay_158 : decode cX9_lay 158 = .ok (.getfield 40, 3) := by decide +kernel
theorem dX9_lay_161 : decode cX9_lay 161 = .ok (.bipush 24, 2) := by decide +kernel
theorem dX9_lay_163 : decode cX9_lay 163 = .ok (.iload_n 1, 1) := by decide +kernel
theorem dX9_lay_164 : decode cX9_lay 164 = .ok (.imul, 1) := by decide +kernel
theorem dX9_lay_165 : decode cX9_lay 165 = .ok (.iload 6, 2) := by decide +kernel
theorem dX9_lay_167 : decode cX9_lay 167 = .ok (.iadd, 1) := by decide +kernel
theorem dX9_lay_168 : decode cX9_lay 168 = .ok (.aload_n 0, 1) := by decide +kernel
theorem dX9_lay_169 : decode cX9_lay 169 = .ok (.getfield 25, 3) := by decide +kernel
theorem dX9_lay_172 : decode cX9_lay 172 = .ok (.bipush 24, 2) := by decide +kernel
theorem dX9_lay_174 : decode cX9_lay 174 = .ok (.iload_n 3, 1) := by decide +kernel
theorem dX9_lay_175 : decode cX9_lay 175 = .ok (.imul, 1) := by decide +kernel
theorem dX9_lay_176 : decode cX9_lay 176 = .ok (.iload 6, 2) := by decide +kernel
theorem dX9_lay_178 : decode cX9_lay 178 = .ok (.iadd, 1) := by decide +kernel
theorem dX9_lay_179 : decode cX9_lay 179 = .ok (.iaload, 1) := by decide +kernel
theorem dX9_lay_180 : decode cX9_lay 180 = .ok (.iastore, 1) := by decide +kernel
theorem dX9_lay_181 : decode cX9_lay 181 = .ok (.iinc 6 1, 3) := by decide +kernel
theorem dX9_lay_184 : decode cX9_lay 184 = .ok (.goto (-34), 3) := by decide +kernel
theorem dX9_lay_187 : decode cX9_lay 187 = .ok (.iload 5, 2) := by decide +kernel
theorem dX9_lay_189 : decode cX9_lay 189 = .ok (.ireturn, 1) := by decide +kernel
theorem dX9_ask_0 : decode cX9_ask 0 = .ok (.iload_n 1, 1) := by decide +kernel
theorem dX9_ask_1 : decode cX9_ask 1 = .ok (.invokestatic 311, 3) := by decide +kernel
theorem dX9_ask_4 : decode cX9_ask 4 = .ok (.ifCond .eq 15, 3) := by decide +kernel
theorem dX9_ask_7 : decode cX9_ask 7 = .ok (.iload_n 2, 1) := by decide +kernel
theorem dX9_ask_8 : decode cX9_ask 8 = .ok (.i2l, 1) := by decide +kernel
theorem dX9_ask_9 : decode cX9_ask 9 = .ok (.lconst 0, 1) := by decide +kernel
theorem dX9_ask_10 : decode cX9_ask 10 = .ok (.ldc2_w 78, 3) := by decide +kernel
theorem dX9_ask_13 : decode cX9_ask 13 = .ok (.invokestatic 62, 3) := by decide +kernel
theorem dX9_ask_16 : decode cX9_ask 16 = .ok (.ifCond .ne 6, 3) := by decide +kernel
theorem dX9_ask_19 : decode cX9_ask 19 = .ok (.ldc 82, 2) := by decide +kernel
theorem dX9_ask_21 : decode cX9_ask 21 = .ok (.ireturn, 1) := by decide +kernel
theorem dX9_ask_22 : decode cX9_ask 22 = .ok (.aload_n 0, 1) := by decide +kernel
theorem dX9_ask_23 : decode cX9_ask 23 = .ok (.getfield 28, 3) := by decide +kernel
theorem dX9_ask_26 : decode cX9_ask 26 = .ok (.iload_n 1, 1) := by decide +kernel
theorem dX9_ask_27 : decode cX9_ask 27 = .ok (.iaload, 1) := by decide +kernel
theorem dX9_ask_28 : decode cX9_ask 28 = .ok (.ifCond .ne 7, 3) := by decide +kernel
theorem dX9_ask_31 : decode cX9_ask 31 = .ok (.ldc_w 303, 3) := by decide +kernel
theorem dX9_ask_34 : decode cX9_ask 34 = .ok (.ireturn, 1) := by decide +kernel
theorem dX9_ask_35 : decode cX9_ask 35 = .ok (.aload_n 0, 1) := by decide +kernel
theorem dX9_ask_36 : decode cX9_ask 36 = .ok (.getfield 28, 3) := by decide +kernel
theorem dX9_ask_39 : decode cX9_ask 39 = .ok (.iload_n 1, 1) := by decide +kernel
theorem dX9_ask_40 : decode cX9_ask 40 = .ok (.iaload, 1) := by decide +kernel
theorem dX9_ask_41 : decode cX9_ask 41 = .ok (.iconst 1, 1) := by decide +kernel
theorem dX9_ask_42 : decode cX9_ask 42 = .ok (.if_icmp .ne 25, 3) := by decide +kernel
theorem dX9_ask_45 : decode cX9_ask 45 = .ok (.aload_n 0, 1) := by decide +kernel
theorem dX9_ask_46 : decode cX9_ask 46 = .ok (.getfield 31, 3) := by decide +kernel
theorem dX9_ask_49 : decode cX9_ask 49 = .ok (.iload_n 1, 1) := by decide +kernel
theorem dX9_ask_50 : decode cX9_ask 50 = .ok (.iaload, 1) := by decide +kernel
theorem dX9_ask_51 : decode cX9_ask 51 = .ok (.iload_n 2, 1) := by decide +kernel
theorem dX9_ask_52 : decode cX9_ask 52 = .ok (.invokestatic 115, 3) := by decide +kernel
theorem dX9_ask_55 : decode cX9_ask 55 = .ok (.ifCond .eq 12, 3) := by decide +kernel
theorem dX9_ask_58 : decode cX9_ask 58 = .ok (.aload_n 0, 1) := by decide +kernel
theorem dX9_ask_59 : decode cX9_ask 59 = .ok (.getfield 34, 3) := by decide +kernel
theorem dX9_ask_62 : decode cX9_ask 62 = .ok (.iload_n 1, 1) := by decide +kernel
theorem dX9_ask_63 : decode cX9_ask 63 = .ok (.iaload, 1) := by decide +kernel
theorem dX9_ask_64 : decode cX9_ask 64 = .ok (.goto 5, 3) := by decide +kernel
theorem dX9_ask_67 : decode cX9_ask 67 = .ok (.ldc 119, 2) := by decide +kernel
theorem dX9_ask_69 : decode cX9_ask 69 = .ok (.ireturn, 1) := by decide +kernel
theorem dX9_item_0 : decode cX9_item 0 = .ok (.iload_n 1, 1) := by decide +kernel
theorem dX9_item_1 : decode cX9_item 1 = .ok (.invokestatic 311, 3) := by decide +kernel
theorem dX9_item_4 : decode cX9_item 4 = .ok (.ifCond .ne 6, 3) := by decide +kernel
theorem dX9_item_7 : decode cX9_item 7 = .ok (.ldc 82, 2) := by decide +kernel
theorem dX9_item_9 : decode cX9_item 9 = .ok (.ireturn, 1) := by decide +kernel
theorem dX9_item_10 : decode cX9_item 10 = .ok (.aload_n 0, 1) := by decide +kernel
theorem dX9_item_11 : decode cX9_item 11 = .ok (.getfield 28, 3) := by decide +kernel
theorem dX9_item_14 : decode cX9_item 14 = .ok (.iload_n 1, 1) := by decide +kernel
theorem dX9_item_15 : decode cX9_item 15 = .ok (.iaload, 1) := by decide +kernel
theorem dX9_item_16 : decode cX9_item 16 = .ok (.iconst 2, 1) := by decide +kernel
theorem dX9_item_17 : decode cX9_item 17 = .ok (.if_icmp .eq 21, 3) := by decide +kernel
theorem dX9_item_20 : decode cX9_item 20 = .ok (.aload_n 0, 1) := by decide +kernel
theorem dX9_item_21 : decode cX9_item 21 = .ok (.getfield 28, 3) := by decide +kernel
theorem dX9_item_24 : decode cX9_item 24 = .ok (.iload_n 1, 1) := by decide +kernel
theorem dX9_item_25 : decode cX9_item 25 = .ok (.iaload, 1) := by decide +kernel
theorem dX9_item_26 : decode cX9_item 26 = .ok (.ifCond .ne 9, 3) := by decide +kernel
theorem dX9_item_29 : decode cX9_item 29 = .ok (.ldc_w 303, 3) := by decide +kernel
theorem dX9_item_32 : decode cX9_item 32 = .ok (.goto 5, 3) := by decide +kernel
theorem dX9_item_35 : decode cX9_item 35 = .ok (.ldc 119, 2) := by decide +kernel
theorem dX9_item_37 : decode cX9_item 37 = .ok (.ireturn, 1) := by decide +kernel
theorem dX9_item_38 : decode cX9_item 38 = .ok (.iload_n 2, 1) := by decide +kernel
theorem dX9_item_39 : decode cX9_item 39 = .ok (.i2l, 1) := by decide +kernel
theorem dX9_item_40 : decode cX9_item 40 = .ok (.lconst 0, 1) := by decide +kernel
theorem dX9_item_41 : decode cX9_item 41 = .ok (.aload_n 0, 1) := by decide +kernel
theorem dX9_item_42 : decode cX9_item 42 = .ok (.getfield 37, 3) := by decide +kernel
theorem dX9_item_45 : decode cX9_item 45 = .ok (.iload_n 1, 1) := by decide +kernel
theorem dX9_item_46 : decode cX9_item 46 = .ok (.iaload, 1) := by decide +kernel
theorem dX9_item_47 : decode cX9_item 47 = .ok (.iconst 1, 1) := by decide +kernel
theorem dX9_item_48 : decode cX9_item 48 = .ok (.isub, 1) := by decide +kernel
theorem dX9_item_49 : decode cX9_item 49 = .ok (.i2l, 1) := by decide +kernel
theorem dX9_item_50 : decode cX9_item 50 = .ok (.invokestatic 62, 3) := by decide +kernel
theorem dX9_item_53 : decode cX9_item 53 = .ok (.ifCond .ne 7, 3) := by decide +kernel
theorem dX9_item_56 : decode cX9_item 56 = .ok (.ldc_w 304, 3) := by decide +kernel
theorem dX9_item_59 : decode cX9_item 59 = .ok (.ireturn, 1) := by decide +kernel
theorem dX9_item_60 : decode cX9_item 60 = .ok (.aload_n 0, 1) := by decide +kernel
theorem dX9_item_61 : decode cX9_item 61 = .ok (.getfield 40, 3) := by decide +kernel
theorem dX9_item_64 : decode cX9_item 64 = .ok (.bipush 24, 2) := by decide +kernel
theorem dX9_item_66 : decode cX9_item 66 = .ok (.iload_n 1, 1) := by decide +kernel
theorem dX9_item_67 : decode cX9_item 67 = .ok (.imul, 1) := by decide +kernel
theorem dX9_item_68 : decode cX9_item 68 = .ok (.iload_n 2, 1) := by decide +kernel
theorem dX9_item_69 : decode cX9_item 69 = .ok (.iadd, 1) := by decide +kernel
theorem dX9_item_70 : decode cX9_item 70 = .ok (.iaload, 1) := by decide +kernel
theorem dX9_item_71 : decode cX9_item 71 = .ok (.istore_n 3, 1) := by decide +kernel
theorem dX9_item_72 : decode cX9_item 72 = .ok (.iload_n 3, 1) := by decide +kernel
theorem dX9_item_73 : decode cX9_item 73 = .ok (.ldc 61, 2) := by decide +kernel
theorem dX9_item_75 : decode cX9_item 75 = .ok (.if_icmp .ne 8, 3) := by decide +kernel
theorem dX9_item_78 : decode cX9_item 78 = .ok (.ldc 119, 2) := by decide +kernel
theorem dX9_item_80 : decode cX9_item 80 = .ok (.goto 4, 3) := by decide +kernel
theorem dX9_item_83 : decode cX9_item 83 = .ok (.iload_n 3, 1) := by decide +kernel
theorem dX9_item_84 : decode cX9_item 84 = .ok (.ireturn, 1) := by decide +kernel
theorem dX9_rest_0 : decode cX9_rest 0 = .ok (.iload_n 1, 1) := by decide +kernel
theorem dX9_rest_1 : decode cX9_rest 1 = .ok (.invokestatic 311, 3) := by decide +kernel
theorem dX9_rest_4 : decode cX9_rest 4 = .ok (.ifCond .ne 6, 3) := by decide +kernel
theorem dX9_rest_7 : decode cX9_rest 7 = .ok (.ldc 82, 2) := by decide +kernel
theorem dX9_rest_9 : decode cX9_rest 9 = .ok (.ireturn, 1) := by decide +kernel
theorem dX9_rest_10 : decode cX9_rest 10 = .ok (.aload_n 0, 1) := by decide +kernel
theorem dX9_rest_11 : decode cX9_rest 11 = .ok (.getfield 28, 3) := by decide +kernel
theorem dX9_rest_14 : decode cX9_rest 14 = .ok (.iload_n 1, 1) := by decide +kernel
theorem dX9_rest_15 : decode cX9_rest 15 = .ok (.iaload, 1) := by decide +kernel
theorem dX9_rest_16 : decode cX9_rest 16 = .ok (.iconst 3, 1) := by decide +kernel
theorem dX9_rest_17 : decode cX9_rest 17 = .ok (.if_icmp .eq 21, 3) := by decide +kernel
theorem dX9_rest_20 : decode cX9_rest 20 = .ok (.aload_n 0, 1) := by decide +kernel
theorem dX9_rest_21 : decode cX9_rest 21 = .ok (.getfield 28, 3) := by decide +kernel
theorem dX9_rest_24 : decode cX9_rest 24 = .ok (.iload_n 1, 1) := by decide +kernel
theorem dX9_rest_25 : decode cX9_rest 25 = .ok (.iaload, 1) := by decide +kernel
theorem dX9_rest_26 : decode cX9_rest 26 = .ok (.ifCond .ne 9, 3) := by decide +kernel
theorem dX9_rest_29 : decode cX9_rest 29 = .ok (.ldc_w 303, 3) := by decide +kernel
theorem dX9_rest_32 : decode cX9_rest 32 = .ok (.goto 5, 3) := by decide +kernel
theorem dX9_rest_35 : decode cX9_rest 35 = .ok (.ldc 119, 2) := by decide +kernel
theorem dX9_rest_37 : decode cX9_rest 37 = .ok (.ireturn, 1) := by decide +kernel
theorem dX9_rest_38 : decode cX9_rest 38 = .ok (.iload_n 2, 1) := by decide +kernel
theorem dX9_rest_39 : decode cX9_rest 39 = .ok (.ifCond .ne 8, 3) := by decide +kernel
theorem dX9_rest_42 : decode cX9_rest 42 = .ok (.ldc 139, 2) := by decide +kernel
theorem dX9_rest_44 : decode cX9_rest 44 = .ok (.goto 11, 3) := by decide +kernel
theorem dX9_rest_47 : decode cX9_rest 47 = .ok (.aload_n 0, 1) := by decide +kernel
theorem dX9_rest_48 : decode cX9_rest 48 = .ok (.getfield 31, 3) := by decide +kernel
theorem dX9_rest_51 : decode cX9_rest 51 = .ok (.iload_n 1, 1) := by decide +kernel
theorem dX9_rest_52 : decode cX9_rest 52 = .ok (.iaload, 1) := by decide +kernel
theorem dX9_rest_53 : decode cX9_rest 53 = .ok (.iload_n 2, 1) := by decide +kernel
theorem dX9_rest_54 : decode cX9_rest 54 = .ok (.irem, 1) := by decide +kernel
theorem dX9_rest_55 : decode cX9_rest 55 = .ok (.ireturn, 1) := by decide +kernel
theorem dX9_tell_0 : decode cX9_tell 0 = .ok (.aload_n 0, 1) := by decide +kernel
theorem dX9_tell_1 : decode cX9_tell 1 = .ok (.getfield 314, 3) := by decide +kernel
theorem dX9_tell_4 : decode cX9_tell 4 = .ok (.bipush 60, 2) := by decide +kernel
theorem dX9_tell_6 : decode cX9_tell 6 = .ok (.if_icmp .ne 6, 3) := by decide +kernel
theorem dX9_tell_9 : decode cX9_tell 9 = .ok (.ldc 83, 2) := by decide +kernel
theorem dX9_tell_11 : decode cX9_tell 11 = .ok (.ireturn, 1) := by decide +kernel
theorem dX9_tell_12 : decode cX9_tell 12 = .ok (.aload_n 0, 1) := by decide +kernel
theorem dX9_tell_13 : decode cX9_tell 13 = .ok (.getfield 55, 3) := by decide +kernel
theorem dX9_tell_16 : decode cX9_tell 16 = .ok (.aload_n 0, 1) := by decide +kernel
theorem dX9_tell_17 : decode cX9_tell 17 = .ok (.getfield 314, 3) := by decide +kernel
theorem dX9_tell_20 : decode cX9_tell 20 = .ok (.iload_n 1, 1) := by decide +kernel
theorem dX9_tell_21 : decode cX9_tell 21 = .ok (.iastore, 1) := by decide +kernel
theorem dX9_tell_22 : decode cX9_tell 22 = .ok (.aload_n 0, 1) := by decide +kernel
theorem dX9_tell_23 : decode cX9_tell 23 = .ok (.dup, 1) := by decide +kernel
theorem dX9_tell_24 : decode cX9_tell 24 = .ok (.getfield 314, 3) := by decide +kernel
theorem dX9_tell_27 : decode cX9_tell 27 = .ok (.iconst 1, 1) := by decide +kernel
theorem dX9_tell_28 : decode cX9_tell 28 = .ok (.iadd, 1) := by decide +kernel
theorem dX9_tell_29 : decode cX9_tell 29 = .ok (.putfield 314, 3) := by decide +kernel
theorem dX9_tell_32 : decode cX9_tell 32 = .ok (.aload_n 0, 1) := by decide +kernel
theorem dX9_tell_33 : decode cX9_tell 33 = .ok (.getfield 314, 3) := by decide +kernel
theorem dX9_tell_36 : decode cX9_tell 36 = .ok (.ireturn, 1) := by decide +kernel
theorem dX9_setAside_0 : decode cX9_setAside 0 = .ok (.iconst 0, 1) := by decide +kernel
theorem dX9_setAside_1 : decode cX9_setAside 1 = .ok (.istore_n 3, 1) := by decide +kernel
theorem dX9_setAside_2 : decode cX9_setAside 2 = .ok (.iload_n 3, 1) := by decide +kernel
theorem dX9_setAside_3 : decode cX9_setAside 3 = .ok (.sipush 2954, 3) := by decide +kernel
theorem dX9_setAside_6 : decode cX9_setAside 6 = .ok (.if_icmp .ge 15, 3) := by decide +kernel
theorem dX9_setAside_9 : decode cX9_setAside 9 = .ok (.aload_n 2, 1) := by decide +kernel
theorem dX9_setAside_10 : decode cX9_setAside 10 = .ok (.iload_n 3, 1) := by decide +kernel
theorem dX9_setAside_11 : decode cX9_setAside 11 = .ok (.aload_n 1, 1) := by decide +kernel
theorem dX9_setAside_12 : decode cX9_setAside 12 = .ok (.iload_n 3, 1) := by decide +kernel
theorem dX9_setAside_13 : decode cX9_setAside 13 = .ok (.iaload, 1) := by decide +kernel
theorem dX9_setAside_14 : decode cX9_setAside 14 = .ok (.iastore, 1) := by decide +kernel
theorem dX9_setAside_15 : decode cX9_setAside 15 = .ok (.iinc 3 1, 3) := by decide +kernel
theorem dX9_setAside_18 : decode cX9_setAside 18 = .ok (.goto (-16), 3) := by decide +kernel
theorem dX9_setAside_21 : decode cX9_setAside 21 = .ok (.return_, 1) := by decide +kernel
theorem dX9_check_0 : decode cX9_check 0 = .ok (.aload_n 0, 1) := by decide +kernel
theorem dX9_check_1 : decode cX9_check 1 = .ok (.getfield 314, 3) := by decide +kernel
theorem dX9_check_4 : decode cX9_check 4 = .ok (.istore_n 2, 1) := by decide +kernel
theorem dX9_check_5 : decode cX9_check 5 = .ok (.aload_n 0, 1) := by decide +kernel
theorem dX9_check_6 : decode cX9_check 6 = .ok (.iconst 0, 1) := by decide +kernel
theorem dX9_check_7 : decode cX9_check 7 = .ok (.putfield 314, 3) := by decide +kernel
theorem dX9_check_10 : decode cX9_check 10 = .ok (.iload_n 1, 1) := by decide +kernel
theorem dX9_check_11 : decode cX9_check 11 = .ok (.i2l, 1) := by decide +kernel
theorem dX9_check_12 : decode cX9_check 12 = .ok (.lconst 1, 1) := by decide +kernel
theorem dX9_check_13 : decode cX9_check 13 = .ok (.ldc2_w 317, 3) := by decide +kernel
theorem dX9_check_16 : decode cX9_check 16 = .ok (.invokestatic 62, 3) := by decide +kernel
theorem dX9_check_19 : decode cX9_check 19 = .ok (.ifCond .ne 6, 3) := by decide +kernel
theorem dX9_check_22 : decode cX9_check 22 = .ok (.ldc 82, 2) := by decide +kernel
theorem dX9_check_24 : decode cX9_check 24 = .ok (.ireturn, 1) := by decide +kernel
theorem dX9_check_25 : decode cX9_check 25 = .ok (.aload_n 0, 1) := by decide +kernel
theorem dX9_check_26 : decode cX9_check 26 = .ok (.getfield 319, 3) := by decide +kernel
theorem dX9_check_29 : decode cX9_check 29 = .ok (.ifCond .ne 6, 3) := by decide +kernel
theorem dX9_check_32 : decode cX9_check 32 = .ok (.ldc 139, 2) := by decide +kernel
theorem dX9_check_34 : decode cX9_check 34 = .ok (.ireturn, 1) := by decide +kernel
theorem dX9_check_35 : decode cX9_check 35 = .ok (.aload_n 0, 1) := by decide +kernel
theorem dX9_check_36 : decode cX9_check 36 = .ok (.aload_n 0, 1) := by decide +kernel
theorem dX9_check_37 : decode cX9_check 37 = .ok (.getfield 7, 3) := by decide +kernel
theorem dX9_check_40 : decode cX9_check 40 = .ok (.aload_n 0, 1) := by decide +kernel
theorem dX9_check_41 : decode cX9_check 41 = .ok (.getfield 16, 3) := by decide +kernel
theorem dX9_check_44 : decode cX9_check 44 = .ok (.invokevirtual 323, 3) := by decide +kernel
theorem dX9_check_47 : decode cX9_check 47 = .ok (.aload_n 0, 1) := by decide +kernel
theorem dX9_check_48 : decode cX9_check 48 = .ok (.aload_n 0, 1) := by decide +kernel
theorem dX9_check_49 : decode cX9_check 49 = .ok (.getfield 13, 3) := by decide +kernel
theorem dX9_check_52 : decode cX9_check 52 = .ok (.aload_n 0, 1) := by decide +kernel
theorem dX9_check_53 : decode cX9_check 53 = .ok (.getfield 7, 3) := by decide +kernel
theorem dX9_check_56 : decode cX9_check 56 = .ok (.invokevirtual 323, 3) := by decide +kernel
theorem dX9_check_59 : decode cX9_check 59 = .ok (.iconst 0, 1) := by decide +kernel
theorem dX9_check_60 : decode cX9_check 60 = .ok (.istore_n 3, 1) := by decide +kernel
theorem dX9_check_61 : decode cX9_check 61 = .ok (.iconst 0, 1) := by decide +kernel
theorem dX9_check_62 : decode cX9_check 62 = .ok (.istore 4, 2) := by decide +kernel
theorem dX9_check_64 : decode cX9_check 64 = .ok (.iload 4, 2) := by decide +kernel
theorem dX9_check_66 : decode cX9_check 66 = .ok (.iload_n 1, 1) := by decide +kernel
theorem dX9_check_67 : decode cX9_check 67 = .ok (.if_icmp .ge 55, 3) := by decide +kernel
theorem dX9_check_70 : decode cX9_check 70 = .ok (.aload_n 0, 1) := by decide +kernel
theorem dX9_check_71 : decode cX9_check 71 = .ok (.getfield 7, 3) := by decide +kernel
theorem dX9_check_74 : decode cX9_check 74 = .ok (.iconst 3, 1) := by decide +kernel
theorem dX9_check_75 : decode cX9_check 75 = .ok (.iaload, 1) := by decide +kernel
theorem dX9_check_76 : decode cX9_check 76 = .ok (.sipush 9999, 3) := by decide +kernel
theorem dX9_check_79 : decode cX9_check 79 = .ok (.if_icmp .ge 43, 3) := by decide +kernel
theorem dX9_check_82 : decode cX9_check 82 = .ok (.aload_n 0, 1) := by decide +kernel
theorem dX9_check_83 : decode cX9_check 83 = .ok (.invokevirtual 169, 3) := by decide +kernel
theorem dX9_check_86 : decode cX9_check 86 = .ok (.istore 5, 2) := by decide +kernel
theorem dX9_check_88 : decode cX9_check 88 = .ok (.aload_n 0, 1) := by decide +kernel
theorem dX9_check_89 : decode cX9_check 89 = .ok (.getfield 58, 3) := by decide +kernel
theorem dX9_check_92 : decode cX9_check 92 = .ok (.iload_n 3, 1) := by decide +kernel
theorem dX9_check_93 : decode cX9_check 93 = .ok (.aload_n 0, 1) := by decide +kernel
theorem dX9_check_94 : decode cX9_check 94 = .ok (.iconst 2, 1) := by decide +kernel
theorem dX9_check_95 : decode cX9_check 95 = .ok (.invokevirtual 193, 3) := by decide +kernel
theorem dX9_check_98 : decode cX9_check 98 = .ok (.iastore, 1) := by decide +kernel
theorem dX9_check_99 : decode cX9_check 99 = .ok (.aload_n 0, 1) := by decide +kernel
theorem dX9_check_100 : decode cX9_check 100 = .ok (.getfield 58, 3) := by decide +kernel
theorem dX9_check_103 : decode cX9_check 103 = .ok (.iload_n 3, 1) := by decide +kernel
theorem dX9_check_104 : decode cX9_check 104 = .ok (.iconst 1, 1) := by decide +kernel
theorem dX9_check_105 : decode cX9_check 105 = .ok (.iadd, 1) := by decide +kernel
theorem dX9_check_106 : decode cX9_check 106 = .ok (.aload_n 0, 1) := by decide +kernel
theorem dX9_check_107 : decode cX9_check 107 = .ok (.getfield 7, 3) := by decide +kernel
theorem dX9_check_110 : decode cX9_check 110 = .ok (.iconst 2, 1) := by decide +kernel
theorem dX9_check_111 : decode cX9_check 111 = .ok (.iaload, 1) := by decide +kernel
theorem dX9_check_112 : decode cX9_check 112 = .ok (.iastore, 1) := by decide +kernel
theorem dX9_check_113 : decode cX9_check 113 = .ok (.iinc 3 2, 3) := by decide +kernel
theorem dX9_check_116 : decode cX9_check 116 = .ok (.iinc 4 1, 3) := by decide +kernel
theorem dX9_check_119 : decode cX9_check 119 = .ok (.goto (-55), 3) := by decide +kernel
theorem dX9_check_122 : decode cX9_check 122 = .ok (.aload_n 0, 1) := by decide +kernel
theorem dX9_check_123 : decode cX9_check 123 = .ok (.aload_n 0, 1) := by decide +kernel
theorem dX9_check_124 : decode cX9_check 124 = .ok (.getfield 16, 3) := by decide +kernel
theorem dX9_check_127 : decode cX9_check 127 = .ok (.aload_n 0, 1) := by decide +kernel
theorem dX9_check_128 : decode cX9_check 128 = .ok (.getfield 7, 3) := by decide +kernel
theorem dX9_check_131 : decode cX9_check 131 = .ok (.invokevirtual 323, 3) := by decide +kernel
theorem dX9_check_134 : decode cX9_check 134 = .ok (.iconst 0, 1) := by decide +kernel
theorem dX9_check_135 : decode cX9_check 135 = .ok (.istore 4, 2) := by decide +kernel
theorem dX9_check_137 : decode cX9_check 137 = .ok (.iload 4, 2) := by decide +kernel
theorem dX9_check_139 : decode cX9_check 139 = .ok (.iload_n 2, 1) := by decide +kernel
theorem dX9_check_140 : decode cX9_check 140 = .ok (.if_icmp .ge 32, 3) := by decide +kernel
theorem dX9_check_143 : decode cX9_check 143 = .ok (.iload 4, 2) := by decide +kernel
theorem dX9_check_145 : decode cX9_check 145 = .ok (.iload_n 3, 1) := by decide +kernel
theorem dX9_check_146 : decode cX9_check 146 = .ok (.if_icmp .ge 26, 3) := by decide +kernel
theorem dX9_check_149 : decode cX9_check 149 = .ok (.aload_n 0, 1) := by decide +kernel
theorem dX9_check_150 : decode cX9_check 150 = .ok (.getfield 55, 3) := by decide +kernel
theorem dX9_check_153 : decode cX9_check 153 = .ok (.iload 4, 2) := by decide +kernel
theorem dX9_check_155 : decode cX9_check 155 = .ok (.iaload, 1) := by decide +kernel
theorem dX9_check_156 : decode cX9_check 156 = .ok (.aload_n 0, 1) := by decide +kernel
theorem dX9_check_157 : decode cX9_check 157 = .ok (.getfield 58, 3) := by decide +kernel
theorem dX9_check_160 : decode cX9_check 160 = .ok (.iload 4, 2) := by decide +kernel
theorem dX9_check_162 : decode cX9_check 162 = .ok (.iaload, 1) := by decide +kernel
theorem dX9_check_163 : decode cX9_check 163 = .ok (.if_icmp .ne 9, 3) := by decide +kernel
theorem dX9_check_166 : decode cX9_check 166 = .ok (.iinc 4 1, 3) := by decide +kernel
theorem dX9_check_169 : decode cX9_check 169 = .ok (.goto (-32), 3) := by decide +kernel
theorem dX9_check_172 : decode cX9_check 172 = .ok (.iload 4, 2) := by decide +kernel
theorem dX9_check_174 : decode cX9_check 174 = .ok (.iload_n 2, 1) := by decide +kernel
theorem dX9_check_175 : decode cX9_check 175 = .ok (.if_icmp .ne 13, 3) := by decide +kernel
theorem dX9_check_178 : decode cX9_check 178 = .ok (.iload 4, 2) := by decide +kernel
theorem dX9_check_180 : decode cX9_check 180 = .ok (.iload_n 3, 1) := by decide +kernel
theorem dX9_check_181 : decode cX9_check 181 = .ok (.if_icmp .ne 7, 3) := by decide +kernel
theorem dX9_check_184 : decode cX9_check 184 = .ok (.iconst 0, 1) := by decide +kernel
theorem dX9_check_185 : decode cX9_check 185 = .ok (.goto 7, 3) := by decide +kernel
theorem dX9_check_188 : decode cX9_check 188 = .ok (.iconst 1, 1) := by decide +kernel
theorem dX9_check_189 : decode cX9_check 189 = .ok (.iload 4, 2) := by decide +kernel
theorem dX9_check_191 : decode cX9_check 191 = .ok (.iadd, 1) := by decide +kernel
theorem dX9_check_192 : decode cX9_check 192 = .ok (.ireturn, 1) := by decide +kernel
theorem dX9_keep_0 : decode cX9_keep 0 = .ok (.aload_n 0, 1) := by decide +kernel
theorem dX9_keep_1 : decode cX9_keep 1 = .ok (.iconst 1, 1) := by decide +kernel
theorem dX9_keep_2 : decode cX9_keep 2 = .ok (.putfield 319, 3) := by decide +kernel
theorem dX9_keep_5 : decode cX9_keep 5 = .ok (.aload_n 0, 1) := by decide +kernel
theorem dX9_keep_6 : decode cX9_keep 6 = .ok (.aload_n 0, 1) := by decide +kernel
theorem dX9_keep_7 : decode cX9_keep 7 = .ok (.getfield 7, 3) := by decide +kernel
theorem dX9_keep_10 : decode cX9_keep 10 = .ok (.aload_n 0, 1) := by decide +kernel
theorem dX9_keep_11 : decode cX9_keep 11 = .ok (.getfield 13, 3) := by decide +kernel
theorem dX9_keep_14 : decode cX9_keep 14 = .ok (.invokevirtual 323, 3) := by decide +kernel
theorem dX9_keep_17 : decode cX9_keep 17 = .ok (.aload_n 0, 1) := by decide +kernel
theorem dX9_keep_18 : decode cX9_keep 18 = .ok (.getfield 7, 3) := by decide +kernel
theorem dX9_keep_21 : decode cX9_keep 21 = .ok (.iconst 0, 1) := by decide +kernel
theorem dX9_keep_22 : decode cX9_keep 22 = .ok (.iaload, 1) := by decide +kernel
theorem dX9_keep_23 : decode cX9_keep 23 = .ok (.ireturn, 1) := by decide +kernel
theorem dX9_back_0 : decode cX9_back 0 = .ok (.aload_n 0, 1) := by decide +kernel
theorem dX9_back_1 : decode cX9_back 1 = .ok (.getfield 319, 3) := by decide +kernel
theorem dX9_back_4 : decode cX9_back 4 = .ok (.ifCond .ne 6, 3) := by decide +kernel
theorem dX9_back_7 : decode cX9_back 7 = .ok (.ldc 139, 2) := by decide +kernel
theorem dX9_back_9 : decode cX9_back 9 = .ok (.ireturn, 1) := by decide +kernel
theorem dX9_back_10 : decode cX9_back 10 = .ok (.aload_n 0, 1) := by decide +kernel
theorem dX9_back_11 : decode cX9_back 11 = .ok (.aload_n 0, 1) := by decide +kernel
theorem dX9_back_12 : decode cX9_back 12 = .ok (.getfield 13, 3) := by decide +kernel
theorem dX9_back_15 : decode cX9_back 15 = .ok (.aload_n 0, 1) := by decide +kernel
theorem dX9_back_16 : decode cX9_back 16 = .ok (.getfield 7, 3) := by decide +kernel
theorem dX9_back_19 : decode cX9_back 19 = .ok (.invokevirtual 323, 3) := by decide +kernel
theorem dX9_back_22 : decode cX9_back 22 = .ok (.aload_n 0, 1) := by decide +kernel
theorem dX9_back_23 : decode cX9_back 23 = .ok (.getfield 7, 3) := by decide +kernel
theorem dX9_back_26 : decode cX9_back 26 = .ok (.iconst 0, 1) := by decide +kernel
theorem dX9_back_27 : decode cX9_back 27 = .ok (.iaload, 1) := by decide +kernel
theorem dX9_back_28 : decode cX9_back 28 = .ok (.ireturn, 1) := by decide +kernel
theorem dX9_count_0 : decode cX9_count 0 = .ok (.iload_n 1, 1) := by decide +kernel
theorem dX9_count_1 : decode cX9_count 1 = .ok (.tableswitch 119 0 9 #[55, 62, 68, 74, 81, 88, 95, 102, 107, 112], 55) := by decide +kernel
theorem dX9_count_56 : decode cX9_count 56 = .ok (.aload_n 0, 1) := by decide +kernel
theorem dX9_count_57 : decode cX9_count 57 = .ok (.getfield 7, 3) := by decide +kernel
theorem dX9_count_60 : decode cX9_count 60 = .ok (.iconst 0, 1) := by decide +kernel
theorem dX9_count_61 : decode cX9_count 61 = .ok (.iaload, 1) := by decide +kernel
theorem dX9_count_62 : decode cX9_count 62 = .ok (.ireturn, 1) := by decide +kernel
theorem dX9_count_63 : decode cX9_count 63 = .ok (.aload_n 0, 1) := by decide +kernel
theorem dX9_count_64 : decode cX9_count 64 = .ok (.iconst 2, 1) := by decide +kernel
theorem dX9_count_65 : decode cX9_count 65 = .ok (.invokevirtual 193, 3) := by decide +kernel
theorem dX9_count_68 : decode cX9_count 68 = .ok (.ireturn, 1) := by decide +kernel
theorem dX9_count_69 : decode cX9_count 69 = .ok (.aload_n 0, 1) := by decide +kernel
theorem dX9_count_70 : decode cX9_count 70 = .ok (.iconst 1, 1) := by decide +kernel
theorem dX9_count_71 : decode cX9_count 71 = .ok (.invokevirtual 193, 3) := by decide +kernel
theorem dX9_count_74 : decode cX9_count 74 = .ok (.ireturn, 1) := by decide +kernel
theorem dX9_count_75 : decode cX9_count 75 = .ok (.aload_n 0, 1) := by decide +kernel
theorem dX9_count_76 : decode cX9_count 76 = .ok (.getfield 7, 3) := by decide +kernel
theorem dX9_count_79 : decode cX9_count 79 = .ok (.iconst 5, 1) := by decide +kernel
theorem dX9_count_80 : decode cX9_count 80 = .ok (.iaload, 1) := by decide +kernel
theorem dX9_count_81 : decode cX9_count 81 = .ok (.ireturn, 1) := by decide +kernel
theorem dX9_count_82 : decode cX9_count 82 = .ok (.aload_n 0, 1) := by decide +kernel
theorem dX9_count_83 : decode cX9_count 83 = .ok (.getfield 7, 3) := by decide +kernel
theorem dX9_count_86 : decode cX9_count 86 = .ok (.iconst 2, 1) := by decide +kernel
theorem dX9_count_87 : decode cX9_count 87 = .ok (.iaload, 1) := by decide +kernel
theorem dX9_count_88 : decode cX9_count 88 = .ok (.ireturn, 1) := by decide +kernel
theorem dX9_count_89 : decode cX9_count 89 = .ok (.aload_n 0, 1) := by decide +kernel
theorem dX9_count_90 : decode cX9_count 90 = .ok (.getfield 7, 3) := by decide +kernel
theorem dX9_count_93 : decode cX9_count 93 = .ok (.iconst 3, 1) := by decide +kernel
theorem dX9_count_94 : decode cX9_count 94 = .ok (.iaload, 1) := by decide +kernel
theorem dX9_count_95 : decode cX9_count 95 = .ok (.ireturn, 1) := by decide +kernel
theorem dX9_count_96 : decode cX9_count 96 = .ok (.aload_n 0, 1) := by decide +kernel
theorem dX9_count_97 : decode cX9_count 97 = .ok (.getfield 7, 3) := by decide +kernel
theorem dX9_count_100 : decode cX9_count 100 = .ok (.iconst 1, 1) := by decide +kernel
theorem dX9_count_101 : decode cX9_count 101 = .ok (.iaload, 1) := by decide +kernel
theorem dX9_count_102 : decode cX9_count 102 = .ok (.ireturn, 1) := by decide +kernel
theorem dX9_count_103 : decode cX9_count 103 = .ok (.aload_n 0, 1) := by decide +kernel
theorem dX9_count_104 : decode cX9_count 104 = .ok (.getfield 314, 3) := by decide +kernel
theorem dX9_count_107 : decode cX9_count 107 = .ok (.ireturn, 1) := by decide +kernel
theorem dX9_count_108 : decode cX9_count 108 = .ok (.aload_n 0, 1) := by decide +kernel
theorem dX9_count_109 : decode cX9_count 109 = .ok (.getfield 199, 3) := by decide +kernel
theorem dX9_count_112 : decode cX9_count 112 = .ok (.ireturn, 1) := by decide +kernel
theorem dX9_count_113 : decode cX9_count 113 = .ok (.aload_n 0, 1) := by decide +kernel
theorem dX9_count_114 : decode cX9_count 114 = .ok (.getfield 7, 3) := by decide +kernel
theorem dX9_count_117 : decode cX9_count 117 = .ok (.iconst 4, 1) := by decide +kernel
theorem dX9_count_118 : decode cX9_count 118 = .ok (.iaload, 1) := by decide +kernel
theorem dX9_count_119 : decode cX9_count 119 = .ok (.ireturn, 1) := by decide +kernel
theorem dX9_count_120 : decode cX9_count 120 = .ok (.ldc 82, 2) := by decide +kernel
theorem dX9_count_122 : decode cX9_count 122 = .ok (.ireturn, 1) := by decide +kernel
theorem dJ11_isValidCodePoint_9a6ad_0 : decode cJ11_isValidCodePoint_9a6ad 0 = .ok (.iload_n 0, 1) := by decide +kernel
theorem dJ11_isValidCodePoint_9a6ad_1 : decode cJ11_isValidCodePoint_9a6ad 1 = .ok (.bipush 16, 2) := by decide +kernel
theorem dJ11_isValidCodePoint_9a6ad_3 : decode cJ11_isValidCodePoint_9a6ad 3 = .ok (.iushr, 1) := by decide +kernel
theorem dJ11_isValidCodePoint_9a6ad_4 : decode cJ11_isValidCodePoint_9a6ad 4 = .ok (.istore_n 1, 1) := by decide +kernel
theorem dJ11_isValidCodePoint_9a6ad_5 : decode cJ11_isValidCodePoint_9a6ad 5 = .ok (.iload_n 1, 1) := by decide +kernel
theorem dJ11_isValidCodePoint_9a6ad_6 : decode cJ11_isValidCodePoint_9a6ad 6 = .ok (.bipush 17, 2) := by decide +kernel
theorem dJ11_isValidCodePoint_9a6ad_8 : decode cJ11_isValidCodePoint_9a6ad 8 = .ok (.if_icmp .ge 7, 3) := by decide +kernel
theorem dJ11_isValidCodePoint_9a6ad_11 : decode cJ11_isValidCodePoint_9a6ad 11 = .ok (.iconst 1, 1) := by decide +kernel
theorem dJ11_isValidCodePoint_9a6ad_12 : decode cJ11_isValidCodePoint_9a6ad 12 = .ok (.goto 4, 3) := by decide +kernel
theorem dJ11_isValidCodePoint_9a6ad_15 : decode cJ11_isValidCodePoint_9a6ad 15 = .ok (.iconst 0, 1) := by decide +kernel
theorem dJ11_isValidCodePoint_9a6ad_16 : decode cJ11_isValidCodePoint_9a6ad 16 = .ok (.ireturn, 1) := by decide +kernel
theorem dJ11_highSurrogate_5068e_0 : decode cJ11_highSurrogate_5068e 0 = .ok (.iload_n 0, 1) := by decide +kernel
theorem dJ11_highSurrogate_5068e_1 : decode cJ11_highSurrogate_5068e 1 = .ok (.bipush 10, 2) := by decide +kernel
theorem dJ11_highSurrogate_5068e_3 : decode cJ11_highSurrogate_5068e 3 = .ok (.iushr, 1) := by decide +kernel
theorem dJ11_highSurrogate_5068e_4 : decode cJ11_highSurrogate_5068e 4 = .ok (.ldc 110, 2) := by decide +kernel
theorem dJ11_highSurrogate_5068e_6 : decode cJ11_highSurrogate_5068e 6 = .ok (.iadd, 1) := by decide +kernel
theorem dJ11_highSurrogate_5068e_7 : decode cJ11_highSurrogate_5068e 7 = .ok (.i2c, 1) := by decide +kernel
theorem dJ11_highSurrogate_5068e_8 : decode cJ11_highSurrogate_5068e 8 = .ok (.ireturn, 1) := by decide +kernel
theorem dJ11_lowSurrogate_5068e_0 : decode cJ11_lowSurrogate_5068e 0 = .ok (.iload_n 0, 1) := by decide +kernel
theorem dJ11_lowSurrogate_5068e_1 : decode cJ11_lowSurrogate_5068e 1 = .ok (.sipush 1023, 3) := by decide +kernel
theorem dJ11_lowSurrogate_5068e_4 : decode cJ11_lowSurrogate_5068e 4 = .ok (.iand, 1) := by decide +kernel
theorem dJ11_lowSurrogate_5068e_5 : decode cJ11_lowSurrogate_5068e 5 = .ok (.ldc 76, 2) := by decide +kernel
theorem dJ11_lowSurrogate_5068e_7 : decode cJ11_lowSurrogate_5068e 7 = .ok (.iadd, 1) := by decide +kernel
theorem dJ11_lowSurrogate_5068e_8 : decode cJ11_lowSurrogate_5068e 8 = .ok (.i2c, 1) := by decide +kernel
theorem dJ11_lowSurrogate_5068e_9 : decode cJ11_lowSurrogate_5068e 9 = .ok (.ireturn, 1) := by decide +kernel
theorem dJ6_bitCount_0f7a4_0 : decode cJ6_bitCount_0f7a4 0 = .ok (.iload_n 0, 1) := by decide +kernel
theorem dJ6_bitCount_0f7a4_1 : decode cJ6_bitCount_0f7a4 1 = .ok (.iload_n 0, 1) := by decide +kernel
theorem dJ6_bitCount_0f7a4_2 : decode cJ6_bitCount_0f7a4 2 = .ok (.iconst 1, 1) := by decide +kernel
theorem dJ6_bitCount_0f7a4_3 : decode cJ6_bitCount_0f7a4 3 = .ok (.iushr, 1) := by decide +kernel
theorem dJ6_bitCount_0f7a4_4 : decode cJ6_bitCount_0f7a4 4 = .ok (.ldc_w 265, 3) := by decide +kernel
theorem dJ6_bitCount_0f7a4_7 : decode cJ6_bitCount_0f7a4 7 = .ok (.iand, 1) := by decide +kernel
theorem dJ6_bitCount_0f7a4_8 : decode cJ6_bitCount_0f7a4 8 = .ok (.isub, 1) := by decide +kernel
theorem dJ6_bitCount_0f7a4_9 : decode cJ6_bitCount_0f7a4 9 = .ok (.istore_n 0, 1) := by decide +kernel
theorem dJ6_bitCount_0f7a4_10 : decode cJ6_bitCount_0f7a4 10 = .ok (.iload_n 0, 1) := by decide +kernel
theorem dJ6_bitCount_0f7a4_11 : decode cJ6_bitCount_0f7a4 11 = .ok (.ldc_w 266, 3) := by decide +kernel
theorem dJ6_bitCount_0f7a4_14 : decode cJ6_bitCount_0f7a4 14 = .ok (.iand, 1) := by decide +kernel
theorem dJ6_bitCount_0f7a4_15 : decode cJ6_bitCount_0f7a4 15 = .ok (.iload_n 0, 1) := by decide +kernel
theorem dJ6_bitCount_0f7a4_16 : decode cJ6_bitCount_0f7a4 16 = .ok (.iconst 2, 1) := by decide +kernel
theorem dJ6_bitCount_0f7a4_17 : decode cJ6_bitCount_0f7a4 17 = .ok (.iushr, 1) := by decide +kernel
theorem dJ6_bitCount_0f7a4_18 : decode cJ6_bitCount_0f7a4 18 = .ok (.ldc_w 266, 3) := by decide +kernel
theorem dJ6_bitCount_0f7a4_21 : decode cJ6_bitCount_0f7a4 21 = .ok (.iand, 1) := by decide +kernel
theorem dJ6_bitCount_0f7a4_22 : decode cJ6_bitCount_0f7a4 22 = .ok (.iadd, 1) := by decide +kernel
theorem dJ6_bitCount_0f7a4_23 : decode cJ6_bitCount_0f7a4 23 = .ok (.istore_n 0, 1) := by decide +kernel
theorem dJ6_bitCount_0f7a4_24 : decode cJ6_bitCount_0f7a4 24 = .ok (.iload_n 0, 1) := by decide +kernel
theorem dJ6_bitCount_0f7a4_25 : decode cJ6_bitCount_0f7a4 25 = .ok (.iload_n 0, 1) := by decide +kernel
theorem dJ6_bitCount_0f7a4_26 : decode cJ6_bitCount_0f7a4 26 = .ok (.iconst 4, 1) := by decide +kernel
theorem dJ6_bitCount_0f7a4_27 : decode cJ6_bitCount_0f7a4 27 = .ok (.iushr, 1) := by decide +kernel
theorem dJ6_bitCount_0f7a4_28 : decode cJ6_bitCount_0f7a4 28 = .ok (.iadd, 1) := by decide +kernel
theorem dJ6_bitCount_0f7a4_29 : decode cJ6_bitCount_0f7a4 29 = .ok (.ldc_w 267, 3) := by decide +kernel
theorem dJ6_bitCount_0f7a4_32 : decode cJ6_bitCount_0f7a4 32 = .ok (.iand, 1) := by decide +kernel
theorem dJ6_bitCount_0f7a4_33 : decode cJ6_bitCount_0f7a4 33 = .ok (.istore_n 0, 1) := by decide +kernel
theorem dJ6_bitCount_0f7a4_34 : decode cJ6_bitCount_0f7a4 34 = .ok (.iload_n 0, 1) := by decide +kernel
theorem dJ6_bitCount_0f7a4_35 : decode cJ6_bitCount_0f7a4 35 = .ok (.iload_n 0, 1) := by decide +kernel
theorem dJ6_bitCount_0f7a4_36 : decode cJ6_bitCount_0f7a4 36 = .ok (.bipush 8, 2) := by decide +kernel
theorem dJ6_bitCount_0f7a4_38 : decode cJ6_bitCount_0f7a4 38 = .ok (.iushr, 1) := by decide +kernel
theorem dJ6_bitCount_0f7a4_39 : decode cJ6_bitCount_0f7a4 39 = .ok (.iadd, 1) := by decide +kernel
theorem dJ6_bitCount_0f7a4_40 : decode cJ6_bitCount_0f7a4 40 = .ok (.istore_n 0, 1) := by decide +kernel
theorem dJ6_bitCount_0f7a4_41 : decode cJ6_bitCount_0f7a4 41 = .ok (.iload_n 0, 1) := by decide +kernel
theorem dJ6_bitCount_0f7a4_42 : decode cJ6_bitCount_0f7a4 42 = .ok (.iload_n 0, 1) := by decide +kernel
theorem dJ6_bitCount_0f7a4_43 : decode cJ6_bitCount_0f7a4 43 = .ok (.bipush 16, 2) := by decide +kernel
theorem dJ6_bitCount_0f7a4_45 : decode cJ6_bitCount_0f7a4 45 = .ok (.iushr, 1) := by decide +kernel
theorem dJ6_bitCount_0f7a4_46 : decode cJ6_bitCount_0f7a4 46 = .ok (.iadd, 1) := by decide +kernel
theorem dJ6_bitCount_0f7a4_47 : decode cJ6_bitCount_0f7a4 47 = .ok (.istore_n 0, 1) := by decide +kernel
theorem dJ6_bitCount_0f7a4_48 : decode cJ6_bitCount_0f7a4 48 = .ok (.iload_n 0, 1) := by decide +kernel
theorem dJ6_bitCount_0f7a4_49 : decode cJ6_bitCount_0f7a4 49 = .ok (.bipush 63, 2) := by decide +kernel
theorem dJ6_bitCount_0f7a4_51 : decode cJ6_bitCount_0f7a4 51 = .ok (.iand, 1) := by decide +kernel
theorem dJ6_bitCount_0f7a4_52 : decode cJ6_bitCount_0f7a4 52 = .ok (.ireturn, 1) := by decide +kernel
theorem dJ9_max_7cf53_0 : decode cJ9_max_7cf53 0 = .ok (.iload_n 0, 1) := by decide +kernel
theorem dJ9_max_7cf53_1 : decode cJ9_max_7cf53 1 = .ok (.iload_n 1, 1) := by decide +kernel
theorem dJ9_max_7cf53_2 : decode cJ9_max_7cf53 2 = .ok (.if_icmp .lt 7, 3) := by decide +kernel
theorem dJ9_max_7cf53_5 : decode cJ9_max_7cf53 5 = .ok (.iload_n 0, 1) := by decide +kernel
theorem dJ9_max_7cf53_6 : decode cJ9_max_7cf53 6 = .ok (.goto 4, 3) := by decide +kernel
theorem dJ9_max_7cf53_9 : decode cJ9_max_7cf53 9 = .ok (.iload_n 1, 1) := by decide +kernel
theorem dJ9_max_7cf53_10 : decode cJ9_max_7cf53 10 = .ok (.ireturn, 1) := by decide +kernel
theorem dJ9_min_7cf53_0 : decode cJ9_min_7cf53 0 = .ok (.iload_n 0, 1) := by decide +kernel
theorem dJ9_min_7cf53_1 : decode cJ9_min_7cf53 1 = .ok (.iload_n 1, 1) := by decide +kernel
theorem dJ9_min_7cf53_2 : decode cJ9_min_7cf53 2 = .ok (.if_icmp .gt 7, 3) := by decide +kernel
theorem dJ9_min_7cf53_5 : decode cJ9_min_7cf53 5 = .ok (.iload_n 0, 1) := by decide +kernel
theorem dJ9_min_7cf53_6 : decode cJ9_min_7cf53 6 = .ok (.goto 4, 3) := by decide +kernel
theorem dJ9_min_7cf53_9 : decode cJ9_min_7cf53 9 = .ok (.iload_n 1, 1) := by decide +kernel
theorem dJ9_min_7cf53_10 : decode cJ9_min_7cf53 10 = .ok (.ireturn, 1) := by decide +kernel
theorem dJ0_length_8abf5_0 : decode cJ0_length_8abf5 0 = .ok (.aload_n 0, 1) := by decide +kernel
theorem dJ0_length_8abf5_1 : decode cJ0_length_8abf5 1 = .ok (.getfield 9, 3) := by decide +kernel
theorem dJ0_length_8abf5_4 : decode cJ0_length_8abf5 4 = .ok (.arraylength, 1) := by decide +kernel
theorem dJ0_length_8abf5_5 : decode cJ0_length_8abf5 5 = .ok (.aload_n 0, 1) := by decide +kernel
theorem dJ0_length_8abf5_6 : decode cJ0_length_8abf5 6 = .ok (.invokevirtual 335, 3) := by decide +kernel
theorem dJ0_length_8abf5_9 : decode cJ0_length_8abf5 9 = .ok (.ishr, 1) := by decide +kernel
theorem dJ0_length_8abf5_10 : decode cJ0_length_8abf5 10 = .ok (.ireturn, 1) := by decide +kernel
theorem dJ0_charAt_5068e_0 : decode cJ0_charAt_5068e 0 = .ok (.aload_n 0, 1) := by decide +kernel
theorem dJ0_charAt_5068e_1 : decode cJ0_charAt_5068e 1 = .ok (.invokevirtual 492, 3) := by decide +kernel
theorem dJ0_charAt_5068e_4 : decode cJ0_charAt_5068e 4 = .ok (.ifCond .eq 12, 3) := by decide +kernel
theorem dJ0_charAt_5068e_7 : decode cJ0_charAt_5068e 7 = .ok (.aload_n 0, 1) := by decide +kernel
theorem dJ0_charAt_5068e_8 : decode cJ0_charAt_5068e 8 = .ok (.getfield 9, 3) := by decide +kernel
theorem dJ0_charAt_5068e_11 : decode cJ0_charAt_5068e 11 = .ok (.iload_n 1, 1) := by decide +kernel
theorem dJ0_charAt_5068e_12 : decode cJ0_charAt_5068e 12 = .ok (.invokestatic 495, 3) := by decide +kernel
theorem dJ0_charAt_5068e_15 : decode cJ0_charAt_5068e 15 = .ok (.ireturn, 1) := by decide +kernel
theorem dJ0_charAt_5068e_16 : decode cJ0_charAt_5068e 16 = .ok (.aload_n 0, 1) := by decide +kernel
theorem dJ0_charAt_5068e_17 : decode cJ0_charAt_5068e 17 = .ok (.getfield 9, 3) := by decide +kernel
theorem dJ0_charAt_5068e_20 : decode cJ0_charAt_5068e 20 = .ok (.iload_n 1, 1) := by decide +kernel
theorem dJ0_charAt_5068e_21 : decode cJ0_charAt_5068e 21 = .ok (.invokestatic 498, 3) := by decide +kernel
theorem dJ0_charAt_5068e_24 : decode cJ0_charAt_5068e 24 = .ok (.ireturn, 1) := by decide +kernel
theorem dJ0_indexOf_0f7a4_0 : decode cJ0_indexOf_0f7a4 0 = .ok (.aload_n 0, 1) := by decide +kernel
theorem dJ0_indexOf_0f7a4_1 : decode cJ0_indexOf_0f7a4 1 = .ok (.iload_n 1, 1) := by decide +kernel
theorem dJ0_indexOf_0f7a4_2 : decode cJ0_indexOf_0f7a4 2 = .ok (.iconst 0, 1) := by decide +kernel
theorem dJ0_indexOf_0f7a4_3 : decode cJ0_indexOf_0f7a4 3 = .ok (.invokevirtual 633, 3) := by decide +kernel
theorem dJ0_indexOf_0f7a4_6 : decode cJ0_indexOf_0f7a4 6 = .ok (.ireturn, 1) := by decide +kernel
theorem dJ0_indexOf_7cf53_0 : decode cJ0_indexOf_7cf53 0 = .ok (.aload_n 0, 1) := by decide +kernel
theorem dJ0_indexOf_7cf53_1 : decode cJ0_indexOf_7cf53 1 = .ok (.invokevirtual 492, 3) := by decide +kernel
theorem dJ0_indexOf_7cf53_4 : decode cJ0_indexOf_7cf53 4 = .ok (.ifCond .eq 19, 3) := by decide +kernel
theorem dJ0_indexOf_7cf53_7 : decode cJ0_indexOf_7cf53 7 = .ok (.aload_n 0, 1) := by decide +kernel
theorem dJ0_indexOf_7cf53_8 : decode cJ0_indexOf_7cf53 8 = .ok (.getfield 9, 3) := by decide +kernel
theorem dJ0_indexOf_7cf53_11 : decode cJ0_indexOf_7cf53 11 = .ok (.iload_n 1, 1) := by decide +kernel
theorem dJ0_indexOf_7cf53_12 : decode cJ0_indexOf_7cf53 12 = .ok (.iload_n 2, 1) := by decide +kernel
theorem dJ0_indexOf_7cf53_13 : decode cJ0_indexOf_7cf53 13 = .ok (.aload_n 0, 1) := by decide +kernel
theorem dJ0_indexOf_7cf53_14 : decode cJ0_indexOf_7cf53 14 = .ok (.invokevirtual 505, 3) := by decide +kernel
theorem dJ0_indexOf_7cf53_17 : decode cJ0_indexOf_7cf53 17 = .ok (.invokestatic 637, 3) := by decide +kernel
theorem dJ0_indexOf_7cf53_20 : decode cJ0_indexOf_7cf53 20 = .ok (.goto 16, 3) := by decide +kernel
theorem dJ0_indexOf_7cf53_23 : decode cJ0_indexOf_7cf53 23 = .ok (.aload_n 0, 1) := by decide +kernel
theorem dJ0_indexOf_7cf53_24 : decode cJ0_indexOf_7cf53 24 = .ok (.getfield 9, 3) := by decide +kernel
theorem dJ0_indexOf_7cf53_27 : decode cJ0_indexOf_7cf53 27 = .ok (.iload_n 1, 1) := by decide +kernel
theorem dJ0_indexOf_7cf53_28 : decode cJ0_indexOf_7cf53 28 = .ok (.iload_n 2, 1) := by decide +kernel
theorem dJ0_indexOf_7cf53_29 : decode cJ0_indexOf_7cf53 29 = .ok (.aload_n 0, 1) := by decide +kernel
theorem dJ0_indexOf_7cf53_30 : decode cJ0_indexOf_7cf53 30 = .ok (.invokevirtual 505, 3) := by decide +kernel
theorem dJ0_indexOf_7cf53_33 : decode cJ0_indexOf_7cf53 33 = .ok (.invokestatic 640, 3) := by decide +kernel
theorem dJ0_indexOf_7cf53_36 : decode cJ0_indexOf_7cf53 36 = .ok (.ireturn, 1) := by decide +kernel
theorem dJ0_coder_7d493_0 : decode cJ0_coder_7d493 0 = .ok (.getstatic 38, 3) := by decide +kernel
theorem dJ0_coder_7d493_3 : decode cJ0_coder_7d493 3 = .ok (.ifCond .eq 10, 3) := by decide +kernel
theorem dJ0_coder_7d493_6 : decode cJ0_coder_7d493 6 = .ok (.aload_n 0, 1) := by decide +kernel
theorem dJ0_coder_7d493_7 : decode cJ0_coder_7d493 7 = .ok (.getfield 15, 3) := by decide +kernel
theorem dJ0_coder_7d493_10 : decode cJ0_coder_7d493 10 = .ok (.goto 4, 3) := by decide +kernel
theorem dJ0_coder_7d493_13 : decode cJ0_coder_7d493 13 = .ok (.iconst 1, 1) := by decide +kernel
theorem dJ0_coder_7d493_14 : decode cJ0_coder_7d493 14 = .ok (.ireturn, 1) := by decide +kernel
theorem dJ0_isLatin1_aae02_0 : decode cJ0_isLatin1_aae02 0 = .ok (.getstatic 38, 3) := by decide +kernel
theorem dJ0_isLatin1_aae02_3 : decode cJ0_isLatin1_aae02 3 = .ok (.ifCond .eq 14, 3) := by decide +kernel
theorem dJ0_isLatin1_aae02_6 : decode cJ0_isLatin1_aae02 6 = .ok (.aload_n 0, 1) := by decide +kernel
theorem dJ0_isLatin1_aae02_7 : decode cJ0_isLatin1_aae02 7 = .ok (.getfield 15, 3) := by decide +kernel
theorem dJ0_isLatin1_aae02_10 : decode cJ0_isLatin1_aae02 10 = .ok (.ifCond .ne 7, 3) := by decide +kernel
theorem dJ0_isLatin1_aae02_13 : decode cJ0_isLatin1_aae02 13 = .ok (.iconst 1, 1) := by decide +kernel
theorem dJ0_isLatin1_aae02_14 : decode cJ0_isLatin1_aae02 14 = .ok (.goto 4, 3) := by decide +kernel
theorem dJ0_isLatin1_aae02_17 : decode cJ0_isLatin1_aae02 17 = .ok (.iconst 0, 1) := by decide +kernel
theorem dJ0_isLatin1_aae02_18 : decode cJ0_isLatin1_aae02 18 = .ok (.ireturn, 1) := by decide +kernel
theorem dJ0_checkIndex_df160_0 : decode cJ0_checkIndex_df160 0 = .ok (.iload_n 0, 1) := by decide +kernel
theorem dJ0_checkIndex_df160_1 : decode cJ0_checkIndex_df160 1 = .ok (.iload_n 1, 1) := by decide +kernel
theorem dJ0_checkIndex_df160_2 : decode cJ0_checkIndex_df160 2 = .ok (.getstatic 1053, 3) := by decide +kernel
theorem dJ0_checkIndex_df160_5 : decode cJ0_checkIndex_df160 5 = .ok (.invokestatic 1059, 3) := by decide +kernel
theorem dJ0_checkIndex_df160_8 : decode cJ0_checkIndex_df160 8 = .ok (.pop, 1) := by decide +kernel
theorem dJ0_checkIndex_df160_9 : decode cJ0_checkIndex_df160 9 = .ok (.return_, 1) := by decide +kernel
theorem dJ0_checkBoundsBeginEnd_23922_0 : decode cJ0_checkBoundsBeginEnd_23922 0 = .ok (.iload_n 0, 1) := by decide +kernel
theorem dJ0_checkBoundsBeginEnd_23922_1 : decode cJ0_checkBoundsBeginEnd_23922 1 = .ok (.iload_n 1, 1) := by decide +kernel
theorem dJ0_checkBoundsBeginEnd_23922_2 : decode cJ0_checkBoundsBeginEnd_23922 2 = .ok (.iload_n 2, 1) := by decide +kernel
theorem dJ0_checkBoundsBeginEnd_23922_3 : decode cJ0_checkBoundsBeginEnd_23922 3 = .ok (.getstatic 1053, 3) := by decide +kernel
theorem dJ0_checkBoundsBeginEnd_23922_6 : decode cJ0_checkBoundsBeginEnd_23922 6 = .ok (.invokestatic 1062, 3) := by decide +kernel
theorem dJ0_checkBoundsBeginEnd_23922_9 : decode cJ0_checkBoundsBeginEnd_23922 9 = .ok (.pop, 1) := by decide +kernel
theorem dJ0_checkBoundsBeginEnd_23922_10 : decode cJ0_checkBoundsBeginEnd_23922 10 = .ok (.return_, 1) := by decide +kernel
theorem dJ1_charAt_3b067_0 : decode cJ1_charAt_3b067 0 = .ok (.iload_n 1, 1) := by decide +kernel
theorem dJ1_charAt_3b067_1 : decode cJ1_charAt_3b067 1 = .ok (.aload_n 0, 1) := by decide +kernel
theorem dJ1_charAt_3b067_2 : decode cJ1_charAt_3b067 2 = .ok (.arraylength, 1) := by decide +kernel
theorem dJ1_charAt_3b067_3 : decode cJ1_charAt_3b067 3 = .ok (.invokestatic 9, 3) := by decide +kernel
theorem dJ1_charAt_3b067_6 : decode cJ1_charAt_3b067 6 = .ok (.aload_n 0, 1) := by decide +kernel
theorem dJ1_charAt_3b067_7 : decode cJ1_charAt_3b067 7 = .ok (.iload_n 1, 1) := by decide +kernel
theorem dJ1_charAt_3b067_8 : decode cJ1_charAt_3b067 8 = .ok (.baload, 1) := by decide +kernel
theorem dJ1_charAt_3b067_9 : decode cJ1_charAt_3b067 9 = .ok (.sipush 255, 3) := by decide +kernel
theorem dJ1_charAt_3b067_12 : decode cJ1_charAt_3b067 12 = .ok (.iand, 1) := by decide +kernel
theorem dJ1_charAt_3b067_13 : decode cJ1_charAt_3b067 13 = .ok (.i2c, 1) := by decide +kernel
theorem dJ1_charAt_3b067_14 : decode cJ1_charAt_3b067 14 = .ok (.ireturn, 1) := by decide +kernel
theorem dJ1_canEncode_9a6ad_0 : decode cJ1_canEncode_9a6ad 0 = .ok (.iload_n 0, 1) := by decide +kernel
theorem dJ1_canEncode_9a6ad_1 : decode cJ1_canEncode_9a6ad 1 = .ok (.ifCond .lt 14, 3) := by decide +kernel
theorem dJ1_canEncode_9a6ad_4 : decode cJ1_canEncode_9a6ad 4 = .ok (.iload_n 0, 1) := by decide +kernel
theorem dJ1_canEncode_9a6ad_5 : decode cJ1_canEncode_9a6ad 5 = .ok (.sipush 255, 3) := by decide +kernel
theorem dJ1_canEncode_9a6ad_8 : decode cJ1_canEncode_9a6ad 8 = .ok (.if_icmp .gt 7, 3) := by decide +kernel
theorem dJ1_canEncode_9a6ad_11 : decode cJ1_canEncode_9a6ad 11 = .ok (.iconst 1, 1) := by decide +kernel
theorem dJ1_canEncode_9a6ad_12 : decode cJ1_canEncode_9a6ad 12 = .ok (.goto 4, 3) := by decide +kernel
theorem dJ1_canEncode_9a6ad_15 : decode cJ1_canEncode_9a6ad 15 = .ok (.iconst 0, 1) := by decide +kernel
theorem dJ1_canEncode_9a6ad_16 : decode cJ1_canEncode_9a6ad 16 = .ok (.ireturn, 1) := by decide +kernel
theorem dJ1_indexOf_4cfef_0 : decode cJ1_indexOf_4cfef 0 = .ok (.iload_n 1, 1) := by decide +kernel
theorem dJ1_indexOf_4cfef_1 : decode cJ1_indexOf_4cfef 1 = .ok (.invokestatic 88, 3) := by decide +kernel
theorem dJ1_indexOf_4cfef_4 : decode cJ1_indexOf_4cfef 4 = .ok (.ifCond .ne 5, 3) := by decide +kernel
theorem dJ1_indexOf_4cfef_7 : decode cJ1_indexOf_4cfef 7 = .ok (.iconst (-1), 1) := by decide +kernel
theorem dJ1_indexOf_4cfef_8 : decode cJ1_indexOf_4cfef 8 = .ok (.ireturn, 1) := by decide +kernel
theorem dJ1_indexOf_4cfef_9 : decode cJ1_indexOf_4cfef 9 = .ok (.iload_n 2, 1) := by decide +kernel
theorem dJ1_indexOf_4cfef_10 : decode cJ1_indexOf_4cfef 10 = .ok (.iconst 0, 1) := by decide +kernel
theorem dJ1_indexOf_4cfef_11 : decode cJ1_indexOf_4cfef 11 = .ok (.invokestatic 92, 3) := by decide +kernel
theorem dJ1_indexOf_4cfef_14 : decode cJ1_indexOf_4cfef 14 = .ok (.istore_n 2, 1) := by decide +kernel
theorem dJ1_indexOf_4cfef_15 : decode cJ1_indexOf_4cfef 15 = .ok (.iload_n 3, 1) := by decide +kernel
theorem dJ1_indexOf_4cfef_16 : decode cJ1_indexOf_4cfef 16 = .ok (.aload_n 0, 1) := by decide +kernel
theorem dJ1_indexOf_4cfef_17 : decode cJ1_indexOf_4cfef 17 = .ok (.arraylength, 1) := by decide +kernel
theorem dJ1_indexOf_4cfef_18 : decode cJ1_indexOf_4cfef 18 = .ok (.invokestatic 38, 3) := by decide +kernel
theorem dJ1_indexOf_4cfef_21 : decode cJ1_indexOf_4cfef 21 = .ok (.istore_n 3, 1) := by decide +kernel
theorem dJ1_indexOf_4cfef_22 : decode cJ1_indexOf_4cfef 22 = .ok (.iload_n 2, 1) := by decide +kernel
theorem dJ1_indexOf_4cfef_23 : decode cJ1_indexOf_4cfef 23 = .ok (.iload_n 3, 1) := by decide +kernel
theorem dJ1_indexOf_4cfef_24 : decode cJ1_indexOf_4cfef 24 = .ok (.if_icmp .lt 5, 3) := by decide +kernel
theorem dJ1_indexOf_4cfef_27 : decode cJ1_indexOf_4cfef 27 = .ok (.iconst (-1), 1) := by decide +kernel
theorem dJ1_indexOf_4cfef_28 : decode cJ1_indexOf_4cfef 28 = .ok (.ireturn, 1) := by decide +kernel
theorem dJ1_indexOf_4cfef_29 : decode cJ1_indexOf_4cfef 29 = .ok (.aload_n 0, 1) := by decide +kernel
theorem dJ1_indexOf_4cfef_30 : decode cJ1_indexOf_4cfef 30 = .ok (.iload_n 1, 1) := by decide +kernel
theorem dJ1_indexOf_4cfef_31 : decode cJ1_indexOf_4cfef 31 = .ok (.iload_n 2, 1) := by decide +kernel
theorem dJ1_indexOf_4cfef_32 : decode cJ1_indexOf_4cfef 32 = .ok (.iload_n 3, 1) := by decide +kernel
theorem dJ1_indexOf_4cfef_33 : decode cJ1_indexOf_4cfef 33 = .ok (.invokestatic 95, 3) := by decide +kernel
theorem dJ1_indexOf_4cfef_36 : decode cJ1_indexOf_4cfef 36 = .ok (.ireturn, 1) := by decide +kernel
theorem dJ1_indexOfChar_4cfef_0 : decode cJ1_indexOfChar_4cfef 0 = .ok (.iload_n 1, 1) := by decide +kernel
theorem dJ1_indexOfChar_4cfef_1 : decode cJ1_indexOfChar_4cfef 1 = .ok (.i2b, 1) := by decide +kernel
theorem dJ1_indexOfChar_4cfef_2 : decode cJ1_indexOfChar_4cfef 2 = .ok (.istore 4, 2) := by decide +kernel
theorem dJ1_indexOfChar_4cfef_4 : decode cJ1_indexOfChar_4cfef 4 = .ok (.iload_n 2, 1) := by decide +kernel
theorem dJ1_indexOfChar_4cfef_5 : decode cJ1_indexOfChar_4cfef 5 = .ok (.istore 5, 2) := by decide +kernel
theorem dJ1_indexOfChar_4cfef_7 : decode cJ1_indexOfChar_4cfef 7 = .ok (.iload 5, 2) := by decide +kernel
theorem dJ1_indexOfChar_4cfef_9 : decode cJ1_indexOfChar_4cfef 9 = .ok (.iload_n 3, 1) := by decide +kernel
theorem dJ1_indexOfChar_4cfef_10 : decode cJ1_indexOfChar_4cfef 10 = .ok (.if_icmp .ge 21, 3) := by decide +kernel
theorem dJ1_indexOfChar_4cfef_13 : decode cJ1_indexOfChar_4cfef 13 = .ok (.aload_n 0, 1) := by decide +kernel
theorem dJ1_indexOfChar_4cfef_14 : decode cJ1_indexOfChar_4cfef 14 = .ok (.iload 5, 2) := by decide +kernel
theorem dJ1_indexOfChar_4cfef_16 : decode cJ1_indexOfChar_4cfef 16 = .ok (.baload, 1) := by decide +kernel
theorem dJ1_indexOfChar_4cfef_17 : decode cJ1_indexOfChar_4cfef 17 = .ok (.iload 4, 2) := by decide +kernel
theorem dJ1_indexOfChar_4cfef_19 : decode cJ1_indexOfChar_4cfef 19 = .ok (.if_icmp .ne 6, 3) := by decide +kernel
theorem dJ1_indexOfChar_4cfef_22 : decode cJ1_indexOfChar_4cfef 22 = .ok (.iload 5, 2) := by decide +kernel
theorem dJ1_indexOfChar_4cfef_24 : decode cJ1_indexOfChar_4cfef 24 = .ok (.ireturn, 1) := by decide +kernel
theorem dJ1_indexOfChar_4cfef_25 : decode cJ1_indexOfChar_4cfef 25 = .ok (.iinc 5 1, 3) := by decide +kernel
theorem dJ1_indexOfChar_4cfef_28 : decode cJ1_indexOfChar_4cfef 28 = .ok (.goto (-21), 3) := by decide +kernel
theorem dJ1_indexOfChar_4cfef_31 : decode cJ1_indexOfChar_4cfef 31 = .ok (.iconst (-1), 1) := by decide +kernel
theorem dJ1_indexOfChar_4cfef_32 : decode cJ1_indexOfChar_4cfef 32 = .ok (.ireturn, 1) := by decide +kernel
theorem dJ2_getChar_3b067_0 : decode cJ2_getChar_3b067 0 = .ok (.getstatic 44, 3) := by decide +kernel
theorem dJ2_getChar_3b067_3 : decode cJ2_getChar_3b067 3 = .ok (.ifCond .ne 25, 3) := by decide +kernel
theorem dJ2_getChar_3b067_6 : decode cJ2_getChar_3b067 6 = .ok (.iload_n 1, 1) := by decide +kernel
theorem dJ2_getChar_3b067_7 : decode cJ2_getChar_3b067 7 = .ok (.ifCond .lt 11, 3) := by decide +kernel
theorem dJ2_getChar_3b067_10 : decode cJ2_getChar_3b067 10 = .ok (.iload_n 1, 1) := by decide +kernel
theorem dJ2_getChar_3b067_11 : decode cJ2_getChar_3b067 11 = .ok (.aload_n 0, 1) := by decide +kernel
theorem dJ2_getChar_3b067_12 : decode cJ2_getChar_3b067 12 = .ok (.invokestatic 48, 3) := by decide +kernel
theorem dJ2_getChar_3b067_15 : decode cJ2_getChar_3b067 15 = .ok (.if_icmp .lt 13, 3) := by decide +kernel
theorem dJ2_getChar_3b067_18 : decode cJ2_getChar_3b067 18 = .ok (.new 52, 3) := by decide +kernel
theorem dJ2_getChar_3b067_21 : decode cJ2_getChar_3b067 21 = .ok (.dup, 1) := by decide +kernel
theorem dJ2_getChar_3b067_22 : decode cJ2_getChar_3b067 22 = .ok (.ldc 54, 2) := by decide +kernel
theorem dJ2_getChar_3b067_24 : decode cJ2_getChar_3b067 24 = .ok (.invokespecial 56, 3) := by decide +kernel
theorem dJ2_getChar_3b067_27 : decode cJ2_getChar_3b067 27 = .ok (.athrow, 1) := by decide +kernel
theorem dJ2_getChar_3b067_28 : decode cJ2_getChar_3b067 28 = .ok (.iload_n 1, 1) := by decide +kernel
theorem dJ2_getChar_3b067_29 : decode cJ2_getChar_3b067 29 = .ok (.iconst 1, 1) := by decide +kernel
theorem dJ2_getChar_3b067_30 : decode cJ2_getChar_3b067 30 = .ok (.ishl, 1) := by decide +kernel
theorem dJ2_getChar_3b067_31 : decode cJ2_getChar_3b067 31 = .ok (.istore_n 1, 1) := by decide +kernel
theorem dJ2_getChar_3b067_32 : decode cJ2_getChar_3b067 32 = .ok (.aload_n 0, 1) := by decide +kernel
theorem dJ2_getChar_3b067_33 : decode cJ2_getChar_3b067 33 = .ok (.iload_n 1, 1) := by decide +kernel
theorem dJ2_getChar_3b067_34 : decode cJ2_getChar_3b067 34 = .ok (.iinc 1 1, 3) := by decide +kernel
theorem dJ2_getChar_3b067_37 : decode cJ2_getChar_3b067 37 = .ok (.baload, 1) := by decide +kernel
theorem dJ2_getChar_3b067_38 : decode cJ2_getChar_3b067 38 = .ok (.sipush 255, 3) := by decide +kernel
theorem dJ2_getChar_3b067_41 : decode cJ2_getChar_3b067 41 = .ok (.iand, 1) := by decide +kernel
theorem dJ2_getChar_3b067_42 : decode cJ2_getChar_3b067 42 = .ok (.getstatic 59, 3) := by decide +kernel
theorem dJ2_getChar_3b067_45 : decode cJ2_getChar_3b067 45 = .ok (.ishl, 1) := by decide +kernel
theorem dJ2_getChar_3b067_46 : decode cJ2_getChar_3b067 46 = .ok (.aload_n 0, 1) := by decide +kernel
theorem dJ2_getChar_3b067_47 : decode cJ2_getChar_3b067 47 = .ok (.iload_n 1, 1) := by decide +kernel
theorem dJ2_getChar_3b067_48 : decode cJ2_getChar_3b067 48 = .ok (.baload, 1) := by decide +kernel
theorem dJ2_getChar_3b067_49 : decode cJ2_getChar_3b067 49 = .ok (.sipush 255, 3) := by decide +kernel
theorem dJ2_getChar_3b067_52 : decode cJ2_getChar_3b067 52 = .ok (.iand, 1) := by decide +kernel
theorem dJ2_getChar_3b067_53 : decode cJ2_getChar_3b067 53 = .ok (.getstatic 63, 3) := by decide +kernel
theorem dJ2_getChar_3b067_56 : decode cJ2_getChar_3b067 56 = .ok (.ishl, 1) := by decide +kernel
theorem dJ2_getChar_3b067_57 : decode cJ2_getChar_3b067 57 = .ok (.ior, 1) := by decide +kernel
theorem dJ2_getChar_3b067_58 : decode cJ2_getChar_3b067 58 = .ok (.i2c, 1) := by decide +kernel
theorem dJ2_getChar_3b067_59 : decode cJ2_getChar_3b067 59 = .ok (.ireturn, 1) := by decide +kernel
theorem dJ2_length_9d52b_0 : decode cJ2_length_9d52b 0 = .ok (.aload_n 0, 1) := by decide +kernel
theorem dJ2_length_9d52b_1 : decode cJ2_length_9d52b 1 = .ok (.arraylength, 1) := by decide +kernel
theorem dJ2_length_9d52b_2 : decode cJ2_length_9d52b 2 = .ok (.iconst 1, 1) := by decide +kernel
theorem dJ2_length_9d52b_3 : decode cJ2_length_9d52b 3 = .ok (.ishr, 1) := by decide +kernel
theorem dJ2_length_9d52b_4 : decode cJ2_length_9d52b 4 = .ok (.ireturn, 1) := by decide +kernel
theorem dJ2_indexOf_4cfef_0 : decode cJ2_indexOf_4cfef 0 = .ok (.iload_n 2, 1) := by decide +kernel
theorem dJ2_indexOf_4cfef_1 : decode cJ2_indexOf_4cfef 1 = .ok (.iconst 0, 1) := by decide +kernel
theorem dJ2_indexOf_4cfef_2 : decode cJ2_indexOf_4cfef 2 = .ok (.invokestatic 224, 3) := by decide +kernel
theorem dJ2_indexOf_4cfef_5 : decode cJ2_indexOf_4cfef 5 = .ok (.istore_n 2, 1) := by decide +kernel
theorem dJ2_indexOf_4cfef_6 : decode cJ2_indexOf_4cfef 6 = .ok (.iload_n 3, 1) := by decide +kernel
theorem dJ2_indexOf_4cfef_7 : decode cJ2_indexOf_4cfef 7 = .ok (.aload_n 0, 1) := by decide +kernel
theorem dJ2_indexOf_4cfef_8 : decode cJ2_indexOf_4cfef 8 = .ok (.arraylength, 1) := by decide +kernel
theorem dJ2_indexOf_4cfef_9 : decode cJ2_indexOf_4cfef 9 = .ok (.iconst 1, 1) := by decide +kernel
theorem dJ2_indexOf_4cfef_10 : decode cJ2_indexOf_4cfef 10 = .ok (.ishr, 1) := by decide +kernel
theorem dJ2_indexOf_4cfef_11 : decode cJ2_indexOf_4cfef 11 = .ok (.invokestatic 183, 3) := by decide +kernel
theorem dJ2_indexOf_4cfef_14 : decode cJ2_indexOf_4cfef 14 = .ok (.istore_n 3, 1) := by decide +kernel
theorem dJ2_indexOf_4cfef_15 : decode cJ2_indexOf_4cfef 15 = .ok (.iload_n 2, 1) := by decide +kernel
theorem dJ2_indexOf_4cfef_16 : decode cJ2_indexOf_4cfef 16 = .ok (.iload_n 3, 1) := by decide +kernel
theorem dJ2_indexOf_4cfef_17 : decode cJ2_indexOf_4cfef 17 = .ok (.if_icmp .lt 5, 3) := by decide +kernel
theorem dJ2_indexOf_4cfef_20 : decode cJ2_indexOf_4cfef 20 = .ok (.iconst (-1), 1) := by decide +kernel
theorem dJ2_indexOf_4cfef_21 : decode cJ2_indexOf_4cfef 21 = .ok (.ireturn, 1) := by decide +kernel
theorem dJ2_indexOf_4cfef_22 : decode cJ2_indexOf_4cfef 22 = .ok (.iload_n 1, 1) := by decide +kernel
theorem dJ2_indexOf_4cfef_23 : decode cJ2_indexOf_4cfef 23 = .ok (.ldc 227, 2) := by decide +kernel
theorem dJ2_indexOf_4cfef_25 : decode cJ2_indexOf_4cfef 25 = .ok (.if_icmp .ge 11, 3) := by decide +kernel
theorem dJ2_indexOf_4cfef_28 : decode cJ2_indexOf_4cfef 28 = .ok (.aload_n 0, 1) := by decide +kernel
theorem dJ2_indexOf_4cfef_29 : decode cJ2_indexOf_4cfef 29 = .ok (.iload_n 1, 1) := by decide +kernel
theorem dJ2_indexOf_4cfef_30 : decode cJ2_indexOf_4cfef 30 = .ok (.iload_n 2, 1) := by decide +kernel
theorem dJ2_indexOf_4cfef_31 : decode cJ2_indexOf_4cfef 31 = .ok (.iload_n 3, 1) := by decide +kernel
theorem dJ2_indexOf_4cfef_32 : decode cJ2_indexOf_4cfef 32 = .ok (.invokestatic 228, 3) := by decide +kernel
theorem dJ2_indexOf_4cfef_35 : decode cJ2_indexOf_4cfef 35 = .ok (.ireturn, 1) := by decide +kernel
theorem dJ2_indexOf_4cfef_36 : decode cJ2_indexOf_4cfef 36 = .ok (.aload_n 0, 1) := by decide +kernel
theorem dJ2_indexOf_4cfef_37 : decode cJ2_indexOf_4cfef 37 = .ok (.iload_n 1, 1) := by decide +kernel
theorem dJ2_indexOf_4cfef_38 : decode cJ2_indexOf_4cfef 38 = .ok (.iload_n 2, 1) := by decide +kernel
theorem dJ2_indexOf_4cfef_39 : decode cJ2_indexOf_4cfef 39 = .ok (.iload_n 3, 1) := by decide +kernel
theorem dJ2_indexOf_4cfef_40 : decode cJ2_indexOf_4cfef 40 = .ok (.invokestatic 232, 3) := by decide +kernel
theorem dJ2_indexOf_4cfef_43 : decode cJ2_indexOf_4cfef 43 = .ok (.ireturn, 1) := by decide +kernel
theorem dJ2_indexOfChar_4cfef_0 : decode cJ2_indexOfChar_4cfef 0 = .ok (.iload_n 2, 1) := by decide +kernel
theorem dJ2_indexOfChar_4cfef_1 : decode cJ2_indexOfChar_4cfef 1 = .ok (.iload_n 3, 1) := by decide +kernel
theorem dJ2_indexOfChar_4cfef_2 : decode cJ2_indexOfChar_4cfef 2 = .ok (.aload_n 0, 1) := by decide +kernel
theorem dJ2_indexOfChar_4cfef_3 : decode cJ2_indexOfChar_4cfef 3 = .ok (.invokestatic 96, 3) := by decide +kernel
theorem dJ2_indexOfChar_4cfef_6 : decode cJ2_indexOfChar_4cfef 6 = .ok (.aload_n 0, 1) := by decide +kernel
theorem dJ2_indexOfChar_4cfef_7 : decode cJ2_indexOfChar_4cfef 7 = .ok (.iload_n 1, 1) := by decide +kernel
theorem dJ2_indexOfChar_4cfef_8 : decode cJ2_indexOfChar_4cfef 8 = .ok (.iload_n 2, 1) := by decide +kernel
theorem dJ2_indexOfChar_4cfef_9 : decode cJ2_indexOfChar_4cfef 9 = .ok (.iload_n 3, 1) := by decide +kernel
theorem dJ2_indexOfChar_4cfef_10 : decode cJ2_indexOfChar_4cfef 10 = .ok (.invokestatic 244, 3) := by decide +kernel
theorem dJ2_indexOfChar_4cfef_13 : decode cJ2_indexOfChar_4cfef 13 = .ok (.ireturn, 1) := by decide +kernel
theorem dJ2_indexOfCharUnsafe_4cfef_0 : decode cJ2_indexOfCharUnsafe_4cfef 0 = .ok (.iload_n 2, 1) := by decide +kernel
theorem dJ2_indexOfCharUnsafe_4cfef_1 : decode cJ2_indexOfCharUnsafe_4cfef 1 = .ok (.istore 4, 2) := by decide +kernel
theorem dJ2_indexOfCharUnsafe_4cfef_3 : decode cJ2_indexOfCharUnsafe_4cfef 3 = .ok (.iload 4, 2) := by decide +kernel
theorem dJ2_indexOfCharUnsafe_4cfef_5 : decode cJ2_indexOfCharUnsafe_4cfef 5 = .ok (.iload_n 3, 1) := by decide +kernel
theorem dJ2_indexOfCharUnsafe_4cfef_6 : decode cJ2_indexOfCharUnsafe_4cfef 6 = .ok (.if_icmp .ge 22, 3) := by decide +kernel
theorem dJ2_indexOfCharUnsafe_4cfef_9 : decode cJ2_indexOfCharUnsafe_4cfef 9 = .ok (.aload_n 0, 1) := by decide +kernel
theorem dJ2_indexOfCharUnsafe_4cfef_10 : decode cJ2_indexOfCharUnsafe_4cfef 10 = .ok (.iload 4, 2) := by decide +kernel
theorem dJ2_indexOfCharUnsafe_4cfef_12 : decode cJ2_indexOfCharUnsafe_4cfef 12 = .ok (.invokestatic 71, 3) := by decide +kernel
theorem dJ2_indexOfCharUnsafe_4cfef_15 : decode cJ2_indexOfCharUnsafe_4cfef 15 = .ok (.iload_n 1, 1) := by decide +kernel
theorem dJ2_indexOfCharUnsafe_4cfef_16 : decode cJ2_indexOfCharUnsafe_4cfef 16 = .ok (.if_icmp .ne 6, 3) := by decide +kernel
theorem dJ2_indexOfCharUnsafe_4cfef_19 : decode cJ2_indexOfCharUnsafe_4cfef 19 = .ok (.iload 4, 2) := by decide +kernel
theorem dJ2_indexOfCharUnsafe_4cfef_21 : decode cJ2_indexOfCharUnsafe_4cfef 21 = .ok (.ireturn, 1) := by decide +kernel
theorem dJ2_indexOfCharUnsafe_4cfef_22 : decode cJ2_indexOfCharUnsafe_4cfef 22 = .ok (.iinc 4 1, 3) := by decide +kernel
theorem dJ2_indexOfCharUnsafe_4cfef_25 : decode cJ2_indexOfCharUnsafe_4cfef 25 = .ok (.goto (-22), 3) := by decide +kernel
theorem dJ2_indexOfCharUnsafe_4cfef_28 : decode cJ2_indexOfCharUnsafe_4cfef 28 = .ok (.iconst (-1), 1) := by decide +kernel
theorem dJ2_indexOfCharUnsafe_4cfef_29 : decode cJ2_indexOfCharUnsafe_4cfef 29 = .ok (.ireturn, 1) := by decide +kernel
theorem dJ2_indexOfSupplementary_4cfef_0 : decode cJ2_indexOfSupplementary_4cfef 0 = .ok (.iload_n 1, 1) := by decide +kernel
theorem dJ2_indexOfSupplementary_4cfef_1 : decode cJ2_indexOfSupplementary_4cfef 1 = .ok (.invokestatic 164, 3) := by decide +kernel
theorem dJ2_indexOfSupplementary_4cfef_4 : decode cJ2_indexOfSupplementary_4cfef 4 = .ok (.ifCond .eq 65, 3) := by decide +kernel
theorem dJ2_indexOfSupplementary_4cfef_7 : decode cJ2_indexOfSupplementary_4cfef 7 = .ok (.iload_n 1, 1) := by decide +kernel
theorem dJ2_indexOfSupplementary_4cfef_8 : decode cJ2_indexOfSupplementary_4cfef 8 = .ok (.invokestatic 157, 3) := by decide +kernel
theorem dJ2_indexOfSupplementary_4cfef_11 : decode cJ2_indexOfSupplementary_4cfef 11 = .ok (.istore 4, 2) := by decide +kernel
theorem dJ2_indexOfSupplementary_4cfef_13 : decode cJ2_indexOfSupplementary_4cfef 13 = .ok (.iload_n 1, 1) := by decide +kernel
theorem dJ2_indexOfSupplementary_4cfef_14 : decode cJ2_indexOfSupplementary_4cfef 14 = .ok (.invokestatic 161, 3) := by decide +kernel
theorem dJ2_indexOfSupplementary_4cfef_17 : decode cJ2_indexOfSupplementary_4cfef 17 = .ok (.istore 5, 2) := by decide +kernel
theorem dJ2_indexOfSupplementary_4cfef_19 : decode cJ2_indexOfSupplementary_4cfef 19 = .ok (.iload_n 2, 1) := by decide +kernel
theorem dJ2_indexOfSupplementary_4cfef_20 : decode cJ2_indexOfSupplementary_4cfef 20 = .ok (.iload_n 3, 1) := by decide +kernel
theorem dJ2_indexOfSupplementary_4cfef_21 : decode cJ2_indexOfSupplementary_4cfef 21 = .ok (.aload_n 0, 1) := by decide +kernel
theorem dJ2_indexOfSupplementary_4cfef_22 : decode cJ2_indexOfSupplementary_4cfef 22 = .ok (.invokestatic 96, 3) := by decide +kernel
theorem dJ2_indexOfSupplementary_4cfef_25 : decode cJ2_indexOfSupplementary_4cfef 25 = .ok (.iload_n 2, 1) := by decide +kernel
theorem dJ2_indexOfSupplementary_4cfef_26 : decode cJ2_indexOfSupplementary_4cfef 26 = .ok (.istore 6, 2) := by decide +kernel
theorem dJ2_indexOfSupplementary_4cfef_28 : decode cJ2_indexOfSupplementary_4cfef 28 = .ok (.iload 6, 2) := by decide +kernel
theorem dJ2_indexOfSupplementary_4cfef_30 : decode cJ2_indexOfSupplementary_4cfef 30 = .ok (.iload_n 3, 1) := by decide +kernel
theorem dJ2_indexOfSupplementary_4cfef_31 : decode cJ2_indexOfSupplementary_4cfef 31 = .ok (.iconst 1, 1) := by decide +kernel
theorem dJ2_indexOfSupplementary_4cfef_32 : decode cJ2_indexOfSupplementary_4cfef 32 = .ok (.isub, 1) := by decide +kernel
theorem dJ2_indexOfSupplementary_4cfef_33 : decode cJ2_indexOfSupplementary_4cfef 33 = .ok (.if_icmp .ge 36, 3) := by decide +kernel
theorem dJ2_indexOfSupplementary_4cfef_36 : decode cJ2_indexOfSupplementary_4cfef 36 = .ok (.aload_n 0, 1) := by decide +kernel
theorem dJ2_indexOfSupplementary_4cfef_37 : decode cJ2_indexOfSupplementary_4cfef 37 = .ok (.iload 6, 2) := by decide +kernel
theorem dJ2_indexOfSupplementary_4cfef_39 : decode cJ2_indexOfSupplementary_4cfef 39 = .ok (.invokestatic 71, 3) := by decide +kernel
theorem dJ2_indexOfSupplementary_4cfef_42 : decode cJ2_indexOfSupplementary_4cfef 42 = .ok (.iload 4, 2) := by decide +kernel
theorem dJ2_indexOfSupplementary_4cfef_44 : decode cJ2_indexOfSupplementary_4cfef 44 = .ok (.if_icmp .ne 19, 3) := by decide +kernel
theorem dJ2_indexOfSupplementary_4cfef_47 : decode cJ2_indexOfSupplementary_4cfef 47 = .ok (.aload_n 0, 1) := by decide +kernel
theorem dJ2_indexOfSupplementary_4cfef_48 : decode cJ2_indexOfSupplementary_4cfef 48 = .ok (.iload 6, 2) := by decide +kernel
theorem dJ2_indexOfSupplementary_4cfef_50 : decode cJ2_indexOfSupplementary_4cfef 50 = .ok (.iconst 1, 1) := by decide +kernel
theorem dJ2_indexOfSupplementary_4cfef_51 : decode cJ2_indexOfSupplementary_4cfef 51 = .ok (.iadd, 1) := by decide +kernel
theorem dJ2_indexOfSupplementary_4cfef_52 : decode cJ2_indexOfSupplementary_4cfef 52 = .ok (.invokestatic 71, 3) := by decide +kernel
theorem dJ2_indexOfSupplementary_4cfef_55 : decode cJ2_indexOfSupplementary_4cfef 55 = .ok (.iload 5, 2) := by decide +kernel
theorem dJ2_indexOfSupplementary_4cfef_57 : decode cJ2_indexOfSupplementary_4cfef 57 = .ok (.if_icmp .ne 6, 3) := by decide +kernel
theorem dJ2_indexOfSupplementary_4cfef_60 : decode cJ2_indexOfSupplementary_4cfef 60 = .ok (.iload 6, 2) := by decide +kernel
theorem dJ2_indexOfSupplementary_4cfef_62 : decode cJ2_indexOfSupplementary_4cfef 62 = .ok (.ireturn, 1) := by decide +kernel
theorem dJ2_indexOfSupplementary_4cfef_63 : decode cJ2_indexOfSupplementary_4cfef 63 = .ok (.iinc 6 1, 3) := by decide +kernel
theorem dJ2_indexOfSupplementary_4cfef_66 : decode cJ2_indexOfSupplementary_4cfef 66 = .ok (.goto (-38), 3) := by decide +kernel
theorem dJ2_indexOfSupplementary_4cfef_69 : decode cJ2_indexOfSupplementary_4cfef 69 = .ok (.iconst (-1), 1) := by decide +kernel
theorem dJ2_indexOfSupplementary_4cfef_70 : decode cJ2_indexOfSupplementary_4cfef 70 = .ok (.ireturn, 1) := by decide +kernel
theorem dJ2_charAt_3b067_0 : decode cJ2_charAt_3b067 0 = .ok (.iload_n 1, 1) := by decide +kernel
theorem dJ2_charAt_3b067_1 : decode cJ2_charAt_3b067 1 = .ok (.aload_n 0, 1) := by decide +kernel
theorem dJ2_charAt_3b067_2 : decode cJ2_charAt_3b067 2 = .ok (.invokestatic 67, 3) := by decide +kernel
theorem dJ2_charAt_3b067_5 : decode cJ2_charAt_3b067 5 = .ok (.aload_n 0, 1) := by decide +kernel
theorem dJ2_charAt_3b067_6 : decode cJ2_charAt_3b067 6 = .ok (.iload_n 1, 1) := by decide +kernel
theorem dJ2_charAt_3b067_7 : decode cJ2_charAt_3b067 7 = .ok (.invokestatic 71, 3) := by decide +kernel
theorem dJ2_charAt_3b067_10 : decode cJ2_charAt_3b067 10 = .ok (.ireturn, 1) := by decide +kernel
theorem dJ2_checkIndex_2214a_0 : decode cJ2_checkIndex_2214a 0 = .ok (.iload_n 0, 1) := by decide +kernel
theorem dJ2_checkIndex_2214a_1 : decode cJ2_checkIndex_2214a 1 = .ok (.aload_n 1, 1) := by decide +kernel
theorem dJ2_checkIndex_2214a_2 : decode cJ2_checkIndex_2214a 2 = .ok (.invokestatic 48, 3) := by decide +kernel
theorem dJ2_checkIndex_2214a_5 : decode cJ2_checkIndex_2214a 5 = .ok (.invokestatic 414, 3) := by decide +kernel
theorem dJ2_checkIndex_2214a_8 : decode cJ2_checkIndex_2214a 8 = .ok (.return_, 1) := by decide +kernel
theorem dJ2_checkBoundsBeginEnd_d044e_0 : decode cJ2_checkBoundsBeginEnd_d044e 0 = .ok (.iload_n 0, 1) := by decide +kernel
theorem dJ2_checkBoundsBeginEnd_d044e_1 : decode cJ2_checkBoundsBeginEnd_d044e 1 = .ok (.iload_n 1, 1) := by decide +kernel
theorem dJ2_checkBoundsBeginEnd_d044e_2 : decode cJ2_checkBoundsBeginEnd_d044e 2 = .ok (.aload_n 2, 1) := by decide +kernel
theorem dJ2_checkBoundsBeginEnd_d044e_3 : decode cJ2_checkBoundsBeginEnd_d044e 3 = .ok (.invokestatic 48, 3) := by decide +kernel
theorem dJ2_checkBoundsBeginEnd_d044e_6 : decode cJ2_checkBoundsBeginEnd_d044e 6 = .ok (.invokestatic 241, 3) := by decide +kernel
theorem dJ2_checkBoundsBeginEnd_d044e_9 : decode cJ2_checkBoundsBeginEnd_d044e 9 = .ok (.return_, 1) := by decide +kernel
theorem dJ7_fill_53178_0 : decode cJ7_fill_53178 0 = .ok (.iconst 0, 1) := by decide +kernel
theorem dJ7_fill_53178_1 : decode cJ7_fill_53178 1 = .ok (.istore_n 2, 1) := by decide +kernel
theorem dJ7_fill_53178_2 : decode cJ7_fill_53178 2 = .ok (.aload_n 0, 1) := by decide +kernel
theorem dJ7_fill_53178_3 : decode cJ7_fill_53178 3 = .ok (.arraylength, 1) := by decide +kernel
theorem dJ7_fill_53178_4 : decode cJ7_fill_53178 4 = .ok (.istore_n 3, 1) := by decide +kernel
theorem dJ7_fill_53178_5 : decode cJ7_fill_53178 5 = .ok (.iload_n 2, 1) := by decide +kernel
theorem dJ7_fill_53178_6 : decode cJ7_fill_53178 6 = .ok (.iload_n 3, 1) := by decide +kernel
theorem dJ7_fill_53178_7 : decode cJ7_fill_53178 7 = .ok (.if_icmp .ge 13, 3) := by decide +kernel
theorem dJ7_fill_53178_10 : decode cJ7_fill_53178 10 = .ok (.aload_n 0, 1) := by decide +kernel
theorem dJ7_fill_53178_11 : decode cJ7_fill_53178 11 = .ok (.iload_n 2, 1) := by decide +kernel
theorem dJ7_fill_53178_12 : decode cJ7_fill_53178 12 = .ok (.iload_n 1, 1) := by decide +kernel
theorem dJ7_fill_53178_13 : decode cJ7_fill_53178 13 = .ok (.iastore, 1) := by decide +kernel
theorem dJ7_fill_53178_14 : decode cJ7_fill_53178 14 = .ok (.iinc 2 1, 3) := by decide +kernel
theorem dJ7_fill_53178_17 : decode cJ7_fill_53178 17 = .ok (.goto (-12), 3) := by decide +kernel
theorem dJ7_fill_53178_20 : decode cJ7_fill_53178 20 = .ok (.return_, 1) := by decide +kernel
theorem dJ7_copyOf_59c91_0 : decode cJ7_copyOf_59c91 0 = .ok (.iload_n 1, 1) := by decide +kernel
theorem dJ7_copyOf_59c91_1 : decode cJ7_copyOf_59c91 1 = .ok (.aload_n 0, 1) := by decide +kernel
theorem dJ7_copyOf_59c91_2 : decode cJ7_copyOf_59c91 2 = .ok (.arraylength, 1) := by decide +kernel
theorem dJ7_copyOf_59c91_3 : decode cJ7_copyOf_59c91 3 = .ok (.if_icmp .ne 11, 3) := by decide +kernel
theorem dJ7_copyOf_59c91_6 : decode cJ7_copyOf_59c91 6 = .ok (.aload_n 0, 1) := by decide +kernel
theorem dJ7_copyOf_59c91_7 : decode cJ7_copyOf_59c91 7 = .ok (.invokevirtual 316, 3) := by decide +kernel
theorem dJ7_copyOf_59c91_10 : decode cJ7_copyOf_59c91 10 = .ok (.checkcast 317, 3) := by decide +kernel
theorem dJ7_copyOf_59c91_13 : decode cJ7_copyOf_59c91 13 = .ok (.areturn, 1) := by decide +kernel
theorem dJ7_copyOf_59c91_14 : decode cJ7_copyOf_59c91 14 = .ok (.iload_n 1, 1) := by decide +kernel
theorem dJ7_copyOf_59c91_15 : decode cJ7_copyOf_59c91 15 = .ok (.newarray .int, 2) := by decide +kernel
theorem dJ7_copyOf_59c91_17 : decode cJ7_copyOf_59c91 17 = .ok (.astore_n 2, 1) := by decide +kernel
theorem dJ7_copyOf_59c91_18 : decode cJ7_copyOf_59c91 18 = .ok (.aload_n 0, 1) := by decide +kernel
theorem dJ7_copyOf_59c91_19 : decode cJ7_copyOf_59c91 19 = .ok (.iconst 0, 1) := by decide +kernel
theorem dJ7_copyOf_59c91_20 : decode cJ7_copyOf_59c91 20 = .ok (.aload_n 2, 1) := by decide +kernel
theorem dJ7_copyOf_59c91_21 : decode cJ7_copyOf_59c91 21 = .ok (.iconst 0, 1) := by decide +kernel
theorem dJ7_copyOf_59c91_22 : decode cJ7_copyOf_59c91 22 = .ok (.aload_n 0, 1) := by decide +kernel
theorem dJ7_copyOf_59c91_23 : decode cJ7_copyOf_59c91 23 = .ok (.arraylength, 1) := by decide +kernel
theorem dJ7_copyOf_59c91_24 : decode cJ7_copyOf_59c91 24 = .ok (.iload_n 1, 1) := by decide +kernel
theorem dJ7_copyOf_59c91_25 : decode cJ7_copyOf_59c91 25 = .ok (.invokestatic 304, 3) := by decide +kernel
theorem dJ7_copyOf_59c91_28 : decode cJ7_copyOf_59c91 28 = .ok (.invokestatic 150, 3) := by decide +kernel
theorem dJ7_copyOf_59c91_31 : decode cJ7_copyOf_59c91 31 = .ok (.aload_n 2, 1) := by decide +kernel
theorem dJ7_copyOf_59c91_32 : decode cJ7_copyOf_59c91 32 = .ok (.areturn, 1) := by decide +kernel
theorem dJ3_checkIndex_8e157_0 : decode cJ3_checkIndex_8e157 0 = .ok (.iload_n 0, 1) := by decide +kernel
theorem dJ3_checkIndex_8e157_1 : decode cJ3_checkIndex_8e157 1 = .ok (.ifCond .lt 8, 3) := by decide +kernel
theorem dJ3_checkIndex_8e157_4 : decode cJ3_checkIndex_8e157 4 = .ok (.iload_n 0, 1) := by decide +kernel
theorem dJ3_checkIndex_8e157_5 : decode cJ3_checkIndex_8e157 5 = .ok (.iload_n 1, 1) := by decide +kernel
theorem dJ3_checkIndex_8e157_6 : decode cJ3_checkIndex_8e157 6 = .ok (.if_icmp .lt 10, 3) := by decide +kernel
theorem dJ3_checkIndex_8e157_9 : decode cJ3_checkIndex_8e157 9 = .ok (.aload_n 2, 1) := by decide +kernel
theorem dJ3_checkIndex_8e157_10 : decode cJ3_checkIndex_8e157 10 = .ok (.iload_n 0, 1) := by decide +kernel
theorem dJ3_checkIndex_8e157_11 : decode cJ3_checkIndex_8e157 11 = .ok (.iload_n 1, 1) := by decide +kernel
theorem dJ3_checkIndex_8e157_12 : decode cJ3_checkIndex_8e157 12 = .ok (.invokestatic 95, 3) := by decide +kernel
theorem dJ3_checkIndex_8e157_15 : decode cJ3_checkIndex_8e157 15 = .ok (.athrow, 1) := by decide +kernel
theorem dJ3_checkIndex_8e157_16 : decode cJ3_checkIndex_8e157 16 = .ok (.iload_n 0, 1) := by decide +kernel
theorem dJ3_checkIndex_8e157_17 : decode cJ3_checkIndex_8e157 17 = .ok (.ireturn, 1) := by decide +kernel
theorem dJ3_checkFromToIndex_8c36e_0 : decode cJ3_checkFromToIndex_8c36e 0 = .ok (.iload_n 0, 1) := by decide +kernel
theorem dJ3_checkFromToIndex_8c36e_1 : decode cJ3_checkFromToIndex_8c36e 1 = .ok (.ifCond .lt 13, 3) := by decide +kernel
theorem dJ3_checkFromToIndex_8c36e_4 : decode cJ3_checkFromToIndex_8c36e 4 = .ok (.iload_n 0, 1) := by decide +kernel
theorem dJ3_checkFromToIndex_8c36e_5 : decode cJ3_checkFromToIndex_8c36e 5 = .ok (.iload_n 1, 1) := by decide +kernel
theorem dJ3_checkFromToIndex_8c36e_6 : decode cJ3_checkFromToIndex_8c36e 6 = .ok (.if_icmp .gt 8, 3) := by decide +kernel
theorem dJ3_checkFromToIndex_8c36e_9 : decode cJ3_checkFromToIndex_8c36e 9 = .ok (.iload_n 1, 1) := by decide +kernel
theorem dJ3_checkFromToIndex_8c36e_10 : decode cJ3_checkFromToIndex_8c36e 10 = .ok (.iload_n 2, 1) := by decide +kernel
theorem dJ3_checkFromToIndex_8c36e_11 : decode cJ3_checkFromToIndex_8c36e 11 = .ok (.if_icmp .le 11, 3) := by decide +kernel
theorem dJ3_checkFromToIndex_8c36e_14 : decode cJ3_checkFromToIndex_8c36e 14 = .ok (.aload_n 3, 1) := by decide +kernel
theorem dJ3_checkFromToIndex_8c36e_15 : decode cJ3_checkFromToIndex_8c36e 15 = .ok (.iload_n 0, 1) := by decide +kernel
theorem dJ3_checkFromToIndex_8c36e_16 : decode cJ3_checkFromToIndex_8c36e 16 = .ok (.iload_n 1, 1) := by decide +kernel
theorem dJ3_checkFromToIndex_8c36e_17 : decode cJ3_checkFromToIndex_8c36e 17 = .ok (.iload_n 2, 1) := by decide +kernel
theorem dJ3_checkFromToIndex_8c36e_18 : decode cJ3_checkFromToIndex_8c36e 18 = .ok (.invokestatic 99, 3) := by decide +kernel
theorem dJ3_checkFromToIndex_8c36e_21 : decode cJ3_checkFromToIndex_8c36e 21 = .ok (.athrow, 1) := by decide +kernel
theorem dJ3_checkFromToIndex_8c36e_22 : decode cJ3_checkFromToIndex_8c36e 22 = .ok (.iload_n 0, 1) := by decide +kernel
theorem dJ3_checkFromToIndex_8c36e_23 : decode cJ3_checkFromToIndex_8c36e 23 = .ok (.ireturn, 1) := by decide +kernel
theorem dL_law_0 : decode cL_law 0 = .ok (.new 7, 3) := by decide +kernel
theorem dL_law_3 : decode cL_law 3 = .ok (.dup, 1) := by decide +kernel
theorem dL_law_4 : decode cL_law 4 = .ok (.invokespecial 9, 3) := by decide +kernel
theorem dL_law_7 : decode cL_law 7 = .ok (.astore_n 1, 1) := by decide +kernel
theorem dL_law_8 : decode cL_law 8 = .ok (.new 10, 3) := by decide +kernel
theorem dL_law_11 : decode cL_law 11 = .ok (.dup, 1) := by decide +kernel
theorem dL_law_12 : decode cL_law 12 = .ok (.invokespecial 12, 3) := by decide +kernel
theorem dL_law_15 : decode cL_law 15 = .ok (.astore_n 2, 1) := by decide +kernel
theorem dL_law_16 : decode cL_law 16 = .ok (.iconst 0, 1) := by decide +kernel
theorem dL_law_17 : decode cL_law 17 = .ok (.istore_n 3, 1) := by decide +kernel
theorem dL_law_18 : decode cL_law 18 = .ok (.iload_n 3, 1) := by decide +kernel
theorem dL_law_19 : decode cL_law 19 = .ok (.aload_n 0, 1) := by decide +kernel
theorem dL_law_20 : decode cL_law 20 = .ok (.arraylength, 1) := by decide +kernel
theorem dL_law_21 : decode cL_law 21 = .ok (.bipush 6, 2) := by decide +kernel
theorem dL_law_23 : decode cL_law 23 = .ok (.isub, 1) := by decide +kernel
theorem dL_law_24 : decode cL_law 24 = .ok (.if_icmp .gt 1444, 3) := by decide +kernel
theorem dL_law_27 : decode cL_law 27 = .ok (.aload_n 0, 1) := by decide +kernel
theorem dL_law_28 : decode cL_law 28 = .ok (.iload_n 3, 1) := by decide +kernel
theorem dL_law_29 : decode cL_law 29 = .ok (.iaload, 1) := by decide +kernel
theorem dL_law_30 : decode cL_law 30 = .ok (.bipush 63, 2) := by decide +kernel
theorem dL_law_32 : decode cL_law 32 = .ok (.iand, 1) := by decide +kernel
theorem dL_law_33 : decode cL_law 33 = .ok (.tableswitch 1429 0 41 #[183, 216, 249, 282, 315, 348, 391, 414, 437, 480, 523, 546, 579, 592, 615, 648, 681, 714, 737, 760, 793, 816, 829, 852, 895, 918, 931, 964, 987, 1030, 1073, 1096, 1129, 1192, 1235, 1268, 1301, 1334, 1357, 1380, 1393, 1406], 183) := by decide +kernel
theorem dL_law_216 : decode cL_law 216 = .ok (.aload_n 1, 1) := by decide +kernel
theorem dL_law_217 : decode cL_law 217 = .ok (.aload_n 0, 1) := by decide +kernel
theorem dL_law_218 : decode cL_law 218 = .ok (.iload_n 3, 1) := by decide +kernel
theorem dL_law_219 : decode cL_law 219 = .ok (.iconst 1, 1) := by decide +kernel
theorem dL_law_220 : decode cL_law 220 = .ok (.iadd, 1) := by decide +kernel
theorem dL_law_221 : decode cL_law 221 = .ok (.iaload, 1) := by decide +kernel
theorem dL_law_222 : decode cL_law 222 = .ok (.aload_n 0, 1) := by decide +kernel
theorem dL_law_223 : decode cL_law 223 = .ok (.iload_n 3, 1) := by decide +kernel
theorem dL_law_224 : decode cL_law 224 = .ok (.iconst 2, 1) := by decide +kernel
theorem dL_law_225 : decode cL_law 225 = .ok (.iadd, 1) := by decide +kernel
theorem dL_law_226 : decode cL_law 226 = .ok (.iaload, 1) := by decide +kernel
theorem dL_law_227 : decode cL_law 227 = .ok (.invokevirtual 13, 3) := by decide +kernel
theorem dL_law_230 : decode cL_law 230 = .ok (.aload_n 2, 1) := by decide +kernel
theorem dL_law_231 : decode cL_law 231 = .ok (.aload_n 0, 1) := by decide +kernel
theorem dL_law_232 : decode cL_law 232 = .ok (.iload_n 3, 1) := by decide +kernel
theorem dL_law_233 : decode cL_law 233 = .ok (.iconst 1, 1) := by decide +kernel
theorem dL_law_234 : decode cL_law 234 = .ok (.iadd, 1) := by decide +kernel
theorem dL_law_235 : decode cL_law 235 = .ok (.iaload, 1) := by decide +kernel
theorem dL_law_236 : decode cL_law 236 = .ok (.aload_n 0, 1) := by decide +kernel
theorem dL_law_237 : decode cL_law 237 = .ok (.iload_n 3, 1) := by decide +kernel
theorem dL_law_238 : decode cL_law 238 = .ok (.iconst 2, 1) := by decide +kernel
theorem dL_law_239 : decode cL_law 239 = .ok (.iadd, 1) := by decide +kernel
theorem dL_law_240 : decode cL_law 240 = .ok (.iaload, 1) := by decide +kernel
theorem dL_law_241 : decode cL_law 241 = .ok (.invokevirtual 17, 3) := by decide +kernel
theorem dL_law_244 : decode cL_law 244 = .ok (.if_icmp .eq 1218, 3) := by decide +kernel
theorem dL_law_247 : decode cL_law 247 = .ok (.iconst 0, 1) := by decide +kernel
theorem dL_law_248 : decode cL_law 248 = .ok (.ireturn, 1) := by decide +kernel
theorem dL_law_249 : decode cL_law 249 = .ok (.aload_n 1, 1) := by decide +kernel
theorem dL_law_250 : decode cL_law 250 = .ok (.aload_n 0, 1) := by decide +kernel
theorem dL_law_251 : decode cL_law 251 = .ok (.iload_n 3, 1) := by decide +kernel
theorem dL_law_252 : decode cL_law 252 = .ok (.iconst 1, 1) := by decide +kernel
theorem dL_law_253 : decode cL_law 253 = .ok (.iadd, 1) := by decide +kernel
theorem dL_law_254 : decode cL_law 254 = .ok (.iaload, 1) := by decide +kernel
theorem dL_law_255 : decode cL_law 255 = .ok (.aload_n 0, 1) := by decide +kernel
theorem dL_law_256 : decode cL_law 256 = .ok (.iload_n 3, 1) := by decide +kernel
theorem dL_law_257 : decode cL_law 257 = .ok (.iconst 2, 1) := by decide +kernel
theorem dL_law_258 : decode cL_law 258 = .ok (.iadd, 1) := by decide +kernel
theorem dL_law_259 : decode cL_law 259 = .ok (.iaload, 1) := by decide +kernel
theorem dL_law_260 : decode cL_law 260 = .ok (.invokevirtual 18, 3) := by decide +kernel
theorem dL_law_263 : decode cL_law 263 = .ok (.aload_n 2, 1) := by decide +kernel
theorem dL_law_264 : decode cL_law 264 = .ok (.aload_n 0, 1) := by decide +kernel
theorem dL_law_265 : decode cL_law 265 = .ok (.iload_n 3, 1) := by decide +kernel
theorem dL_law_266 : decode cL_law 266 = .ok (.iconst 1, 1) := by decide +kernel
theorem dL_law_267 : decode cL_law 267 = .ok (.iadd, 1) := by decide +kernel
theorem dL_law_268 : decode cL_law 268 = .ok (.iaload, 1) := by decide +kernel
theorem dL_law_269 : decode cL_law 269 = .ok (.aload_n 0, 1) := by decide +kernel
theorem dL_law_270 : decode cL_law 270 = .ok (.iload_n 3, 1) := by decide +kernel
theorem dL_law_271 : decode cL_law 271 = .ok (.iconst 2, 1) := by decide +kernel
theorem dL_law_272 : decode cL_law 272 = .ok (.iadd, 1) := by decide +kernel
theorem dL_law_273 : decode cL_law 273 = .ok (.iaload, 1) := by decide +kernel
theorem dL_law_274 : decode cL_law 274 = .ok (.invokevirtual 21, 3) := by decide +kernel
theorem dL_law_277 : decode cL_law 277 = .ok (.if_icmp .eq 1185, 3) := by decide +kernel
theorem dL_law_280 : decode cL_law 280 = .ok (.iconst 0, 1) := by decide +kernel
theorem dL_law_281 : decode cL_law 281 = .ok (.ireturn, 1) := by decide +kernel
theorem dL_law_282 : decode cL_law 282 = .ok (.aload_n 1, 1) := by decide +kernel
theorem dL_law_283 : decode cL_law 283 = .ok (.aload_n 0, 1) := by decide +kernel
theorem dL_law_284 : decode cL_law 284 = .ok (.iload_n 3, 1) := by decide +kernel
theorem dL_law_285 : decode cL_law 285 = .ok (.iconst 1, 1) := by decide +kernel
theorem dL_law_286 : decode cL_law 286 = .ok (.iadd, 1) := by decide +kernel
theorem dL_law_287 : decode cL_law 287 = .ok (.iaload, 1) := by decide +kernel
theorem dL_law_288 : decode cL_law 288 = .ok (.aload_n 0, 1) := by decide +kernel
theorem dL_law_289 : decode cL_law 289 = .ok (.iload_n 3, 1) := by decide +kernel
theorem dL_law_290 : decode cL_law 290 = .ok (.iconst 2, 1) := by decide +kernel
theorem dL_law_291 : decode cL_law 291 = .ok (.iadd, 1) := by decide +kernel
theorem dL_law_292 : decode cL_law 292 = .ok (.iaload, 1) := by decide +kernel
theorem dL_law_293 : decode cL_law 293 = .ok (.invokevirtual 22, 3) := by decide +kernel
theorem dL_law_296 : decode cL_law 296 = .ok (.aload_n 2, 1) := by decide +kernel
theorem dL_law_297 : decode cL_law 297 = .ok (.aload_n 0, 1) := by decide +kernel
theorem dL_law_298 : decode cL_law 298 = .ok (.iload_n 3, 1) := by decide +kernel
theorem dL_law_299 : decode cL_law 299 = .ok (.iconst 1, 1) := by decide +kernel
theorem dL_law_300 : decode cL_law 300 = .ok (.iadd, 1) := by decide +kernel
theorem dL_law_301 : decode cL_law 301 = .ok (.iaload, 1) := by decide +kernel
theorem dL_law_302 : decode cL_law 302 = .ok (.aload_n 0, 1) := by decide +kernel
theorem dL_law_303 : decode cL_law 303 = .ok (.iload_n 3, 1) := by decide +kernel
theorem dL_law_304 : decode cL_law 304 = .ok (.iconst 2, 1) := by decide +kernel
theorem dL_law_305 : decode cL_law 305 = .ok (.iadd, 1) := by decide +kernel
theorem dL_law_306 : decode cL_law 306 = .ok (.iaload, 1) := by decide +kernel
theorem dL_law_307 : decode cL_law 307 = .ok (.invokevirtual 25, 3) := by decide +kernel
theorem dL_law_310 : decode cL_law 310 = .ok (.if_icmp .eq 1152, 3) := by decide +kernel
theorem dL_law_313 : decode cL_law 313 = .ok (.iconst 0, 1) := by decide +kernel
theorem dL_law_314 : decode cL_law 314 = .ok (.ireturn, 1) := by decide +kernel
theorem dL_law_315 : decode cL_law 315 = .ok (.aload_n 1, 1) := by decide +kernel
theorem dL_law_316 : decode cL_law 316 = .ok (.aload_n 0, 1) := by decide +kernel
theorem dL_law_317 : decode cL_law 317 = .ok (.iload_n 3, 1) := by decide +kernel
theorem dL_law_318 : decode cL_law 318 = .ok (.iconst 1, 1) := by decide +kernel
theorem dL_law_319 : decode cL_law 319 = .ok (.iadd, 1) := by decide +kernel
theorem dL_law_320 : decode cL_law 320 = .ok (.iaload, 1) := by decide +kernel
theorem dL_law_321 : decode cL_law 321 = .ok (.aload_n 0, 1) := by decide +kernel
theorem dL_law_322 : decode cL_law 322 = .ok (.iload_n 3, 1) := by decide +kernel
theorem dL_law_323 : decode cL_law 323 = .ok (.iconst 2, 1) := by decide +kernel
theorem dL_law_324 : decode cL_law 324 = .ok (.iadd, 1) := by decide +kernel
theorem dL_law_325 : decode cL_law 325 = .ok (.iaload, 1) := by decide +kernel
theorem dL_law_326 : decode cL_law 326 = .ok (.invokevirtual 26, 3) := by decide +kernel
theorem dL_law_329 : decode cL_law 329 = .ok (.aload_n 2, 1) := by decide +kernel
theorem dL_law_330 : decode cL_law 330 = .ok (.aload_n 0, 1) := by decide +kernel
theorem dL_law_331 : decode cL_law 331 = .ok (.iload_n 3, 1) := by decide +kernel
theorem dL_law_332 : decode cL_law 332 = .ok (.iconst 1, 1) := by decide +kernel
theorem dL_law_333 : decode cL_law 333 = .ok (.iadd, 1) := by decide +kernel
theorem dL_law_334 : decode cL_law 334 = .ok (.iaload, 1) := by decide +kernel
theorem dL_law_335 : decode cL_law 335 = .ok (.aload_n 0, 1) := by decide +kernel
theorem dL_law_336 : decode cL_law 336 = .ok (.iload_n 3, 1) := by decide +kernel
theorem dL_law_337 : decode cL_law 337 = .ok (.iconst 2, 1) := by decide +kernel
theorem dL_law_338 : decode cL_law 338 = .ok (.iadd, 1) := by decide +kernel
theorem dL_law_339 : decode cL_law 339 = .ok (.iaload, 1) := by decide +kernel
theorem dL_law_340 : decode cL_law 340 = .ok (.invokevirtual 29, 3) := by decide +kernel
theorem dL_law_343 : decode cL_law 343 = .ok (.if_icmp .eq 1119, 3) := by decide +kernel
theorem dL_law_346 : decode cL_law 346 = .ok (.iconst 0, 1) := by decide +kernel
theorem dL_law_347 : decode cL_law 347 = .ok (.ireturn, 1) := by decide +kernel
theorem dL_law_348 : decode cL_law 348 = .ok (.aload_n 1, 1) := by decide +kernel
theorem dL_law_349 : decode cL_law 349 = .ok (.aload_n 0, 1) := by decide +kernel
theorem dL_law_350 : decode cL_law 350 = .ok (.iload_n 3, 1) := by decide +kernel
theorem dL_law_351 : decode cL_law 351 = .ok (.iconst 1, 1) := by decide +kernel
theorem dL_law_352 : decode cL_law 352 = .ok (.iadd, 1) := by decide +kernel
theorem dL_law_353 : decode cL_law 353 = .ok (.iaload, 1) := by decide +kernel
theorem dL_law_354 : decode cL_law 354 = .ok (.aload_n 0, 1) := by decide +kernel
theorem dL_law_355 : decode cL_law 355 = .ok (.iload_n 3, 1) := by decide +kernel
theorem dL_law_356 : decode cL_law 356 = .ok (.iconst 2, 1) := by decide +kernel
theorem dL_law_357 : decode cL_law 357 = .ok (.iadd, 1) := by decide +kernel
theorem dL_law_358 : decode cL_law 358 = .ok (.iaload, 1) := by decide +kernel
theorem dL_law_359 : decode cL_law 359 = .ok (.invokevirtual 30, 3) := by decide +kernel
theorem dL_law_362 : decode cL_law 362 = .ok (.aload_n 2, 1) := by decide +kernel
theorem dL_law_363 : decode cL_law 363 = .ok (.aload_n 0, 1) := by decide +kernel
theorem dL_law_364 : decode cL_law 364 = .ok (.iload_n 3, 1) := by decide +kernel
theorem dL_law_365 : decode cL_law 365 = .ok (.iconst 1, 1) := by decide +kernel
theorem dL_law_366 : decode cL_law 366 = .ok (.iadd, 1) := by decide +kernel
theorem dL_law_367 : decode cL_law 367 = .ok (.iaload, 1) := by decide +kernel
theorem dL_law_368 : decode cL_law 368 = .ok (.aload_n 0, 1) := by decide +kernel
theorem dL_law_369 : decode cL_law 369 = .ok (.iload_n 3, 1) := by decide +kernel
theorem dL_law_370 : decode cL_law 370 = .ok (.iconst 2, 1) := by decide +kernel
theorem dL_law_371 : decode cL_law 371 = .ok (.iadd, 1) := by decide +kernel
theorem dL_law_372 : decode cL_law 372 = .ok (.iaload, 1) := by decide +kernel
theorem dL_law_373 : decode cL_law 373 = .ok (.invokevirtual 33, 3) := by decide +kernel
theorem dL_law_376 : decode cL_law 376 = .ok (.if_icmp .eq 1086, 3) := by decide +kernel
theorem dL_law_379 : decode cL_law 379 = .ok (.iconst 0, 1) := by decide +kernel
theorem dL_law_380 : decode cL_law 380 = .ok (.ireturn, 1) := by decide +kernel
theorem dL_law_381 : decode cL_law 381 = .ok (.aload_n 1, 1) := by decide +kernel
theorem dL_law_382 : decode cL_law 382 = .ok (.aload_n 0, 1) := by decide +kernel
theorem dL_law_383 : decode cL_law 383 = .ok (.iload_n 3, 1) := by decide +kernel
theorem dL_law_384 : decode cL_law 384 = .ok (.iconst 1, 1) := by decide +kernel
theorem dL_law_385 : decode cL_law 385 = .ok (.iadd, 1) := by decide +kernel
theorem dL_law_386 : decode cL_law 386 = .ok (.iaload, 1) := by decide +kernel
theorem dL_law_387 : decode cL_law 387 = .ok (.aload_n 0, 1) := by decide +kernel
theorem dL_law_388 : decode cL_law 388 = .ok (.iload_n 3, 1) := by decide +kernel
theorem dL_law_389 : decode cL_law 389 = .ok (.iconst 2, 1) := by decide +kernel
theorem dL_law_390 : decode cL_law 390 = .ok (.iadd, 1) := by decide +kernel
theorem dL_law_391 : decode cL_law 391 = .ok (.iaload, 1) := by decide +kernel
theorem dL_law_392 : decode cL_law 392 = .ok (.aload_n 0, 1) := by decide +kernel
theorem dL_law_393 : decode cL_law 393 = .ok (.iload_n 3, 1) := by decide +kernel
theorem dL_law_394 : decode cL_law 394 = .ok (.iconst 3, 1) := by decide +kernel
theorem dL_law_395 : decode cL_law 395 = .ok (.iadd, 1) := by decide +kernel
theorem dL_law_396 : decode cL_law 396 = .ok (.iaload, 1) := by decide +kernel
theorem dL_law_397 : decode cL_law 397 = .ok (.invokevirtual 34, 3) := by decide +kernel
theorem dL_law_400 : decode cL_law 400 = .ok (.aload_n 2, 1) := by decide +kernel
theorem dL_law_401 : decode cL_law 401 = .ok (.aload_n 0, 1) := by decide +kernel
theorem dL_law_402 : decode cL_law 402 = .ok (.iload_n 3, 1) := by decide +kernel
theorem dL_law_403 : decode cL_law 403 = .ok (.iconst 1, 1) := by decide +kernel
theorem dL_law_404 : decode cL_law 404 = .ok (.iadd, 1) := by decide +kernel
theorem dL_law_405 : decode cL_law 405 = .ok (.iaload, 1) := by decide +kernel
theorem dL_law_406 : decode cL_law 406 = .ok (.aload_n 0, 1) := by decide +kernel
theorem dL_law_407 : decode cL_law 407 = .ok (.iload_n 3, 1) := by decide +kernel
theorem dL_law_408 : decode cL_law 408 = .ok (.iconst 2, 1) := by decide +kernel
theorem dL_law_409 : decode cL_law 409 = .ok (.iadd, 1) := by decide +kernel
theorem dL_law_410 : decode cL_law 410 = .ok (.iaload, 1) := by decide +kernel
theorem dL_law_411 : decode cL_law 411 = .ok (.aload_n 0, 1) := by decide +kernel
theorem dL_law_412 : decode cL_law 412 = .ok (.iload_n 3, 1) := by decide +kernel
theorem dL_law_413 : decode cL_law 413 = .ok (.iconst 3, 1) := by decide +kernel
theorem dL_law_414 : decode cL_law 414 = .ok (.iadd, 1) := by decide +kernel
theorem dL_law_415 : decode cL_law 415 = .ok (.iaload, 1) := by decide +kernel
theorem dL_law_416 : decode cL_law 416 = .ok (.invokevirtual 38, 3) := by decide +kernel
theorem dL_law_419 : decode cL_law 419 = .ok (.if_icmp .eq 1043, 3) := by decide +kernel
theorem dL_law_422 : decode cL_law 422 = .ok (.iconst 0, 1) := by decide +kernel
theorem dL_law_423 : decode cL_law 423 = .ok (.ireturn, 1) := by decide +kernel
theorem dL_law_424 : decode cL_law 424 = .ok (.aload_n 1, 1) := by decide +kernel
theorem dL_law_425 : decode cL_law 425 = .ok (.aload_n 0, 1) := by decide +kernel
theorem dL_law_426 : decode cL_law 426 = .ok (.iload_n 3, 1) := by decide +kernel
theorem dL_law_427 : decode cL_law 427 = .ok (.iconst 1, 1) := by decide +kernel
theorem dL_law_428 : decode cL_law 428 = .ok (.iadd, 1) := by decide +kernel
theorem dL_law_429 : decode cL_law 429 = .ok (.iaload, 1) := by decide +kernel
theorem dL_law_430 : decode cL_law 430 = .ok (.invokevirtual 39, 3) := by decide +kernel
theorem dL_law_433 : decode cL_law 433 = .ok (.aload_n 2, 1) := by decide +kernel
theorem dL_law_434 : decode cL_law 434 = .ok (.aload_n 0, 1) := by decide +kernel
theorem dL_law_435 : decode cL_law 435 = .ok (.iload_n 3, 1) := by decide +kernel
theorem dL_law_436 : decode cL_law 436 = .ok (.iconst 1, 1) := by decide +kernel
theorem dL_law_437 : decode cL_law 437 = .ok (.iadd, 1) := by decide +kernel
theorem dL_law_438 : decode cL_law 438 = .ok (.iaload, 1) := by decide +kernel
theorem dL_law_439 : decode cL_law 439 = .ok (.invokevirtual 43, 3) := by decide +kernel
theorem dL_law_442 : decode cL_law 442 = .ok (.if_icmp .eq 1020, 3) := by decide +kernel
theorem dL_law_445 : decode cL_law 445 = .ok (.iconst 0, 1) := by decide +kernel
theorem dL_law_446 : decode cL_law 446 = .ok (.ireturn, 1) := by decide +kernel
theorem dL_law_447 : decode cL_law 447 = .ok (.aload_n 1, 1) := by decide +kernel
theorem dL_law_448 : decode cL_law 448 = .ok (.aload_n 0, 1) := by decide +kernel
theorem dL_law_449 : decode cL_law 449 = .ok (.iload_n 3, 1) := by decide +kernel
theorem dL_law_450 : decode cL_law 450 = .ok (.iconst 1, 1) := by decide +kernel
theorem dL_law_451 : decode cL_law 451 = .ok (.iadd, 1) := by decide +kernel
theorem dL_law_452 : decode cL_law 452 = .ok (.iaload, 1) := by decide +kernel
theorem dL_law_453 : decode cL_law 453 = .ok (.invokevirtual 44, 3) := by decide +kernel
theorem dL_law_456 : decode cL_law 456 = .ok (.aload_n 2, 1) := by decide +kernel
theorem dL_law_457 : decode cL_law 457 = .ok (.aload_n 0, 1) := by decide +kernel
theorem dL_law_458 : decode cL_law 458 = .ok (.iload_n 3, 1) := by decide +kernel
theorem dL_law_459 : decode cL_law 459 = .ok (.iconst 1, 1) := by decide +kernel
theorem dL_law_460 : decode cL_law 460 = .ok (.iadd, 1) := by decide +kernel
theorem dL_law_461 : decode cL_law 461 = .ok (.iaload, 1) := by decide +kernel
theorem dL_law_462 : decode cL_law 462 = .ok (.invokevirtual 47, 3) := by decide +kernel
theorem dL_law_465 : decode cL_law 465 = .ok (.if_icmp .eq 997, 3) := by decide +kernel
theorem dL_law_468 : decode cL_law 468 = .ok (.iconst 0, 1) := by decide +kernel
theorem dL_law_469 : decode cL_law 469 = .ok (.ireturn, 1) := by decide +kernel
theorem dL_law_470 : decode cL_law 470 = .ok (.aload_n 1, 1) := by decide +kernel
theorem dL_law_471 : decode cL_law 471 = .ok (.aload_n 0, 1) := by decide +kernel
theorem dL_law_472 : decode cL_law 472 = .ok (.iload_n 3, 1) := by decide +kernel
theorem dL_law_473 : decode cL_law 473 = .ok (.iconst 1, 1) := by decide +kernel
theorem dL_law_474 : decode cL_law 474 = .ok (.iadd, 1) := by decide +kernel
theorem dL_law_475 : decode cL_law 475 = .ok (.iaload, 1) := by decide +kernel
theorem dL_law_476 : decode cL_law 476 = .ok (.aload_n 0, 1) := by decide +kernel
theorem dL_law_477 : decode cL_law 477 = .ok (.iload_n 3, 1) := by decide +kernel
theorem dL_law_478 : decode cL_law 478 = .ok (.iconst 2, 1) := by decide +kernel
theorem dL_law_479 : decode cL_law 479 = .ok (.iadd, 1) := by decide +kernel
theorem dL_law_480 : decode cL_law 480 = .ok (.iaload, 1) := by decide +kernel
theorem dL_law_481 : decode cL_law 481 = .ok (.aload_n 0, 1) := by decide +kernel
theorem dL_law_482 : decode cL_law 482 = .ok (.iload_n 3, 1) := by decide +kernel
theorem dL_law_483 : decode cL_law 483 = .ok (.iconst 3, 1) := by decide +kernel
theorem dL_law_484 : decode cL_law 484 = .ok (.iadd, 1) := by decide +kernel
theorem dL_law_485 : decode cL_law 485 = .ok (.iaload, 1) := by decide +kernel
theorem dL_law_486 : decode cL_law 486 = .ok (.invokevirtual 48, 3) := by decide +kernel
theorem dL_law_489 : decode cL_law 489 = .ok (.aload_n 2, 1) := by decide +kernel
theorem dL_law_490 : decode cL_law 490 = .ok (.aload_n 0, 1) := by decide +kernel
theorem dL_law_491 : decode cL_law 491 = .ok (.iload_n 3, 1) := by decide +kernel
theorem dL_law_492 : decode cL_law 492 = .ok (.iconst 1, 1) := by decide +kernel
theorem dL_law_493 : decode cL_law 493 = .ok (.iadd, 1) := by decide +kernel
theorem dL_law_494 : decode cL_law 494 = .ok (.iaload, 1) := by decide +kernel
theorem dL_law_495 : decode cL_law 495 = .ok (.aload_n 0, 1) := by decide +kernel
theorem dL_law_496 : decode cL_law 496 = .ok (.iload_n 3, 1) := by decide +kernel
theorem dL_law_497 : decode cL_law 497 = .ok (.iconst 2, 1) := by decide +kernel
theorem dL_law_498 : decode cL_law 498 = .ok (.iadd, 1) := by decide +kernel
theorem dL_law_499 : decode cL_law 499 = .ok (.iaload, 1) := by decide +kernel
theorem dL_law_500 : decode cL_law 500 = .ok (.aload_n 0, 1) := by decide +kernel
theorem dL_law_501 : decode cL_law 501 = .ok (.iload_n 3, 1) := by decide +kernel
theorem dL_law_502 : decode cL_law 502 = .ok (.iconst 3, 1) := by decide +kernel
theorem dL_law_503 : decode cL_law 503 = .ok (.iadd, 1) := by decide +kernel
theorem dL_law_504 : decode cL_law 504 = .ok (.iaload, 1) := by decide +kernel
theorem dL_law_505 : decode cL_law 505 = .ok (.invokevirtual 51, 3) := by decide +kernel
theorem dL_law_508 : decode cL_law 508 = .ok (.if_icmp .eq 954, 3) := by decide +kernel
theorem dL_law_511 : decode cL_law 511 = .ok (.iconst 0, 1) := by decide +kernel
theorem dL_law_512 : decode cL_law 512 = .ok (.ireturn, 1) := by decide +kernel
theorem dL_law_513 : decode cL_law 513 = .ok (.aload_n 1, 1) := by decide +kernel
theorem dL_law_514 : decode cL_law 514 = .ok (.aload_n 0, 1) := by decide +kernel
theorem dL_law_515 : decode cL_law 515 = .ok (.iload_n 3, 1) := by decide +kernel
theorem dL_law_516 : decode cL_law 516 = .ok (.iconst 1, 1) := by decide +kernel
theorem dL_law_517 : decode cL_law 517 = .ok (.iadd, 1) := by decide +kernel
theorem dL_law_518 : decode cL_law 518 = .ok (.iaload, 1) := by decide +kernel
theorem dL_law_519 : decode cL_law 519 = .ok (.aload_n 0, 1) := by decide +kernel
theorem dL_law_520 : decode cL_law 520 = .ok (.iload_n 3, 1) := by decide +kernel
theorem dL_law_521 : decode cL_law 521 = .ok (.iconst 2, 1) := by decide +kernel
theorem dL_law_522 : decode cL_law 522 = .ok (.iadd, 1) := by decide +kernel
theorem dL_law_523 : decode cL_law 523 = .ok (.iaload, 1) := by decide +kernel
theorem dL_law_524 : decode cL_law 524 = .ok (.aload_n 0, 1) := by decide +kernel
theorem dL_law_525 : decode cL_law 525 = .ok (.iload_n 3, 1) := by decide +kernel
theorem dL_law_526 : decode cL_law 526 = .ok (.iconst 3, 1) := by decide +kernel
theorem dL_law_527 : decode cL_law 527 = .ok (.iadd, 1) := by decide +kernel
theorem dL_law_528 : decode cL_law 528 = .ok (.iaload, 1) := by decide +kernel
theorem dL_law_529 : decode cL_law 529 = .ok (.invokevirtual 52, 3) := by decide +kernel
theorem dL_law_532 : decode cL_law 532 = .ok (.aload_n 2, 1) := by decide +kernel
theorem dL_law_533 : decode cL_law 533 = .ok (.aload_n 0, 1) := by decide +kernel
theorem dL_law_534 : decode cL_law 534 = .ok (.iload_n 3, 1) := by decide +kernel
theorem dL_law_535 : decode cL_law 535 = .ok (.iconst 1, 1) := by decide +kernel
theorem dL_law_536 : decode cL_law 536 = .ok (.iadd, 1) := by decide +kernel
theorem dL_law_537 : decode cL_law 537 = .ok (.iaload, 1) := by decide +kernel
theorem dL_law_538 : decode cL_law 538 = .ok (.aload_n 0, 1) := by decide +kernel
theorem dL_law_539 : decode cL_law 539 = .ok (.iload_n 3, 1) := by decide +kernel
theorem dL_law_540 : decode cL_law 540 = .ok (.iconst 2, 1) := by decide +kernel
theorem dL_law_541 : decode cL_law 541 = .ok (.iadd, 1) := by decide +kernel
theorem dL_law_542 : decode cL_law 542 = .ok (.iaload, 1) := by decide +kernel
theorem dL_law_543 : decode cL_law 543 = .ok (.aload_n 0, 1) := by decide +kernel
theorem dL_law_544 : decode cL_law 544 = .ok (.iload_n 3, 1) := by decide +kernel
theorem dL_law_545 : decode cL_law 545 = .ok (.iconst 3, 1) := by decide +kernel
theorem dL_law_546 : decode cL_law 546 = .ok (.iadd, 1) := by decide +kernel
theorem dL_law_547 : decode cL_law 547 = .ok (.iaload, 1) := by decide +kernel
theorem dL_law_548 : decode cL_law 548 = .ok (.invokevirtual 55, 3) := by decide +kernel
theorem dL_law_551 : decode cL_law 551 = .ok (.if_icmp .eq 911, 3) := by decide +kernel
theorem dL_law_554 : decode cL_law 554 = .ok (.iconst 0, 1) := by decide +kernel
theorem dL_law_555 : decode cL_law 555 = .ok (.ireturn, 1) := by decide +kernel
theorem dL_law_556 : decode cL_law 556 = .ok (.aload_n 1, 1) := by decide +kernel
theorem dL_law_557 : decode cL_law 557 = .ok (.aload_n 0, 1) := by decide +kernel
theorem dL_law_558 : decode cL_law 558 = .ok (.iload_n 3, 1) := by decide +kernel
theorem dL_law_559 : decode cL_law 559 = .ok (.iconst 1, 1) := by decide +kernel
theorem dL_law_560 : decode cL_law 560 = .ok (.iadd, 1) := by decide +kernel
theorem dL_law_561 : decode cL_law 561 = .ok (.iaload, 1) := by decide +kernel
theorem dL_law_562 : decode cL_law 562 = .ok (.invokevirtual 56, 3) := by decide +kernel
theorem dL_law_565 : decode cL_law 565 = .ok (.aload_n 2, 1) := by decide +kernel
theorem dL_law_566 : decode cL_law 566 = .ok (.aload_n 0, 1) := by decide +kernel
theorem dL_law_567 : decode cL_law 567 = .ok (.iload_n 3, 1) := by decide +kernel
theorem dL_law_568 : decode cL_law 568 = .ok (.iconst 1, 1) := by decide +kernel
theorem dL_law_569 : decode cL_law 569 = .ok (.iadd, 1) := by decide +kernel
theorem dL_law_570 : decode cL_law 570 = .ok (.iaload, 1) := by decide +kernel
theorem dL_law_571 : decode cL_law 571 = .ok (.invokevirtual 59, 3) := by decide +kernel
theorem dL_law_574 : decode cL_law 574 = .ok (.if_icmp .eq 888, 3) := by decide +kernel
theorem dL_law_577 : decode cL_law 577 = .ok (.iconst 0, 1) := by decide +kernel
theorem dL_law_578 : decode cL_law 578 = .ok (.ireturn, 1) := by decide +kernel
theorem dL_law_579 : decode cL_law 579 = .ok (.aload_n 1, 1) := by decide +kernel
theorem dL_law_580 : decode cL_law 580 = .ok (.aload_n 0, 1) := by decide +kernel
theorem dL_law_581 : decode cL_law 581 = .ok (.iload_n 3, 1) := by decide +kernel
theorem dL_law_582 : decode cL_law 582 = .ok (.iconst 1, 1) := by decide +kernel
theorem dL_law_583 : decode cL_law 583 = .ok (.iadd, 1) := by decide +kernel
theorem dL_law_584 : decode cL_law 584 = .ok (.iaload, 1) := by decide +kernel
theorem dL_law_585 : decode cL_law 585 = .ok (.aload_n 0, 1) := by decide +kernel
theorem dL_law_586 : decode cL_law 586 = .ok (.iload_n 3, 1) := by decide +kernel
theorem dL_law_587 : decode cL_law 587 = .ok (.iconst 2, 1) := by decide +kernel
theorem dL_law_588 : decode cL_law 588 = .ok (.iadd, 1) := by decide +kernel
theorem dL_law_589 : decode cL_law 589 = .ok (.iaload, 1) := by decide +kernel
theorem dL_law_590 : decode cL_law 590 = .ok (.invokevirtual 60, 3) := by decide +kernel
theorem dL_law_593 : decode cL_law 593 = .ok (.aload_n 2, 1) := by decide +kernel
theorem dL_law_594 : decode cL_law 594 = .ok (.aload_n 0, 1) := by decide +kernel
theorem dL_law_595 : decode cL_law 595 = .ok (.iload_n 3, 1) := by decide +kernel
theorem dL_law_596 : decode cL_law 596 = .ok (.iconst 1, 1) := by decide +kernel
theorem dL_law_597 : decode cL_law 597 = .ok (.iadd, 1) := by decide +kernel
theorem dL_law_598 : decode cL_law 598 = .ok (.iaload, 1) := by decide +kernel
theorem dL_law_599 : decode cL_law 599 = .ok (.aload_n 0, 1) := by decide +kernel
theorem dL_law_600 : decode cL_law 600 = .ok (.iload_n 3, 1) := by decide +kernel
theorem dL_law_601 : decode cL_law 601 = .ok (.iconst 2, 1) := by decide +kernel
theorem dL_law_602 : decode cL_law 602 = .ok (.iadd, 1) := by decide +kernel
theorem dL_law_603 : decode cL_law 603 = .ok (.iaload, 1) := by decide +kernel
theorem dL_law_604 : decode cL_law 604 = .ok (.invokevirtual 63, 3) := by decide +kernel
theorem dL_law_607 : decode cL_law 607 = .ok (.if_icmp .eq 855, 3) := by decide +kernel
theorem dL_law_610 : decode cL_law 610 = .ok (.iconst 0, 1) := by decide +kernel
theorem dL_law_611 : decode cL_law 611 = .ok (.ireturn, 1) := by decide +kernel
theorem dL_law_612 : decode cL_law 612 = .ok (.aload_n 1, 1) := by decide +kernel
theorem dL_law_613 : decode cL_law 613 = .ok (.invokevirtual 64, 3) := by decide +kernel
theorem dL_law_616 : decode cL_law 616 = .ok (.aload_n 2, 1) := by decide +kernel
theorem dL_law_617 : decode cL_law 617 = .ok (.invokevirtual 68, 3) := by decide +kernel
theorem dL_law_620 : decode cL_law 620 = .ok (.if_icmp .eq 842, 3) := by decide +kernel
theorem dL_law_623 : decode cL_law 623 = .ok (.iconst 0, 1) := by decide +kernel
theorem dL_law_624 : decode cL_law 624 = .ok (.ireturn, 1) := by decide +kernel
theorem dL_law_625 : decode cL_law 625 = .ok (.aload_n 1, 1) := by decide +kernel
theorem dL_law_626 : decode cL_law 626 = .ok (.aload_n 0, 1) := by decide +kernel
theorem dL_law_627 : decode cL_law 627 = .ok (.iload_n 3, 1) := by decide +kernel
theorem dL_law_628 : decode cL_law 628 = .ok (.iconst 1, 1) := by decide +kernel
theorem dL_law_629 : decode cL_law 629 = .ok (.iadd, 1) := by decide +kernel
theorem dL_law_630 : decode cL_law 630 = .ok (.iaload, 1) := by decide +kernel
theorem dL_law_631 : decode cL_law 631 = .ok (.invokevirtual 69, 3) := by decide +kernel
theorem dL_law_634 : decode cL_law 634 = .ok (.aload_n 2, 1) := by decide +kernel
theorem dL_law_635 : decode cL_law 635 = .ok (.aload_n 0, 1) := by decide +kernel
theorem dL_law_636 : decode cL_law 636 = .ok (.iload_n 3, 1) := by decide +kernel
theorem dL_law_637 : decode cL_law 637 = .ok (.iconst 1, 1) := by decide +kernel
theorem dL_law_638 : decode cL_law 638 = .ok (.iadd, 1) := by decide +kernel
theorem dL_law_639 : decode cL_law 639 = .ok (.iaload, 1) := by decide +kernel
theorem dL_law_640 : decode cL_law 640 = .ok (.invokevirtual 72, 3) := by decide +kernel
theorem dL_law_643 : decode cL_law 643 = .ok (.if_icmp .eq 819, 3) := by decide +kernel
theorem dL_law_646 : decode cL_law 646 = .ok (.iconst 0, 1) := by decide +kernel
theorem dL_law_647 : decode cL_law 647 = .ok (.ireturn, 1) := by decide +kernel
theorem dL_law_648 : decode cL_law 648 = .ok (.aload_n 1, 1) := by decide +kernel
theorem dL_law_649 : decode cL_law 649 = .ok (.aload_n 0, 1) := by decide +kernel
theorem dL_law_650 : decode cL_law 650 = .ok (.iload_n 3, 1) := by decide +kernel
theorem dL_law_651 : decode cL_law 651 = .ok (.iconst 1, 1) := by decide +kernel
theorem dL_law_652 : decode cL_law 652 = .ok (.iadd, 1) := by decide +kernel
theorem dL_law_653 : decode cL_law 653 = .ok (.iaload, 1) := by decide +kernel
theorem dL_law_654 : decode cL_law 654 = .ok (.aload_n 0, 1) := by decide +kernel
theorem dL_law_655 : decode cL_law 655 = .ok (.iload_n 3, 1) := by decide +kernel
theorem dL_law_656 : decode cL_law 656 = .ok (.iconst 2, 1) := by decide +kernel
theorem dL_law_657 : decode cL_law 657 = .ok (.iadd, 1) := by decide +kernel
theorem dL_law_658 : decode cL_law 658 = .ok (.iaload, 1) := by decide +kernel
theorem dL_law_659 : decode cL_law 659 = .ok (.invokevirtual 73, 3) := by decide +kernel
theorem dL_law_662 : decode cL_law 662 = .ok (.aload_n 2, 1) := by decide +kernel
theorem dL_law_663 : decode cL_law 663 = .ok (.aload_n 0, 1) := by decide +kernel
theorem dL_law_664 : decode cL_law 664 = .ok (.iload_n 3, 1) := by decide +kernel
theorem dL_law_665 : decode cL_law 665 = .ok (.iconst 1, 1) := by decide +kernel
theorem dL_law_666 : decode cL_law 666 = .ok (.iadd, 1) := by decide +kernel
theorem dL_law_667 : decode cL_law 667 = .ok (.iaload, 1) := by decide +kernel
theorem dL_law_668 : decode cL_law 668 = .ok (.aload_n 0, 1) := by decide +kernel
theorem dL_law_669 : decode cL_law 669 = .ok (.iload_n 3, 1) := by decide +kernel
theorem dL_law_670 : decode cL_law 670 = .ok (.iconst 2, 1) := by decide +kernel
theorem dL_law_671 : decode cL_law 671 = .ok (.iadd, 1) := by decide +kernel
theorem dL_law_672 : decode cL_law 672 = .ok (.iaload, 1) := by decide +kernel
theorem dL_law_673 : decode cL_law 673 = .ok (.invokevirtual 76, 3) := by decide +kernel
theorem dL_law_676 : decode cL_law 676 = .ok (.if_icmp .eq 786, 3) := by decide +kernel
theorem dL_law_679 : decode cL_law 679 = .ok (.iconst 0, 1) := by decide +kernel
theorem dL_law_680 : decode cL_law 680 = .ok (.ireturn, 1) := by decide +kernel
theorem dL_law_681 : decode cL_law 681 = .ok (.aload_n 1, 1) := by decide +kernel
theorem dL_law_682 : decode cL_law 682 = .ok (.aload_n 0, 1) := by decide +kernel
theorem dL_law_683 : decode cL_law 683 = .ok (.iload_n 3, 1) := by decide +kernel
theorem dL_law_684 : decode cL_law 684 = .ok (.iconst 1, 1) := by decide +kernel
theorem dL_law_685 : decode cL_law 685 = .ok (.iadd, 1) := by decide +kernel
theorem dL_law_686 : decode cL_law 686 = .ok (.iaload, 1) := by decide +kernel
theorem dL_law_687 : decode cL_law 687 = .ok (.aload_n 0, 1) := by decide +kernel
theorem dL_law_688 : decode cL_law 688 = .ok (.iload_n 3, 1) := by decide +kernel
theorem dL_law_689 : decode cL_law 689 = .ok (.iconst 2, 1) := by decide +kernel
theorem dL_law_690 : decode cL_law 690 = .ok (.iadd, 1) := by decide +kernel
theorem dL_law_691 : decode cL_law 691 = .ok (.iaload, 1) := by decide +kernel
theorem dL_law_692 : decode cL_law 692 = .ok (.invokevirtual 77, 3) := by decide +kernel
theorem dL_law_695 : decode cL_law 695 = .ok (.aload_n 2, 1) := by decide +kernel
theorem dL_law_696 : decode cL_law 696 = .ok (.aload_n 0, 1) := by decide +kernel
theorem dL_law_697 : decode cL_law 697 = .ok (.iload_n 3, 1) := by decide +kernel
theorem dL_law_698 : decode cL_law 698 = .ok (.iconst 1, 1) := by decide +kernel
theorem dL_law_699 : decode cL_law 699 = .ok (.iadd, 1) := by decide +kernel
theorem dL_law_700 : decode cL_law 700 = .ok (.iaload, 1) := by decide +kernel
theorem dL_law_701 : decode cL_law 701 = .ok (.aload_n 0, 1) := by decide +kernel
theorem dL_law_702 : decode cL_law 702 = .ok (.iload_n 3, 1) := by decide +kernel
theorem dL_law_703 : decode cL_law 703 = .ok (.iconst 2, 1) := by decide +kernel
theorem dL_law_704 : decode cL_law 704 = .ok (.iadd, 1) := by decide +kernel
theorem dL_law_705 : decode cL_law 705 = .ok (.iaload, 1) := by decide +kernel
theorem dL_law_706 : decode cL_law 706 = .ok (.invokevirtual 80, 3) := by decide +kernel
theorem dL_law_709 : decode cL_law 709 = .ok (.if_icmp .eq 753, 3) := by decide +kernel
theorem dL_law_712 : decode cL_law 712 = .ok (.iconst 0, 1) := by decide +kernel
theorem dL_law_713 : decode cL_law 713 = .ok (.ireturn, 1) := by decide +kernel
theorem dL_law_714 : decode cL_law 714 = .ok (.aload_n 1, 1) := by decide +kernel
theorem dL_law_715 : decode cL_law 715 = .ok (.aload_n 0, 1) := by decide +kernel
theorem dL_law_716 : decode cL_law 716 = .ok (.iload_n 3, 1) := by decide +kernel
theorem dL_law_717 : decode cL_law 717 = .ok (.iconst 1, 1) := by decide +kernel
theorem dL_law_718 : decode cL_law 718 = .ok (.iadd, 1) := by decide +kernel
theorem dL_law_719 : decode cL_law 719 = .ok (.iaload, 1) := by decide +kernel
theorem dL_law_720 : decode cL_law 720 = .ok (.aload_n 0, 1) := by decide +kernel
theorem dL_law_721 : decode cL_law 721 = .ok (.iload_n 3, 1) := by decide +kernel
theorem dL_law_722 : decode cL_law 722 = .ok (.iconst 2, 1) := by decide +kernel
theorem dL_law_723 : decode cL_law 723 = .ok (.iadd, 1) := by decide +kernel
theorem dL_law_724 : decode cL_law 724 = .ok (.iaload, 1) := by decide +kernel
theorem dL_law_725 : decode cL_law 725 = .ok (.invokevirtual 81, 3) := by decide +kernel
theorem dL_law_728 : decode cL_law 728 = .ok (.aload_n 2, 1) := by decide +kernel
theorem dL_law_729 : decode cL_law 729 = .ok (.aload_n 0, 1) := by decide +kernel
theorem dL_law_730 : decode cL_law 730 = .ok (.iload_n 3, 1) := by decide +kernel
theorem dL_law_731 : decode cL_law 731 = .ok (.iconst 1, 1) := by decide +kernel
theorem dL_law_732 : decode cL_law 732 = .ok (.iadd, 1) := by decide +kernel
theorem dL_law_733 : decode cL_law 733 = .ok (.iaload, 1) := by decide +kernel
theorem dL_law_734 : decode cL_law 734 = .ok (.aload_n 0, 1) := by decide +kernel
theorem dL_law_735 : decode cL_law 735 = .ok (.iload_n 3, 1) := by decide +kernel
theorem dL_law_736 : decode cL_law 736 = .ok (.iconst 2, 1) := by decide +kernel
theorem dL_law_737 : decode cL_law 737 = .ok (.iadd, 1) := by decide +kernel
theorem dL_law_738 : decode cL_law 738 = .ok (.iaload, 1) := by decide +kernel
theorem dL_law_739 : decode cL_law 739 = .ok (.invokevirtual 84, 3) := by decide +kernel
theorem dL_law_742 : decode cL_law 742 = .ok (.if_icmp .eq 720, 3) := by decide +kernel
theorem dL_law_745 : decode cL_law 745 = .ok (.iconst 0, 1) := by decide +kernel
theorem dL_law_746 : decode cL_law 746 = .ok (.ireturn, 1) := by decide +kernel
theorem dL_law_747 : decode cL_law 747 = .ok (.aload_n 1, 1) := by decide +kernel
theorem dL_law_748 : decode cL_law 748 = .ok (.aload_n 0, 1) := by decide +kernel
theorem dL_law_749 : decode cL_law 749 = .ok (.iload_n 3, 1) := by decide +kernel
theorem dL_law_750 : decode cL_law 750 = .ok (.iconst 1, 1) := by decide +kernel
theorem dL_law_751 : decode cL_law 751 = .ok (.iadd, 1) := by decide +kernel
theorem dL_law_752 : decode cL_law 752 = .ok (.iaload, 1) := by decide +kernel
theorem dL_law_753 : decode cL_law 753 = .ok (.invokevirtual 85, 3) := by decide +kernel
theorem dL_law_756 : decode cL_law 756 = .ok (.aload_n 2, 1) := by decide +kernel
theorem dL_law_757 : decode cL_law 757 = .ok (.aload_n 0, 1) := by decide +kernel
theorem dL_law_758 : decode cL_law 758 = .ok (.iload_n 3, 1) := by decide +kernel
theorem dL_law_759 : decode cL_law 759 = .ok (.iconst 1, 1) := by decide +kernel
theorem dL_law_760 : decode cL_law 760 = .ok (.iadd, 1) := by decide +kernel
theorem dL_law_761 : decode cL_law 761 = .ok (.iaload, 1) := by decide +kernel
theorem dL_law_762 : decode cL_law 762 = .ok (.invokevirtual 88, 3) := by decide +kernel
theorem dL_law_765 : decode cL_law 765 = .ok (.if_icmp .eq 697, 3) := by decide +kernel
theorem dL_law_768 : decode cL_law 768 = .ok (.iconst 0, 1) := by decide +kernel
theorem dL_law_769 : decode cL_law 769 = .ok (.ireturn, 1) := by decide +kernel
theorem dL_law_770 : decode cL_law 770 = .ok (.aload_n 1, 1) := by decide +kernel
theorem dL_law_771 : decode cL_law 771 = .ok (.aload_n 0, 1) := by decide +kernel
theorem dL_law_772 : decode cL_law 772 = .ok (.iload_n 3, 1) := by decide +kernel
theorem dL_law_773 : decode cL_law 773 = .ok (.iconst 1, 1) := by decide +kernel
theorem dL_law_774 : decode cL_law 774 = .ok (.iadd, 1) := by decide +kernel
theorem dL_law_775 : decode cL_law 775 = .ok (.iaload, 1) := by decide +kernel
theorem dL_law_776 : decode cL_law 776 = .ok (.invokevirtual 89, 3) := by decide +kernel
theorem dL_law_779 : decode cL_law 779 = .ok (.aload_n 2, 1) := by decide +kernel
theorem dL_law_780 : decode cL_law 780 = .ok (.aload_n 0, 1) := by decide +kernel
theorem dL_law_781 : decode cL_law 781 = .ok (.iload_n 3, 1) := by decide +kernel
theorem dL_law_782 : decode cL_law 782 = .ok (.iconst 1, 1) := by decide +kernel
theorem dL_law_783 : decode cL_law 783 = .ok (.iadd, 1) := by decide +kernel
theorem dL_law_784 : decode cL_law 784 = .ok (.iaload, 1) := by decide +kernel
theorem dL_law_785 : decode cL_law 785 = .ok (.invokevirtual 92, 3) := by decide +kernel
theorem dL_law_788 : decode cL_law 788 = .ok (.if_icmp .eq 674, 3) := by decide +kernel
theorem dL_law_791 : decode cL_law 791 = .ok (.iconst 0, 1) := by decide +kernel
theorem dL_law_792 : decode cL_law 792 = .ok (.ireturn, 1) := by decide +kernel
theorem dL_law_793 : decode cL_law 793 = .ok (.aload_n 1, 1) := by decide +kernel
theorem dL_law_794 : decode cL_law 794 = .ok (.aload_n 0, 1) := by decide +kernel
theorem dL_law_795 : decode cL_law 795 = .ok (.iload_n 3, 1) := by decide +kernel
theorem dL_law_796 : decode cL_law 796 = .ok (.iconst 1, 1) := by decide +kernel
theorem dL_law_797 : decode cL_law 797 = .ok (.iadd, 1) := by decide +kernel
theorem dL_law_798 : decode cL_law 798 = .ok (.iaload, 1) := by decide +kernel
theorem dL_law_799 : decode cL_law 799 = .ok (.aload_n 0, 1) := by decide +kernel
theorem dL_law_800 : decode cL_law 800 = .ok (.iload_n 3, 1) := by decide +kernel
theorem dL_law_801 : decode cL_law 801 = .ok (.iconst 2, 1) := by decide +kernel
theorem dL_law_802 : decode cL_law 802 = .ok (.iadd, 1) := by decide +kernel
theorem dL_law_803 : decode cL_law 803 = .ok (.iaload, 1) := by decide +kernel
theorem dL_law_804 : decode cL_law 804 = .ok (.invokevirtual 93, 3) := by decide +kernel
theorem dL_law_807 : decode cL_law 807 = .ok (.aload_n 2, 1) := by decide +kernel
theorem dL_law_808 : decode cL_law 808 = .ok (.aload_n 0, 1) := by decide +kernel
theorem dL_law_809 : decode cL_law 809 = .ok (.iload_n 3, 1) := by decide +kernel
theorem dL_law_810 : decode cL_law 810 = .ok (.iconst 1, 1) := by decide +kernel
theorem dL_law_811 : decode cL_law 811 = .ok (.iadd, 1) := by decide +kernel
theorem dL_law_812 : decode cL_law 812 = .ok (.iaload, 1) := by decide +kernel
theorem dL_law_813 : decode cL_law 813 = .ok (.aload_n 0, 1) := by decide +kernel
theorem dL_law_814 : decode cL_law 814 = .ok (.iload_n 3, 1) := by decide +kernel
theorem dL_law_815 : decode cL_law 815 = .ok (.iconst 2, 1) := by decide +kernel
theorem dL_law_816 : decode cL_law 816 = .ok (.iadd, 1) := by decide +kernel
theorem dL_law_817 : decode cL_law 817 = .ok (.iaload, 1) := by decide +kernel
theorem dL_law_818 : decode cL_law 818 = .ok (.invokevirtual 96, 3) := by decide +kernel
theorem dL_law_821 : decode cL_law 821 = .ok (.if_icmp .eq 641, 3) := by decide +kernel
theorem dL_law_824 : decode cL_law 824 = .ok (.iconst 0, 1) := by decide +kernel
theorem dL_law_825 : decode cL_law 825 = .ok (.ireturn, 1) := by decide +kernel
theorem dL_law_826 : decode cL_law 826 = .ok (.aload_n 1, 1) := by decide +kernel
theorem dL_law_827 : decode cL_law 827 = .ok (.aload_n 0, 1) := by decide +kernel
theorem dL_law_828 : decode cL_law 828 = .ok (.iload_n 3, 1) := by decide +kernel
theorem dL_law_829 : decode cL_law 829 = .ok (.iconst 1, 1) := by decide +kernel
theorem dL_law_830 : decode cL_law 830 = .ok (.iadd, 1) := by decide +kernel
theorem dL_law_831 : decode cL_law 831 = .ok (.iaload, 1) := by decide +kernel
theorem dL_law_832 : decode cL_law 832 = .ok (.invokevirtual 97, 3) := by decide +kernel
theorem dL_law_835 : decode cL_law 835 = .ok (.aload_n 2, 1) := by decide +kernel
theorem dL_law_836 : decode cL_law 836 = .ok (.aload_n 0, 1) := by decide +kernel
theorem dL_law_837 : decode cL_law 837 = .ok (.iload_n 3, 1) := by decide +kernel
theorem dL_law_838 : decode cL_law 838 = .ok (.iconst 1, 1) := by decide +kernel
theorem dL_law_839 : decode cL_law 839 = .ok (.iadd, 1) := by decide +kernel
theorem dL_law_840 : decode cL_law 840 = .ok (.iaload, 1) := by decide +kernel
theorem dL_law_841 : decode cL_law 841 = .ok (.invokevirtual 100, 3) := by decide +kernel
theorem dL_law_844 : decode cL_law 844 = .ok (.if_icmp .eq 618, 3) := by decide +kernel
theorem dL_law_847 : decode cL_law 847 = .ok (.iconst 0, 1) := by decide +kernel
theorem dL_law_848 : decode cL_law 848 = .ok (.ireturn, 1) := by decide +kernel
theorem dL_law_849 : decode cL_law 849 = .ok (.aload_n 1, 1) := by decide +kernel
theorem dL_law_850 : decode cL_law 850 = .ok (.invokevirtual 101, 3) := by decide +kernel
theorem dL_law_853 : decode cL_law 853 = .ok (.aload_n 2, 1) := by decide +kernel
theorem dL_law_854 : decode cL_law 854 = .ok (.invokevirtual 104, 3) := by decide +kernel
theorem dL_law_857 : decode cL_law 857 = .ok (.if_icmp .eq 605, 3) := by decide +kernel
theorem dL_law_860 : decode cL_law 860 = .ok (.iconst 0, 1) := by decide +kernel
theorem dL_law_861 : decode cL_law 861 = .ok (.ireturn, 1) := by decide +kernel
theorem dL_law_862 : decode cL_law 862 = .ok (.aload_n 1, 1) := by decide +kernel
theorem dL_law_863 : decode cL_law 863 = .ok (.aload_n 0, 1) := by decide +kernel
theorem dL_law_864 : decode cL_law 864 = .ok (.iload_n 3, 1) := by decide +kernel
theorem dL_law_865 : decode cL_law 865 = .ok (.iconst 1, 1) := by decide +kernel
theorem dL_law_866 : decode cL_law 866 = .ok (.iadd, 1) := by decide +kernel
theorem dL_law_867 : decode cL_law 867 = .ok (.iaload, 1) := by decide +kernel
theorem dL_law_868 : decode cL_law 868 = .ok (.invokevirtual 105, 3) := by decide +kernel
theorem dL_law_871 : decode cL_law 871 = .ok (.aload_n 2, 1) := by decide +kernel
theorem dL_law_872 : decode cL_law 872 = .ok (.aload_n 0, 1) := by decide +kernel
theorem dL_law_873 : decode cL_law 873 = .ok (.iload_n 3, 1) := by decide +kernel
theorem dL_law_874 : decode cL_law 874 = .ok (.iconst 1, 1) := by decide +kernel
theorem dL_law_875 : decode cL_law 875 = .ok (.iadd, 1) := by decide +kernel
theorem dL_law_876 : decode cL_law 876 = .ok (.iaload, 1) := by decide +kernel
theorem dL_law_877 : decode cL_law 877 = .ok (.invokevirtual 108, 3) := by decide +kernel
theorem dL_law_880 : decode cL_law 880 = .ok (.if_icmp .eq 582, 3) := by decide +kernel
theorem dL_law_883 : decode cL_law 883 = .ok (.iconst 0, 1) := by decide +kernel
theorem dL_law_884 : decode cL_law 884 = .ok (.ireturn, 1) := by decide +kernel
theorem dL_law_885 : decode cL_law 885 = .ok (.aload_n 1, 1) := by decide +kernel
theorem dL_law_886 : decode cL_law 886 = .ok (.aload_n 0, 1) := by decide +kernel
theorem dL_law_887 : decode cL_law 887 = .ok (.iload_n 3, 1) := by decide +kernel
theorem dL_law_888 : decode cL_law 888 = .ok (.iconst 1, 1) := by decide +kernel
theorem dL_law_889 : decode cL_law 889 = .ok (.iadd, 1) := by decide +kernel
theorem dL_law_890 : decode cL_law 890 = .ok (.iaload, 1) := by decide +kernel
theorem dL_law_891 : decode cL_law 891 = .ok (.aload_n 0, 1) := by decide +kernel
theorem dL_law_892 : decode cL_law 892 = .ok (.iload_n 3, 1) := by decide +kernel
theorem dL_law_893 : decode cL_law 893 = .ok (.iconst 2, 1) := by decide +kernel
theorem dL_law_894 : decode cL_law 894 = .ok (.iadd, 1) := by decide +kernel
theorem dL_law_895 : decode cL_law 895 = .ok (.iaload, 1) := by decide +kernel
theorem dL_law_896 : decode cL_law 896 = .ok (.aload_n 0, 1) := by decide +kernel
theorem dL_law_897 : decode cL_law 897 = .ok (.iload_n 3, 1) := by decide +kernel
theorem dL_law_898 : decode cL_law 898 = .ok (.iconst 3, 1) := by decide +kernel
theorem dL_law_899 : decode cL_law 899 = .ok (.iadd, 1) := by decide +kernel
theorem dL_law_900 : decode cL_law 900 = .ok (.iaload, 1) := by decide +kernel
theorem dL_law_901 : decode cL_law 901 = .ok (.invokevirtual 109, 3) := by decide +kernel
theorem dL_law_904 : decode cL_law 904 = .ok (.aload_n 2, 1) := by decide +kernel
theorem dL_law_905 : decode cL_law 905 = .ok (.aload_n 0, 1) := by decide +kernel
theorem dL_law_906 : decode cL_law 906 = .ok (.iload_n 3, 1) := by decide +kernel
theorem dL_law_907 : decode cL_law 907 = .ok (.iconst 1, 1) := by decide +kernel
theorem dL_law_908 : decode cL_law 908 = .ok (.iadd, 1) := by decide +kernel
theorem dL_law_909 : decode cL_law 909 = .ok (.iaload, 1) := by decide +kernel
theorem dL_law_910 : decode cL_law 910 = .ok (.aload_n 0, 1) := by decide +kernel
theorem dL_law_911 : decode cL_law 911 = .ok (.iload_n 3, 1) := by decide +kernel
theorem dL_law_912 : decode cL_law 912 = .ok (.iconst 2, 1) := by decide +kernel
theorem dL_law_913 : decode cL_law 913 = .ok (.iadd, 1) := by decide +kernel
theorem dL_law_914 : decode cL_law 914 = .ok (.iaload, 1) := by decide +kernel
theorem dL_law_915 : decode cL_law 915 = .ok (.aload_n 0, 1) := by decide +kernel
theorem dL_law_916 : decode cL_law 916 = .ok (.iload_n 3, 1) := by decide +kernel
theorem dL_law_917 : decode cL_law 917 = .ok (.iconst 3, 1) := by decide +kernel
theorem dL_law_918 : decode cL_law 918 = .ok (.iadd, 1) := by decide +kernel
theorem dL_law_919 : decode cL_law 919 = .ok (.iaload, 1) := by decide +kernel
theorem dL_law_920 : decode cL_law 920 = .ok (.invokevirtual 112, 3) := by decide +kernel
theorem dL_law_923 : decode cL_law 923 = .ok (.if_icmp .eq 539, 3) := by decide +kernel
theorem dL_law_926 : decode cL_law 926 = .ok (.iconst 0, 1) := by decide +kernel
theorem dL_law_927 : decode cL_law 927 = .ok (.ireturn, 1) := by decide +kernel
theorem dL_law_928 : decode cL_law 928 = .ok (.aload_n 1, 1) := by decide +kernel
theorem dL_law_929 : decode cL_law 929 = .ok (.aload_n 0, 1) := by decide +kernel
theorem dL_law_930 : decode cL_law 930 = .ok (.iload_n 3, 1) := by decide +kernel
theorem dL_law_931 : decode cL_law 931 = .ok (.iconst 1, 1) := by decide +kernel
theorem dL_law_932 : decode cL_law 932 = .ok (.iadd, 1) := by decide +kernel
theorem dL_law_933 : decode cL_law 933 = .ok (.iaload, 1) := by decide +kernel
theorem dL_law_934 : decode cL_law 934 = .ok (.invokevirtual 113, 3) := by decide +kernel
theorem dL_law_937 : decode cL_law 937 = .ok (.aload_n 2, 1) := by decide +kernel
theorem dL_law_938 : decode cL_law 938 = .ok (.aload_n 0, 1) := by decide +kernel
theorem dL_law_939 : decode cL_law 939 = .ok (.iload_n 3, 1) := by decide +kernel
theorem dL_law_940 : decode cL_law 940 = .ok (.iconst 1, 1) := by decide +kernel
theorem dL_law_941 : decode cL_law 941 = .ok (.iadd, 1) := by decide +kernel
theorem dL_law_942 : decode cL_law 942 = .ok (.iaload, 1) := by decide +kernel
theorem dL_law_943 : decode cL_law 943 = .ok (.invokevirtual 116, 3) := by decide +kernel
theorem dL_law_946 : decode cL_law 946 = .ok (.if_icmp .eq 516, 3) := by decide +kernel
theorem dL_law_949 : decode cL_law 949 = .ok (.iconst 0, 1) := by decide +kernel
theorem dL_law_950 : decode cL_law 950 = .ok (.ireturn, 1) := by decide +kernel
theorem dL_law_951 : decode cL_law 951 = .ok (.aload_n 1, 1) := by decide +kernel
theorem dL_law_952 : decode cL_law 952 = .ok (.invokevirtual 117, 3) := by decide +kernel
theorem dL_law_955 : decode cL_law 955 = .ok (.aload_n 2, 1) := by decide +kernel
theorem dL_law_956 : decode cL_law 956 = .ok (.invokevirtual 120, 3) := by decide +kernel
theorem dL_law_959 : decode cL_law 959 = .ok (.if_icmp .eq 503, 3) := by decide +kernel
theorem dL_law_962 : decode cL_law 962 = .ok (.iconst 0, 1) := by decide +kernel
theorem dL_law_963 : decode cL_law 963 = .ok (.ireturn, 1) := by decide +kernel
theorem dL_law_964 : decode cL_law 964 = .ok (.aload_n 1, 1) := by decide +kernel
theorem dL_law_965 : decode cL_law 965 = .ok (.aload_n 0, 1) := by decide +kernel
theorem dL_law_966 : decode cL_law 966 = .ok (.iload_n 3, 1) := by decide +kernel
theorem dL_law_967 : decode cL_law 967 = .ok (.iconst 1, 1) := by decide +kernel
theorem dL_law_968 : decode cL_law 968 = .ok (.iadd, 1) := by decide +kernel
theorem dL_law_969 : decode cL_law 969 = .ok (.iaload, 1) := by decide +kernel
theorem dL_law_970 : decode cL_law 970 = .ok (.aload_n 0, 1) := by decide +kernel
theorem dL_law_971 : decode cL_law 971 = .ok (.iload_n 3, 1) := by decide +kernel
theorem dL_law_972 : decode cL_law 972 = .ok (.iconst 2, 1) := by decide +kernel
theorem dL_law_973 : decode cL_law 973 = .ok (.iadd, 1) := by decide +kernel
theorem dL_law_974 : decode cL_law 974 = .ok (.iaload, 1) := by decide +kernel
theorem dL_law_975 : decode cL_law 975 = .ok (.invokevirtual 121, 3) := by decide +kernel
theorem dL_law_978 : decode cL_law 978 = .ok (.aload_n 2, 1) := by decide +kernel
theorem dL_law_979 : decode cL_law 979 = .ok (.aload_n 0, 1) := by decide +kernel
theorem dL_law_980 : decode cL_law 980 = .ok (.iload_n 3, 1) := by decide +kernel
theorem dL_law_981 : decode cL_law 981 = .ok (.iconst 1, 1) := by decide +kernel
theorem dL_law_982 : decode cL_law 982 = .ok (.iadd, 1) := by decide +kernel
theorem dL_law_983 : decode cL_law 983 = .ok (.iaload, 1) := by decide +kernel
theorem dL_law_984 : decode cL_law 984 = .ok (.aload_n 0, 1) := by decide +kernel
theorem dL_law_985 : decode cL_law 985 = .ok (.iload_n 3, 1) := by decide +kernel
theorem dL_law_986 : decode cL_law 986 = .ok (.iconst 2, 1) := by decide +kernel
theorem dL_law_987 : decode cL_law 987 = .ok (.iadd, 1) := by decide +kernel
theorem dL_law_988 : decode cL_law 988 = .ok (.iaload, 1) := by decide +kernel
theorem dL_law_989 : decode cL_law 989 = .ok (.invokevirtual 124, 3) := by decide +kernel
theorem dL_law_992 : decode cL_law 992 = .ok (.if_icmp .eq 470, 3) := by decide +kernel
theorem dL_law_995 : decode cL_law 995 = .ok (.iconst 0, 1) := by decide +kernel
theorem dL_law_996 : decode cL_law 996 = .ok (.ireturn, 1) := by decide +kernel
theorem dL_law_997 : decode cL_law 997 = .ok (.aload_n 1, 1) := by decide +kernel
theorem dL_law_998 : decode cL_law 998 = .ok (.aload_n 0, 1) := by decide +kernel
theorem dL_law_999 : decode cL_law 999 = .ok (.iload_n 3, 1) := by decide +kernel
theorem dL_law_1000 : decode cL_law 1000 = .ok (.iconst 1, 1) := by decide +kernel
theorem dL_law_1001 : decode cL_law 1001 = .ok (.iadd, 1) := by decide +kernel
theorem dL_law_1002 : decode cL_law 1002 = .ok (.iaload, 1) := by decide +kernel
theorem dL_law_1003 : decode cL_law 1003 = .ok (.invokevirtual 125, 3) := by decide +kernel
theorem dL_law_1006 : decode cL_law 1006 = .ok (.aload_n 2, 1) := by decide +kernel
theorem dL_law_1007 : decode cL_law 1007 = .ok (.aload_n 0, 1) := by decide +kernel
theorem dL_law_1008 : decode cL_law 1008 = .ok (.iload_n 3, 1) := by decide +kernel
theorem dL_law_1009 : decode cL_law 1009 = .ok (.iconst 1, 1) := by decide +kernel
theorem dL_law_1010 : decode cL_law 1010 = .ok (.iadd, 1) := by decide +kernel
theorem dL_law_1011 : decode cL_law 1011 = .ok (.iaload, 1) := by decide +kernel
theorem dL_law_1012 : decode cL_law 1012 = .ok (.invokevirtual 128, 3) := by decide +kernel
theorem dL_law_1015 : decode cL_law 1015 = .ok (.if_icmp .eq 447, 3) := by decide +kernel
theorem dL_law_1018 : decode cL_law 1018 = .ok (.iconst 0, 1) := by decide +kernel
theorem dL_law_1019 : decode cL_law 1019 = .ok (.ireturn, 1) := by decide +kernel
theorem dL_law_1020 : decode cL_law 1020 = .ok (.aload_n 1, 1) := by decide +kernel
theorem dL_law_1021 : decode cL_law 1021 = .ok (.aload_n 0, 1) := by decide +kernel
theorem dL_law_1022 : decode cL_law 1022 = .ok (.iload_n 3, 1) := by decide +kernel
theorem dL_law_1023 : decode cL_law 1023 = .ok (.iconst 1, 1) := by decide +kernel
theorem dL_law_1024 : decode cL_law 1024 = .ok (.iadd, 1) := by decide +kernel
theorem dL_law_1025 : decode cL_law 1025 = .ok (.iaload, 1) := by decide +kernel
theorem dL_law_1026 : decode cL_law 1026 = .ok (.aload_n 0, 1) := by decide +kernel
theorem dL_law_1027 : decode cL_law 1027 = .ok (.iload_n 3, 1) := by decide +kernel
theorem dL_law_1028 : decode cL_law 1028 = .ok (.iconst 2, 1) := by decide +kernel
theorem dL_law_1029 : decode cL_law 1029 = .ok (.iadd, 1) := by decide +kernel
theorem dL_law_1030 : decode cL_law 1030 = .ok (.iaload, 1) := by decide +kernel
theorem dL_law_1031 : decode cL_law 1031 = .ok (.aload_n 0, 1) := by decide +kernel
theorem dL_law_1032 : decode cL_law 1032 = .ok (.iload_n 3, 1) := by decide +kernel
theorem dL_law_1033 : decode cL_law 1033 = .ok (.iconst 3, 1) := by decide +kernel
theorem dL_law_1034 : decode cL_law 1034 = .ok (.iadd, 1) := by decide +kernel
theorem dL_law_1035 : decode cL_law 1035 = .ok (.iaload, 1) := by decide +kernel
theorem dL_law_1036 : decode cL_law 1036 = .ok (.invokevirtual 129, 3) := by decide +kernel
theorem dL_law_1039 : decode cL_law 1039 = .ok (.aload_n 2, 1) := by decide +kernel
theorem dL_law_1040 : decode cL_law 1040 = .ok (.aload_n 0, 1) := by decide +kernel
theorem dL_law_1041 : decode cL_law 1041 = .ok (.iload_n 3, 1) := by decide +kernel
theorem dL_law_1042 : decode cL_law 1042 = .ok (.iconst 1, 1) := by decide +kernel
theorem dL_law_1043 : decode cL_law 1043 = .ok (.iadd, 1) := by decide +kernel
theorem dL_law_1044 : decode cL_law 1044 = .ok (.iaload, 1) := by decide +kernel
theorem dL_law_1045 : decode cL_law 1045 = .ok (.aload_n 0, 1) := by decide +kernel
theorem dL_law_1046 : decode cL_law 1046 = .ok (.iload_n 3, 1) := by decide +kernel
theorem dL_law_1047 : decode cL_law 1047 = .ok (.iconst 2, 1) := by decide +kernel
theorem dL_law_1048 : decode cL_law 1048 = .ok (.iadd, 1) := by decide +kernel
theorem dL_law_1049 : decode cL_law 1049 = .ok (.iaload, 1) := by decide +kernel
theorem dL_law_1050 : decode cL_law 1050 = .ok (.aload_n 0, 1) := by decide +kernel
theorem dL_law_1051 : decode cL_law 1051 = .ok (.iload_n 3, 1) := by decide +kernel
theorem dL_law_1052 : decode cL_law 1052 = .ok (.iconst 3, 1) := by decide +kernel
theorem dL_law_1053 : decode cL_law 1053 = .ok (.iadd, 1) := by decide +kernel
theorem dL_law_1054 : decode cL_law 1054 = .ok (.iaload, 1) := by decide +kernel
theorem dL_law_1055 : decode cL_law 1055 = .ok (.invokevirtual 132, 3) := by decide +kernel
theorem dL_law_1058 : decode cL_law 1058 = .ok (.if_icmp .eq 404, 3) := by decide +kernel
theorem dL_law_1061 : decode cL_law 1061 = .ok (.iconst 0, 1) := by decide +kernel
theorem dL_law_1062 : decode cL_law 1062 = .ok (.ireturn, 1) := by decide +kernel
theorem dL_law_1063 : decode cL_law 1063 = .ok (.aload_n 1, 1) := by decide +kernel
theorem dL_law_1064 : decode cL_law 1064 = .ok (.aload_n 0, 1) := by decide +kernel
theorem dL_law_1065 : decode cL_law 1065 = .ok (.iload_n 3, 1) := by decide +kernel
theorem dL_law_1066 : decode cL_law 1066 = .ok (.iconst 1, 1) := by decide +kernel
theorem dL_law_1067 : decode cL_law 1067 = .ok (.iadd, 1) := by decide +kernel
theorem dL_law_1068 : decode cL_law 1068 = .ok (.iaload, 1) := by decide +kernel
theorem dL_law_1069 : decode cL_law 1069 = .ok (.aload_n 0, 1) := by decide +kernel
theorem dL_law_1070 : decode cL_law 1070 = .ok (.iload_n 3, 1) := by decide +kernel
theorem dL_law_1071 : decode cL_law 1071 = .ok (.iconst 2, 1) := by decide +kernel
theorem dL_law_1072 : decode cL_law 1072 = .ok (.iadd, 1) := by decide +kernel
theorem dL_law_1073 : decode cL_law 1073 = .ok (.iaload, 1) := by decide +kernel
theorem dL_law_1074 : decode cL_law 1074 = .ok (.aload_n 0, 1) := by decide +kernel
theorem dL_law_1075 : decode cL_law 1075 = .ok (.iload_n 3, 1) := by decide +kernel
theorem dL_law_1076 : decode cL_law 1076 = .ok (.iconst 3, 1) := by decide +kernel
theorem dL_law_1077 : decode cL_law 1077 = .ok (.iadd, 1) := by decide +kernel
theorem dL_law_1078 : decode cL_law 1078 = .ok (.iaload, 1) := by decide +kernel
theorem dL_law_1079 : decode cL_law 1079 = .ok (.invokevirtual 133, 3) := by decide +kernel
theorem dL_law_1082 : decode cL_law 1082 = .ok (.aload_n 2, 1) := by decide +kernel
theorem dL_law_1083 : decode cL_law 1083 = .ok (.aload_n 0, 1) := by decide +kernel
theorem dL_law_1084 : decode cL_law 1084 = .ok (.iload_n 3, 1) := by decide +kernel
theorem dL_law_1085 : decode cL_law 1085 = .ok (.iconst 1, 1) := by decide +kernel
theorem dL_law_1086 : decode cL_law 1086 = .ok (.iadd, 1) := by decide +kernel
theorem dL_law_1087 : decode cL_law 1087 = .ok (.iaload, 1) := by decide +kernel
theorem dL_law_1088 : decode cL_law 1088 = .ok (.aload_n 0, 1) := by decide +kernel
theorem dL_law_1089 : decode cL_law 1089 = .ok (.iload_n 3, 1) := by decide +kernel
theorem dL_law_1090 : decode cL_law 1090 = .ok (.iconst 2, 1) := by decide +kernel
theorem dL_law_1091 : decode cL_law 1091 = .ok (.iadd, 1) := by decide +kernel
theorem dL_law_1092 : decode cL_law 1092 = .ok (.iaload, 1) := by decide +kernel
theorem dL_law_1093 : decode cL_law 1093 = .ok (.aload_n 0, 1) := by decide +kernel
theorem dL_law_1094 : decode cL_law 1094 = .ok (.iload_n 3, 1) := by decide +kernel
theorem dL_law_1095 : decode cL_law 1095 = .ok (.iconst 3, 1) := by decide +kernel
theorem dL_law_1096 : decode cL_law 1096 = .ok (.iadd, 1) := by decide +kernel
theorem dL_law_1097 : decode cL_law 1097 = .ok (.iaload, 1) := by decide +kernel
theorem dL_law_1098 : decode cL_law 1098 = .ok (.invokevirtual 136, 3) := by decide +kernel
theorem dL_law_1101 : decode cL_law 1101 = .ok (.if_icmp .eq 361, 3) := by decide +kernel
theorem dL_law_1104 : decode cL_law 1104 = .ok (.iconst 0, 1) := by decide +kernel
theorem dL_law_1105 : decode cL_law 1105 = .ok (.ireturn, 1) := by decide +kernel
theorem dL_law_1106 : decode cL_law 1106 = .ok (.aload_n 1, 1) := by decide +kernel
theorem dL_law_1107 : decode cL_law 1107 = .ok (.aload_n 0, 1) := by decide +kernel
theorem dL_law_1108 : decode cL_law 1108 = .ok (.iload_n 3, 1) := by decide +kernel
theorem dL_law_1109 : decode cL_law 1109 = .ok (.iconst 1, 1) := by decide +kernel
theorem dL_law_1110 : decode cL_law 1110 = .ok (.iadd, 1) := by decide +kernel
theorem dL_law_1111 : decode cL_law 1111 = .ok (.iaload, 1) := by decide +kernel
theorem dL_law_1112 : decode cL_law 1112 = .ok (.invokevirtual 137, 3) := by decide +kernel
theorem dL_law_1115 : decode cL_law 1115 = .ok (.aload_n 2, 1) := by decide +kernel
theorem dL_law_1116 : decode cL_law 1116 = .ok (.aload_n 0, 1) := by decide +kernel
theorem dL_law_1117 : decode cL_law 1117 = .ok (.iload_n 3, 1) := by decide +kernel
theorem dL_law_1118 : decode cL_law 1118 = .ok (.iconst 1, 1) := by decide +kernel
theorem dL_law_1119 : decode cL_law 1119 = .ok (.iadd, 1) := by decide +kernel
theorem dL_law_1120 : decode cL_law 1120 = .ok (.iaload, 1) := by decide +kernel
theorem dL_law_1121 : decode cL_law 1121 = .ok (.invokevirtual 140, 3) := by decide +kernel
theorem dL_law_1124 : decode cL_law 1124 = .ok (.if_icmp .eq 338, 3) := by decide +kernel
theorem dL_law_1127 : decode cL_law 1127 = .ok (.iconst 0, 1) := by decide +kernel
theorem dL_law_1128 : decode cL_law 1128 = .ok (.ireturn, 1) := by decide +kernel
theorem dL_law_1129 : decode cL_law 1129 = .ok (.aload_n 1, 1) := by decide +kernel
theorem dL_law_1130 : decode cL_law 1130 = .ok (.aload_n 0, 1) := by decide +kernel
theorem dL_law_1131 : decode cL_law 1131 = .ok (.iload_n 3, 1) := by decide +kernel
theorem dL_law_1132 : decode cL_law 1132 = .ok (.iconst 1, 1) := by decide +kernel
theorem dL_law_1133 : decode cL_law 1133 = .ok (.iadd, 1) := by decide +kernel
theorem dL_law_1134 : decode cL_law 1134 = .ok (.iaload, 1) := by decide +kernel
theorem dL_law_1135 : decode cL_law 1135 = .ok (.aload_n 0, 1) := by decide +kernel
theorem dL_law_1136 : decode cL_law 1136 = .ok (.iload_n 3, 1) := by decide +kernel
theorem dL_law_1137 : decode cL_law 1137 = .ok (.iconst 2, 1) := by decide +kernel
theorem dL_law_1138 : decode cL_law 1138 = .ok (.iadd, 1) := by decide +kernel
theorem dL_law_1139 : decode cL_law 1139 = .ok (.iaload, 1) := by decide +kernel
theorem dL_law_1140 : decode cL_law 1140 = .ok (.invokevirtual 141, 3) := by decide +kernel
theorem dL_law_1143 : decode cL_law 1143 = .ok (.aload_n 2, 1) := by decide +kernel
theorem dL_law_1144 : decode cL_law 1144 = .ok (.aload_n 0, 1) := by decide +kernel
theorem dL_law_1145 : decode cL_law 1145 = .ok (.iload_n 3, 1) := by decide +kernel
theorem dL_law_1146 : decode cL_law 1146 = .ok (.iconst 1, 1) := by decide +kernel
theorem dL_law_1147 : decode cL_law 1147 = .ok (.iadd, 1) := by decide +kernel
theorem dL_law_1148 : decode cL_law 1148 = .ok (.iaload, 1) := by decide +kernel
theorem dL_law_1149 : decode cL_law 1149 = .ok (.aload_n 0, 1) := by decide +kernel
theorem dL_law_1150 : decode cL_law 1150 = .ok (.iload_n 3, 1) := by decide +kernel
theorem dL_law_1151 : decode cL_law 1151 = .ok (.iconst 2, 1) := by decide +kernel
theorem dL_law_1152 : decode cL_law 1152 = .ok (.iadd, 1) := by decide +kernel
theorem dL_law_1153 : decode cL_law 1153 = .ok (.iaload, 1) := by decide +kernel
theorem dL_law_1154 : decode cL_law 1154 = .ok (.invokevirtual 144, 3) := by decide +kernel
theorem dL_law_1157 : decode cL_law 1157 = .ok (.if_icmp .eq 305, 3) := by decide +kernel
theorem dL_law_1160 : decode cL_law 1160 = .ok (.iconst 0, 1) := by decide +kernel
theorem dL_law_1161 : decode cL_law 1161 = .ok (.ireturn, 1) := by decide +kernel
theorem dL_law_1162 : decode cL_law 1162 = .ok (.aload_n 1, 1) := by decide +kernel
theorem dL_law_1163 : decode cL_law 1163 = .ok (.aload_n 0, 1) := by decide +kernel
theorem dL_law_1164 : decode cL_law 1164 = .ok (.iload_n 3, 1) := by decide +kernel
theorem dL_law_1165 : decode cL_law 1165 = .ok (.iconst 1, 1) := by decide +kernel
theorem dL_law_1166 : decode cL_law 1166 = .ok (.iadd, 1) := by decide +kernel
theorem dL_law_1167 : decode cL_law 1167 = .ok (.iaload, 1) := by decide +kernel
theorem dL_law_1168 : decode cL_law 1168 = .ok (.aload_n 0, 1) := by decide +kernel
theorem dL_law_1169 : decode cL_law 1169 = .ok (.iload_n 3, 1) := by decide +kernel
theorem dL_law_1170 : decode cL_law 1170 = .ok (.iconst 2, 1) := by decide +kernel
theorem dL_law_1171 : decode cL_law 1171 = .ok (.iadd, 1) := by decide +kernel
theorem dL_law_1172 : decode cL_law 1172 = .ok (.iaload, 1) := by decide +kernel
theorem dL_law_1173 : decode cL_law 1173 = .ok (.aload_n 0, 1) := by decide +kernel
theorem dL_law_1174 : decode cL_law 1174 = .ok (.iload_n 3, 1) := by decide +kernel
theorem dL_law_1175 : decode cL_law 1175 = .ok (.iconst 3, 1) := by decide +kernel
theorem dL_law_1176 : decode cL_law 1176 = .ok (.iadd, 1) := by decide +kernel
theorem dL_law_1177 : decode cL_law 1177 = .ok (.iaload, 1) := by decide +kernel
theorem dL_law_1178 : decode cL_law 1178 = .ok (.aload_n 0, 1) := by decide +kernel
theorem dL_law_1179 : decode cL_law 1179 = .ok (.iload_n 3, 1) := by decide +kernel
theorem dL_law_1180 : decode cL_law 1180 = .ok (.iconst 4, 1) := by decide +kernel
theorem dL_law_1181 : decode cL_law 1181 = .ok (.iadd, 1) := by decide +kernel
theorem dL_law_1182 : decode cL_law 1182 = .ok (.iaload, 1) := by decide +kernel
theorem dL_law_1183 : decode cL_law 1183 = .ok (.aload_n 0, 1) := by decide +kernel
theorem dL_law_1184 : decode cL_law 1184 = .ok (.iload_n 3, 1) := by decide +kernel
theorem dL_law_1185 : decode cL_law 1185 = .ok (.iconst 5, 1) := by decide +kernel
theorem dL_law_1186 : decode cL_law 1186 = .ok (.iadd, 1) := by decide +kernel
theorem dL_law_1187 : decode cL_law 1187 = .ok (.iaload, 1) := by decide +kernel
theorem dL_law_1188 : decode cL_law 1188 = .ok (.invokevirtual 145, 3) := by decide +kernel
theorem dL_law_1191 : decode cL_law 1191 = .ok (.aload_n 2, 1) := by decide +kernel
theorem dL_law_1192 : decode cL_law 1192 = .ok (.aload_n 0, 1) := by decide +kernel
theorem dL_law_1193 : decode cL_law 1193 = .ok (.iload_n 3, 1) := by decide +kernel
theorem dL_law_1194 : decode cL_law 1194 = .ok (.iconst 1, 1) := by decide +kernel
theorem dL_law_1195 : decode cL_law 1195 = .ok (.iadd, 1) := by decide +kernel
theorem dL_law_1196 : decode cL_law 1196 = .ok (.iaload, 1) := by decide +kernel
theorem dL_law_1197 : decode cL_law 1197 = .ok (.aload_n 0, 1) := by decide +kernel
theorem dL_law_1198 : decode cL_law 1198 = .ok (.iload_n 3, 1) := by decide +kernel
theorem dL_law_1199 : decode cL_law 1199 = .ok (.iconst 2, 1) := by decide +kernel
theorem dL_law_1200 : decode cL_law 1200 = .ok (.iadd, 1) := by decide +kernel
theorem dL_law_1201 : decode cL_law 1201 = .ok (.iaload, 1) := by decide +kernel
theorem dL_law_1202 : decode cL_law 1202 = .ok (.aload_n 0, 1) := by decide +kernel
theorem dL_law_1203 : decode cL_law 1203 = .ok (.iload_n 3, 1) := by decide +kernel
theorem dL_law_1204 : decode cL_law 1204 = .ok (.iconst 3, 1) := by decide +kernel
theorem dL_law_1205 : decode cL_law 1205 = .ok (.iadd, 1) := by decide +kernel
theorem dL_law_1206 : decode cL_law 1206 = .ok (.iaload, 1) := by decide +kernel
theorem dL_law_1207 : decode cL_law 1207 = .ok (.aload_n 0, 1) := by decide +kernel
theorem dL_law_1208 : decode cL_law 1208 = .ok (.iload_n 3, 1) := by decide +kernel
theorem dL_law_1209 : decode cL_law 1209 = .ok (.iconst 4, 1) := by decide +kernel
theorem dL_law_1210 : decode cL_law 1210 = .ok (.iadd, 1) := by decide +kernel
theorem dL_law_1211 : decode cL_law 1211 = .ok (.iaload, 1) := by decide +kernel
theorem dL_law_1212 : decode cL_law 1212 = .ok (.aload_n 0, 1) := by decide +kernel
theorem dL_law_1213 : decode cL_law 1213 = .ok (.iload_n 3, 1) := by decide +kernel
theorem dL_law_1214 : decode cL_law 1214 = .ok (.iconst 5, 1) := by decide +kernel
theorem dL_law_1215 : decode cL_law 1215 = .ok (.iadd, 1) := by decide +kernel
theorem dL_law_1216 : decode cL_law 1216 = .ok (.iaload, 1) := by decide +kernel
theorem dL_law_1217 : decode cL_law 1217 = .ok (.invokevirtual 149, 3) := by decide +kernel
theorem dL_law_1220 : decode cL_law 1220 = .ok (.if_icmp .eq 242, 3) := by decide +kernel
theorem dL_law_1223 : decode cL_law 1223 = .ok (.iconst 0, 1) := by decide +kernel
theorem dL_law_1224 : decode cL_law 1224 = .ok (.ireturn, 1) := by decide +kernel
theorem dL_law_1225 : decode cL_law 1225 = .ok (.aload_n 1, 1) := by decide +kernel
theorem dL_law_1226 : decode cL_law 1226 = .ok (.aload_n 0, 1) := by decide +kernel
theorem dL_law_1227 : decode cL_law 1227 = .ok (.iload_n 3, 1) := by decide +kernel
theorem dL_law_1228 : decode cL_law 1228 = .ok (.iconst 1, 1) := by decide +kernel
theorem dL_law_1229 : decode cL_law 1229 = .ok (.iadd, 1) := by decide +kernel
theorem dL_law_1230 : decode cL_law 1230 = .ok (.iaload, 1) := by decide +kernel
theorem dL_law_1231 : decode cL_law 1231 = .ok (.aload_n 0, 1) := by decide +kernel
theorem dL_law_1232 : decode cL_law 1232 = .ok (.iload_n 3, 1) := by decide +kernel
theorem dL_law_1233 : decode cL_law 1233 = .ok (.iconst 2, 1) := by decide +kernel
theorem dL_law_1234 : decode cL_law 1234 = .ok (.iadd, 1) := by decide +kernel
theorem dL_law_1235 : decode cL_law 1235 = .ok (.iaload, 1) := by decide +kernel
theorem dL_law_1236 : decode cL_law 1236 = .ok (.aload_n 0, 1) := by decide +kernel
theorem dL_law_1237 : decode cL_law 1237 = .ok (.iload_n 3, 1) := by decide +kernel
theorem dL_law_1238 : decode cL_law 1238 = .ok (.iconst 3, 1) := by decide +kernel
theorem dL_law_1239 : decode cL_law 1239 = .ok (.iadd, 1) := by decide +kernel
theorem dL_law_1240 : decode cL_law 1240 = .ok (.iaload, 1) := by decide +kernel
theorem dL_law_1241 : decode cL_law 1241 = .ok (.invokevirtual 150, 3) := by decide +kernel
theorem dL_law_1244 : decode cL_law 1244 = .ok (.aload_n 2, 1) := by decide +kernel
theorem dL_law_1245 : decode cL_law 1245 = .ok (.aload_n 0, 1) := by decide +kernel
theorem dL_law_1246 : decode cL_law 1246 = .ok (.iload_n 3, 1) := by decide +kernel
theorem dL_law_1247 : decode cL_law 1247 = .ok (.iconst 1, 1) := by decide +kernel
theorem dL_law_1248 : decode cL_law 1248 = .ok (.iadd, 1) := by decide +kernel
theorem dL_law_1249 : decode cL_law 1249 = .ok (.iaload, 1) := by decide +kernel
theorem dL_law_1250 : decode cL_law 1250 = .ok (.aload_n 0, 1) := by decide +kernel
theorem dL_law_1251 : decode cL_law 1251 = .ok (.iload_n 3, 1) := by decide +kernel
theorem dL_law_1252 : decode cL_law 1252 = .ok (.iconst 2, 1) := by decide +kernel
theorem dL_law_1253 : decode cL_law 1253 = .ok (.iadd, 1) := by decide +kernel
theorem dL_law_1254 : decode cL_law 1254 = .ok (.iaload, 1) := by decide +kernel
theorem dL_law_1255 : decode cL_law 1255 = .ok (.aload_n 0, 1) := by decide +kernel
theorem dL_law_1256 : decode cL_law 1256 = .ok (.iload_n 3, 1) := by decide +kernel
theorem dL_law_1257 : decode cL_law 1257 = .ok (.iconst 3, 1) := by decide +kernel
theorem dL_law_1258 : decode cL_law 1258 = .ok (.iadd, 1) := by decide +kernel
theorem dL_law_1259 : decode cL_law 1259 = .ok (.iaload, 1) := by decide +kernel
theorem dL_law_1260 : decode cL_law 1260 = .ok (.invokevirtual 153, 3) := by decide +kernel
theorem dL_law_1263 : decode cL_law 1263 = .ok (.if_icmp .eq 199, 3) := by decide +kernel
theorem dL_law_1266 : decode cL_law 1266 = .ok (.iconst 0, 1) := by decide +kernel
theorem dL_law_1267 : decode cL_law 1267 = .ok (.ireturn, 1) := by decide +kernel
theorem dL_law_1268 : decode cL_law 1268 = .ok (.aload_n 1, 1) := by decide +kernel
theorem dL_law_1269 : decode cL_law 1269 = .ok (.aload_n 0, 1) := by decide +kernel
theorem dL_law_1270 : decode cL_law 1270 = .ok (.iload_n 3, 1) := by decide +kernel
theorem dL_law_1271 : decode cL_law 1271 = .ok (.iconst 1, 1) := by decide +kernel
theorem dL_law_1272 : decode cL_law 1272 = .ok (.iadd, 1) := by decide +kernel
theorem dL_law_1273 : decode cL_law 1273 = .ok (.iaload, 1) := by decide +kernel
theorem dL_law_1274 : decode cL_law 1274 = .ok (.aload_n 0, 1) := by decide +kernel
theorem dL_law_1275 : decode cL_law 1275 = .ok (.iload_n 3, 1) := by decide +kernel
theorem dL_law_1276 : decode cL_law 1276 = .ok (.iconst 2, 1) := by decide +kernel
theorem dL_law_1277 : decode cL_law 1277 = .ok (.iadd, 1) := by decide +kernel
theorem dL_law_1278 : decode cL_law 1278 = .ok (.iaload, 1) := by decide +kernel
theorem dL_law_1279 : decode cL_law 1279 = .ok (.invokevirtual 154, 3) := by decide +kernel
theorem dL_law_1282 : decode cL_law 1282 = .ok (.aload_n 2, 1) := by decide +kernel
theorem dL_law_1283 : decode cL_law 1283 = .ok (.aload_n 0, 1) := by decide +kernel
theorem dL_law_1284 : decode cL_law 1284 = .ok (.iload_n 3, 1) := by decide +kernel
theorem dL_law_1285 : decode cL_law 1285 = .ok (.iconst 1, 1) := by decide +kernel
theorem dL_law_1286 : decode cL_law 1286 = .ok (.iadd, 1) := by decide +kernel
theorem dL_law_1287 : decode cL_law 1287 = .ok (.iaload, 1) := by decide +kernel
theorem dL_law_1288 : decode cL_law 1288 = .ok (.aload_n 0, 1) := by decide +kernel
theorem dL_law_1289 : decode cL_law 1289 = .ok (.iload_n 3, 1) := by decide +kernel
theorem dL_law_1290 : decode cL_law 1290 = .ok (.iconst 2, 1) := by decide +kernel
theorem dL_law_1291 : decode cL_law 1291 = .ok (.iadd, 1) := by decide +kernel
theorem dL_law_1292 : decode cL_law 1292 = .ok (.iaload, 1) := by decide +kernel
theorem dL_law_1293 : decode cL_law 1293 = .ok (.invokevirtual 157, 3) := by decide +kernel
theorem dL_law_1296 : decode cL_law 1296 = .ok (.if_icmp .eq 166, 3) := by decide +kernel
theorem dL_law_1299 : decode cL_law 1299 = .ok (.iconst 0, 1) := by decide +kernel
theorem dL_law_1300 : decode cL_law 1300 = .ok (.ireturn, 1) := by decide +kernel
theorem dL_law_1301 : decode cL_law 1301 = .ok (.aload_n 1, 1) := by decide +kernel
theorem dL_law_1302 : decode cL_law 1302 = .ok (.aload_n 0, 1) := by decide +kernel
theorem dL_law_1303 : decode cL_law 1303 = .ok (.iload_n 3, 1) := by decide +kernel
theorem dL_law_1304 : decode cL_law 1304 = .ok (.iconst 1, 1) := by decide +kernel
theorem dL_law_1305 : decode cL_law 1305 = .ok (.iadd, 1) := by decide +kernel
theorem dL_law_1306 : decode cL_law 1306 = .ok (.iaload, 1) := by decide +kernel
theorem dL_law_1307 : decode cL_law 1307 = .ok (.aload_n 0, 1) := by decide +kernel
theorem dL_law_1308 : decode cL_law 1308 = .ok (.iload_n 3, 1) := by decide +kernel
theorem dL_law_1309 : decode cL_law 1309 = .ok (.iconst 2, 1) := by decide +kernel
theorem dL_law_1310 : decode cL_law 1310 = .ok (.iadd, 1) := by decide +kernel
theorem dL_law_1311 : decode cL_law 1311 = .ok (.iaload, 1) := by decide +kernel
theorem dL_law_1312 : decode cL_law 1312 = .ok (.invokevirtual 158, 3) := by decide +kernel
theorem dL_law_1315 : decode cL_law 1315 = .ok (.aload_n 2, 1) := by decide +kernel
theorem dL_law_1316 : decode cL_law 1316 = .ok (.aload_n 0, 1) := by decide +kernel
theorem dL_law_1317 : decode cL_law 1317 = .ok (.iload_n 3, 1) := by decide +kernel
theorem dL_law_1318 : decode cL_law 1318 = .ok (.iconst 1, 1) := by decide +kernel
theorem dL_law_1319 : decode cL_law 1319 = .ok (.iadd, 1) := by decide +kernel
theorem dL_law_1320 : decode cL_law 1320 = .ok (.iaload, 1) := by decide +kernel
theorem dL_law_1321 : decode cL_law 1321 = .ok (.aload_n 0, 1) := by decide +kernel
theorem dL_law_1322 : decode cL_law 1322 = .ok (.iload_n 3, 1) := by decide +kernel
theorem dL_law_1323 : decode cL_law 1323 = .ok (.iconst 2, 1) := by decide +kernel
theorem dL_law_1324 : decode cL_law 1324 = .ok (.iadd, 1) := by decide +kernel
theorem dL_law_1325 : decode cL_law 1325 = .ok (.iaload, 1) := by decide +kernel
theorem dL_law_1326 : decode cL_law 1326 = .ok (.invokevirtual 161, 3) := by decide +kernel
theorem dL_law_1329 : decode cL_law 1329 = .ok (.if_icmp .eq 133, 3) := by decide +kernel
theorem dL_law_1332 : decode cL_law 1332 = .ok (.iconst 0, 1) := by decide +kernel
theorem dL_law_1333 : decode cL_law 1333 = .ok (.ireturn, 1) := by decide +kernel
theorem dL_law_1334 : decode cL_law 1334 = .ok (.aload_n 1, 1) := by decide +kernel
theorem dL_law_1335 : decode cL_law 1335 = .ok (.aload_n 0, 1) := by decide +kernel
theorem dL_law_1336 : decode cL_law 1336 = .ok (.iload_n 3, 1) := by decide +kernel
theorem dL_law_1337 : decode cL_law 1337 = .ok (.iconst 1, 1) := by decide +kernel
theorem dL_law_1338 : decode cL_law 1338 = .ok (.iadd, 1) := by decide +kernel
theorem dL_law_1339 : decode cL_law 1339 = .ok (.iaload, 1) := by decide +kernel
theorem dL_law_1340 : decode cL_law 1340 = .ok (.aload_n 0, 1) := by decide +kernel
theorem dL_law_1341 : decode cL_law 1341 = .ok (.iload_n 3, 1) := by decide +kernel
theorem dL_law_1342 : decode cL_law 1342 = .ok (.iconst 2, 1) := by decide +kernel
theorem dL_law_1343 : decode cL_law 1343 = .ok (.iadd, 1) := by decide +kernel
theorem dL_law_1344 : decode cL_law 1344 = .ok (.iaload, 1) := by decide +kernel
theorem dL_law_1345 : decode cL_law 1345 = .ok (.invokevirtual 162, 3) := by decide +kernel
theorem dL_law_1348 : decode cL_law 1348 = .ok (.aload_n 2, 1) := by decide +kernel
theorem dL_law_1349 : decode cL_law 1349 = .ok (.aload_n 0, 1) := by decide +kernel
theorem dL_law_1350 : decode cL_law 1350 = .ok (.iload_n 3, 1) := by decide +kernel
theorem dL_law_1351 : decode cL_law 1351 = .ok (.iconst 1, 1) := by decide +kernel
theorem dL_law_1352 : decode cL_law 1352 = .ok (.iadd, 1) := by decide +kernel
theorem dL_law_1353 : decode cL_law 1353 = .ok (.iaload, 1) := by decide +kernel
theorem dL_law_1354 : decode cL_law 1354 = .ok (.aload_n 0, 1) := by decide +kernel
theorem dL_law_1355 : decode cL_law 1355 = .ok (.iload_n 3, 1) := by decide +kernel
theorem dL_law_1356 : decode cL_law 1356 = .ok (.iconst 2, 1) := by decide +kernel
theorem dL_law_1357 : decode cL_law 1357 = .ok (.iadd, 1) := by decide +kernel
theorem dL_law_1358 : decode cL_law 1358 = .ok (.iaload, 1) := by decide +kernel
theorem dL_law_1359 : decode cL_law 1359 = .ok (.invokevirtual 165, 3) := by decide +kernel
theorem dL_law_1362 : decode cL_law 1362 = .ok (.if_icmp .eq 100, 3) := by decide +kernel
theorem dL_law_1365 : decode cL_law 1365 = .ok (.iconst 0, 1) := by decide +kernel
theorem dL_law_1366 : decode cL_law 1366 = .ok (.ireturn, 1) := by decide +kernel
theorem dL_law_1367 : decode cL_law 1367 = .ok (.aload_n 1, 1) := by decide +kernel
theorem dL_law_1368 : decode cL_law 1368 = .ok (.aload_n 0, 1) := by decide +kernel
theorem dL_law_1369 : decode cL_law 1369 = .ok (.iload_n 3, 1) := by decide +kernel
theorem dL_law_1370 : decode cL_law 1370 = .ok (.iconst 1, 1) := by decide +kernel
theorem dL_law_1371 : decode cL_law 1371 = .ok (.iadd, 1) := by decide +kernel
theorem dL_law_1372 : decode cL_law 1372 = .ok (.iaload, 1) := by decide +kernel
theorem dL_law_1373 : decode cL_law 1373 = .ok (.invokevirtual 166, 3) := by decide +kernel
theorem dL_law_1376 : decode cL_law 1376 = .ok (.aload_n 2, 1) := by decide +kernel
theorem dL_law_1377 : decode cL_law 1377 = .ok (.aload_n 0, 1) := by decide +kernel
theorem dL_law_1378 : decode cL_law 1378 = .ok (.iload_n 3, 1) := by decide +kernel
theorem dL_law_1379 : decode cL_law 1379 = .ok (.iconst 1, 1) := by decide +kernel
theorem dL_law_1380 : decode cL_law 1380 = .ok (.iadd, 1) := by decide +kernel
theorem dL_law_1381 : decode cL_law 1381 = .ok (.iaload, 1) := by decide +kernel
theorem dL_law_1382 : decode cL_law 1382 = .ok (.invokevirtual 169, 3) := by decide +kernel
theorem dL_law_1385 : decode cL_law 1385 = .ok (.if_icmp .eq 77, 3) := by decide +kernel
theorem dL_law_1388 : decode cL_law 1388 = .ok (.iconst 0, 1) := by decide +kernel
theorem dL_law_1389 : decode cL_law 1389 = .ok (.ireturn, 1) := by decide +kernel
theorem dL_law_1390 : decode cL_law 1390 = .ok (.aload_n 1, 1) := by decide +kernel
theorem dL_law_1391 : decode cL_law 1391 = .ok (.aload_n 0, 1) := by decide +kernel
theorem dL_law_1392 : decode cL_law 1392 = .ok (.iload_n 3, 1) := by decide +kernel
theorem dL_law_1393 : decode cL_law 1393 = .ok (.iconst 1, 1) := by decide +kernel
theorem dL_law_1394 : decode cL_law 1394 = .ok (.iadd, 1) := by decide +kernel
theorem dL_law_1395 : decode cL_law 1395 = .ok (.iaload, 1) := by decide +kernel
theorem dL_law_1396 : decode cL_law 1396 = .ok (.invokevirtual 170, 3) := by decide +kernel
theorem dL_law_1399 : decode cL_law 1399 = .ok (.aload_n 2, 1) := by decide +kernel
theorem dL_law_1400 : decode cL_law 1400 = .ok (.aload_n 0, 1) := by decide +kernel
theorem dL_law_1401 : decode cL_law 1401 = .ok (.iload_n 3, 1) := by decide +kernel
theorem dL_law_1402 : decode cL_law 1402 = .ok (.iconst 1, 1) := by decide +kernel
theorem dL_law_1403 : decode cL_law 1403 = .ok (.iadd, 1) := by decide +kernel
theorem dL_law_1404 : decode cL_law 1404 = .ok (.iaload, 1) := by decide +kernel
theorem dL_law_1405 : decode cL_law 1405 = .ok (.invokevirtual 173, 3) := by decide +kernel
theorem dL_law_1408 : decode cL_law 1408 = .ok (.if_icmp .eq 54, 3) := by decide +kernel
theorem dL_law_1411 : decode cL_law 1411 = .ok (.iconst 0, 1) := by decide +kernel
theorem dL_law_1412 : decode cL_law 1412 = .ok (.ireturn, 1) := by decide +kernel
theorem dL_law_1413 : decode cL_law 1413 = .ok (.aload_n 1, 1) := by decide +kernel
theorem dL_law_1414 : decode cL_law 1414 = .ok (.invokevirtual 174, 3) := by decide +kernel
theorem dL_law_1417 : decode cL_law 1417 = .ok (.aload_n 2, 1) := by decide +kernel
theorem dL_law_1418 : decode cL_law 1418 = .ok (.invokevirtual 177, 3) := by decide +kernel
theorem dL_law_1421 : decode cL_law 1421 = .ok (.if_icmp .eq 41, 3) := by decide +kernel
theorem dL_law_1424 : decode cL_law 1424 = .ok (.iconst 0, 1) := by decide +kernel
theorem dL_law_1425 : decode cL_law 1425 = .ok (.ireturn, 1) := by decide +kernel
theorem dL_law_1426 : decode cL_law 1426 = .ok (.aload_n 1, 1) := by decide +kernel
theorem dL_law_1427 : decode cL_law 1427 = .ok (.invokevirtual 178, 3) := by decide +kernel
theorem dL_law_1430 : decode cL_law 1430 = .ok (.aload_n 2, 1) := by decide +kernel
theorem dL_law_1431 : decode cL_law 1431 = .ok (.invokevirtual 181, 3) := by decide +kernel
theorem dL_law_1434 : decode cL_law 1434 = .ok (.if_icmp .eq 28, 3) := by decide +kernel
theorem dL_law_1437 : decode cL_law 1437 = .ok (.iconst 0, 1) := by decide +kernel
theorem dL_law_1438 : decode cL_law 1438 = .ok (.ireturn, 1) := by decide +kernel
theorem dL_law_1439 : decode cL_law 1439 = .ok (.aload_n 1, 1) := by decide +kernel
theorem dL_law_1440 : decode cL_law 1440 = .ok (.aload_n 0, 1) := by decide +kernel
theorem dL_law_1441 : decode cL_law 1441 = .ok (.iload_n 3, 1) := by decide +kernel
theorem dL_law_1442 : decode cL_law 1442 = .ok (.iconst 1, 1) := by decide +kernel
theorem dL_law_1443 : decode cL_law 1443 = .ok (.iadd, 1) := by decide +kernel
theorem dL_law_1444 : decode cL_law 1444 = .ok (.iaload, 1) := by decide +kernel
theorem dL_law_1445 : decode cL_law 1445 = .ok (.invokevirtual 182, 3) := by decide +kernel
theorem dL_law_1448 : decode cL_law 1448 = .ok (.aload_n 2, 1) := by decide +kernel
theorem dL_law_1449 : decode cL_law 1449 = .ok (.aload_n 0, 1) := by decide +kernel
theorem dL_law_1450 : decode cL_law 1450 = .ok (.iload_n 3, 1) := by decide +kernel
theorem dL_law_1451 : decode cL_law 1451 = .ok (.iconst 1, 1) := by decide +kernel
theorem dL_law_1452 : decode cL_law 1452 = .ok (.iadd, 1) := by decide +kernel
theorem dL_law_1453 : decode cL_law 1453 = .ok (.iaload, 1) := by decide +kernel
theorem dL_law_1454 : decode cL_law 1454 = .ok (.invokevirtual 185, 3) := by decide +kernel
theorem dL_law_1457 : decode cL_law 1457 = .ok (.if_icmp .eq 5, 3) := by decide +kernel
theorem dL_law_1460 : decode cL_law 1460 = .ok (.iconst 0, 1) := by decide +kernel
theorem dL_law_1461 : decode cL_law 1461 = .ok (.ireturn, 1) := by decide +kernel
theorem dL_law_1462 : decode cL_law 1462 = .ok (.iinc 3 6, 3) := by decide +kernel
theorem dL_law_1465 : decode cL_law 1465 = .ok (.goto (-1447), 3) := by decide +kernel
theorem dL_law_1468 : decode cL_law 1468 = .ok (.iconst 1, 1) := by decide +kernel
theorem dL_law_1469 : decode cL_law 1469 = .ok (.ireturn, 1) := by decide +kernel
