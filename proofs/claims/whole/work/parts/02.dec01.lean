theorem dX0_init_0 : decode cX0_init 0 = .ok (.aload_n 0, 1) := by decide +kernel
theorem dX0_init_1 : decode cX0_init 1 = .ok (.invokespecial 3, 3) := by decide +kernel
theorem dX0_init_4 : decode cX0_init 4 = .ok (.aload_n 0, 1) := by decide +kernel
theorem dX0_init_5 : decode cX0_init 5 = .ok (.bipush 20, 2) := by decide +kernel
theorem dX0_init_7 : decode cX0_init 7 = .ok (.newarray .int, 2) := by decide +kernel
theorem dX0_init_9 : decode cX0_init 9 = .ok (.putfield 9, 3) := by decide +kernel
theorem dX0_init_12 : decode cX0_init 12 = .ok (.aload_n 0, 1) := by decide +kernel
theorem dX0_init_13 : decode cX0_init 13 = .ok (.bipush 20, 2) := by decide +kernel
theorem dX0_init_15 : decode cX0_init 15 = .ok (.newarray .int, 2) := by decide +kernel
theorem dX0_init_17 : decode cX0_init 17 = .ok (.putfield 15, 3) := by decide +kernel
theorem dX0_init_20 : decode cX0_init 20 = .ok (.aload_n 0, 1) := by decide +kernel
theorem dX0_init_21 : decode cX0_init 21 = .ok (.iconst 0, 1) := by decide +kernel
theorem dX0_init_22 : decode cX0_init 22 = .ok (.putfield 18, 3) := by decide +kernel
theorem dX0_init_25 : decode cX0_init 25 = .ok (.return_, 1) := by decide +kernel
theorem dX0_add_0 : decode cX0_add 0 = .ok (.aload_n 0, 1) := by decide +kernel
theorem dX0_add_1 : decode cX0_add 1 = .ok (.getfield 9, 3) := by decide +kernel
theorem dX0_add_4 : decode cX0_add 4 = .ok (.aload_n 0, 1) := by decide +kernel
theorem dX0_add_5 : decode cX0_add 5 = .ok (.getfield 18, 3) := by decide +kernel
theorem dX0_add_8 : decode cX0_add 8 = .ok (.iload_n 1, 1) := by decide +kernel
theorem dX0_add_9 : decode cX0_add 9 = .ok (.invokestatic 22, 3) := by decide +kernel
theorem dX0_add_12 : decode cX0_add 12 = .ok (.aload_n 0, 1) := by decide +kernel
theorem dX0_add_13 : decode cX0_add 13 = .ok (.getfield 15, 3) := by decide +kernel
theorem dX0_add_16 : decode cX0_add 16 = .ok (.aload_n 0, 1) := by decide +kernel
theorem dX0_add_17 : decode cX0_add 17 = .ok (.getfield 18, 3) := by decide +kernel
theorem dX0_add_20 : decode cX0_add 20 = .ok (.iload_n 2, 1) := by decide +kernel
theorem dX0_add_21 : decode cX0_add 21 = .ok (.invokestatic 22, 3) := by decide +kernel
theorem dX0_add_24 : decode cX0_add 24 = .ok (.aload_n 0, 1) := by decide +kernel
theorem dX0_add_25 : decode cX0_add 25 = .ok (.dup, 1) := by decide +kernel
theorem dX0_add_26 : decode cX0_add 26 = .ok (.getfield 18, 3) := by decide +kernel
theorem dX0_add_29 : decode cX0_add 29 = .ok (.iconst 1, 1) := by decide +kernel
theorem dX0_add_30 : decode cX0_add 30 = .ok (.iadd, 1) := by decide +kernel
theorem dX0_add_31 : decode cX0_add 31 = .ok (.putfield 18, 3) := by decide +kernel
theorem dX0_add_34 : decode cX0_add 34 = .ok (.return_, 1) := by decide +kernel
theorem dX1_init_0 : decode cX1_init 0 = .ok (.aload_n 0, 1) := by decide +kernel
theorem dX1_init_1 : decode cX1_init 1 = .ok (.invokespecial 3, 3) := by decide +kernel
theorem dX1_init_4 : decode cX1_init 4 = .ok (.aload_n 0, 1) := by decide +kernel
theorem dX1_init_5 : decode cX1_init 5 = .ok (.iconst 4, 1) := by decide +kernel
theorem dX1_init_6 : decode cX1_init 6 = .ok (.newarray .int, 2) := by decide +kernel
theorem dX1_init_8 : decode cX1_init 8 = .ok (.putfield 9, 3) := by decide +kernel
theorem dX1_init_11 : decode cX1_init 11 = .ok (.aload_n 0, 1) := by decide +kernel
theorem dX1_init_12 : decode cX1_init 12 = .ok (.iconst 0, 1) := by decide +kernel
theorem dX1_init_13 : decode cX1_init 13 = .ok (.putfield 15, 3) := by decide +kernel
theorem dX1_init_16 : decode cX1_init 16 = .ok (.return_, 1) := by decide +kernel
theorem dX1_add_0 : decode cX1_add 0 = .ok (.aload_n 0, 1) := by decide +kernel
theorem dX1_add_1 : decode cX1_add 1 = .ok (.getfield 9, 3) := by decide +kernel
theorem dX1_add_4 : decode cX1_add 4 = .ok (.aload_n 0, 1) := by decide +kernel
theorem dX1_add_5 : decode cX1_add 5 = .ok (.getfield 15, 3) := by decide +kernel
theorem dX1_add_8 : decode cX1_add 8 = .ok (.iload_n 1, 1) := by decide +kernel
theorem dX1_add_9 : decode cX1_add 9 = .ok (.invokestatic 19, 3) := by decide +kernel
theorem dX1_add_12 : decode cX1_add 12 = .ok (.aload_n 0, 1) := by decide +kernel
theorem dX1_add_13 : decode cX1_add 13 = .ok (.dup, 1) := by decide +kernel
theorem dX1_add_14 : decode cX1_add 14 = .ok (.getfield 15, 3) := by decide +kernel
theorem dX1_add_17 : decode cX1_add 17 = .ok (.iconst 1, 1) := by decide +kernel
theorem dX1_add_18 : decode cX1_add 18 = .ok (.iadd, 1) := by decide +kernel
theorem dX1_add_19 : decode cX1_add 19 = .ok (.putfield 15, 3) := by decide +kernel
theorem dX1_add_22 : decode cX1_add 22 = .ok (.return_, 1) := by decide +kernel
theorem dX1_counts_0 : decode cX1_counts 0 = .ok (.iconst 0, 1) := by decide +kernel
theorem dX1_counts_1 : decode cX1_counts 1 = .ok (.istore_n 2, 1) := by decide +kernel
theorem dX1_counts_2 : decode cX1_counts 2 = .ok (.iload_n 2, 1) := by decide +kernel
theorem dX1_counts_3 : decode cX1_counts 3 = .ok (.aload_n 0, 1) := by decide +kernel
theorem dX1_counts_4 : decode cX1_counts 4 = .ok (.getfield 15, 3) := by decide +kernel
theorem dX1_counts_7 : decode cX1_counts 7 = .ok (.if_icmp .ge 23, 3) := by decide +kernel
theorem dX1_counts_10 : decode cX1_counts 10 = .ok (.aload_n 0, 1) := by decide +kernel
theorem dX1_counts_11 : decode cX1_counts 11 = .ok (.getfield 9, 3) := by decide +kernel
theorem dX1_counts_14 : decode cX1_counts 14 = .ok (.iload_n 2, 1) := by decide +kernel
theorem dX1_counts_15 : decode cX1_counts 15 = .ok (.invokestatic 23, 3) := by decide +kernel
theorem dX1_counts_18 : decode cX1_counts 18 = .ok (.iload_n 1, 1) := by decide +kernel
theorem dX1_counts_19 : decode cX1_counts 19 = .ok (.if_icmp .ne 5, 3) := by decide +kernel
theorem dX1_counts_22 : decode cX1_counts 22 = .ok (.iconst 1, 1) := by decide +kernel
theorem dX1_counts_23 : decode cX1_counts 23 = .ok (.ireturn, 1) := by decide +kernel
theorem dX1_counts_24 : decode cX1_counts 24 = .ok (.iinc 2 1, 3) := by decide +kernel
theorem dX1_counts_27 : decode cX1_counts 27 = .ok (.goto (-25), 3) := by decide +kernel
theorem dX1_counts_30 : decode cX1_counts 30 = .ok (.iconst 0, 1) := by decide +kernel
theorem dX1_counts_31 : decode cX1_counts 31 = .ok (.ireturn, 1) := by decide +kernel
theorem dX1_copyFrom_0 : decode cX1_copyFrom 0 = .ok (.aload_n 1, 1) := by decide +kernel
theorem dX1_copyFrom_1 : decode cX1_copyFrom 1 = .ok (.getfield 9, 3) := by decide +kernel
theorem dX1_copyFrom_4 : decode cX1_copyFrom 4 = .ok (.aload_n 0, 1) := by decide +kernel
theorem dX1_copyFrom_5 : decode cX1_copyFrom 5 = .ok (.getfield 9, 3) := by decide +kernel
theorem dX1_copyFrom_8 : decode cX1_copyFrom 8 = .ok (.invokestatic 27, 3) := by decide +kernel
theorem dX1_copyFrom_11 : decode cX1_copyFrom 11 = .ok (.aload_n 0, 1) := by decide +kernel
theorem dX1_copyFrom_12 : decode cX1_copyFrom 12 = .ok (.aload_n 1, 1) := by decide +kernel
theorem dX1_copyFrom_13 : decode cX1_copyFrom 13 = .ok (.getfield 15, 3) := by decide +kernel
theorem dX1_copyFrom_16 : decode cX1_copyFrom 16 = .ok (.putfield 15, 3) := by decide +kernel
theorem dX1_copyFrom_19 : decode cX1_copyFrom 19 = .ok (.return_, 1) := by decide +kernel
theorem dX1_readFrom_0 : decode cX1_readFrom 0 = .ok (.aload_n 0, 1) := by decide +kernel
theorem dX1_readFrom_1 : decode cX1_readFrom 1 = .ok (.iconst 0, 1) := by decide +kernel
theorem dX1_readFrom_2 : decode cX1_readFrom 2 = .ok (.putfield 15, 3) := by decide +kernel
theorem dX1_readFrom_5 : decode cX1_readFrom 5 = .ok (.aload_n 1, 1) := by decide +kernel
theorem dX1_readFrom_6 : decode cX1_readFrom 6 = .ok (.invokevirtual 31, 3) := by decide +kernel
theorem dX1_readFrom_9 : decode cX1_readFrom 9 = .ok (.iconst 0, 1) := by decide +kernel
theorem dX1_readFrom_10 : decode cX1_readFrom 10 = .ok (.istore_n 2, 1) := by decide +kernel
theorem dX1_readFrom_11 : decode cX1_readFrom 11 = .ok (.iload_n 2, 1) := by decide +kernel
theorem dX1_readFrom_12 : decode cX1_readFrom 12 = .ok (.sipush 400, 3) := by decide +kernel
theorem dX1_readFrom_15 : decode cX1_readFrom 15 = .ok (.if_icmp .ge 21, 3) := by decide +kernel
theorem dX1_readFrom_18 : decode cX1_readFrom 18 = .ok (.aload_n 1, 1) := by decide +kernel
theorem dX1_readFrom_19 : decode cX1_readFrom 19 = .ok (.invokevirtual 36, 3) := by decide +kernel
theorem dX1_readFrom_22 : decode cX1_readFrom 22 = .ok (.ifCond .eq 14, 3) := by decide +kernel
theorem dX1_readFrom_25 : decode cX1_readFrom 25 = .ok (.aload_n 0, 1) := by decide +kernel
theorem dX1_readFrom_26 : decode cX1_readFrom 26 = .ok (.aload_n 1, 1) := by decide +kernel
theorem dX1_readFrom_27 : decode cX1_readFrom 27 = .ok (.invokevirtual 40, 3) := by decide +kernel
theorem dX1_readFrom_30 : decode cX1_readFrom 30 = .ok (.iinc 2 1, 3) := by decide +kernel
theorem dX1_readFrom_33 : decode cX1_readFrom 33 = .ok (.goto (-22), 3) := by decide +kernel
theorem dX1_readFrom_36 : decode cX1_readFrom 36 = .ok (.return_, 1) := by decide +kernel
theorem dX1_readClause_0 : decode cX1_readClause 0 = .ok (.aload_n 1, 1) := by decide +kernel
theorem dX1_readClause_1 : decode cX1_readClause 1 = .ok (.getfield 44, 3) := by decide +kernel
theorem dX1_readClause_4 : decode cX1_readClause 4 = .ok (.istore_n 2, 1) := by decide +kernel
theorem dX1_readClause_5 : decode cX1_readClause 5 = .ok (.iconst (-1), 1) := by decide +kernel
theorem dX1_readClause_6 : decode cX1_readClause 6 = .ok (.istore_n 3, 1) := by decide +kernel
theorem dX1_readClause_7 : decode cX1_readClause 7 = .ok (.aload_n 1, 1) := by decide +kernel
theorem dX1_readClause_8 : decode cX1_readClause 8 = .ok (.ldc 47, 2) := by decide +kernel
theorem dX1_readClause_10 : decode cX1_readClause 10 = .ok (.invokevirtual 49, 3) := by decide +kernel
theorem dX1_readClause_13 : decode cX1_readClause 13 = .ok (.ifCond .eq 8, 3) := by decide +kernel
theorem dX1_readClause_16 : decode cX1_readClause 16 = .ok (.iconst 0, 1) := by decide +kernel
theorem dX1_readClause_17 : decode cX1_readClause 17 = .ok (.istore_n 3, 1) := by decide +kernel
theorem dX1_readClause_18 : decode cX1_readClause 18 = .ok (.goto 42, 3) := by decide +kernel
theorem dX1_readClause_21 : decode cX1_readClause 21 = .ok (.aload_n 1, 1) := by decide +kernel
theorem dX1_readClause_22 : decode cX1_readClause 22 = .ok (.ldc 53, 2) := by decide +kernel
theorem dX1_readClause_24 : decode cX1_readClause 24 = .ok (.invokevirtual 49, 3) := by decide +kernel
theorem dX1_readClause_27 : decode cX1_readClause 27 = .ok (.ifCond .eq 8, 3) := by decide +kernel
theorem dX1_readClause_30 : decode cX1_readClause 30 = .ok (.iconst 1, 1) := by decide +kernel
theorem dX1_readClause_31 : decode cX1_readClause 31 = .ok (.istore_n 3, 1) := by decide +kernel
theorem dX1_readClause_32 : decode cX1_readClause 32 = .ok (.goto 28, 3) := by decide +kernel
theorem dX1_readClause_35 : decode cX1_readClause 35 = .ok (.aload_n 1, 1) := by decide +kernel
theorem dX1_readClause_36 : decode cX1_readClause 36 = .ok (.ldc 55, 2) := by decide +kernel
theorem dX1_readClause_38 : decode cX1_readClause 38 = .ok (.invokevirtual 49, 3) := by decide +kernel
theorem dX1_readClause_41 : decode cX1_readClause 41 = .ok (.ifCond .eq 8, 3) := by decide +kernel
theorem dX1_readClause_44 : decode cX1_readClause 44 = .ok (.iconst 2, 1) := by decide +kernel
theorem dX1_readClause_45 : decode cX1_readClause 45 = .ok (.istore_n 3, 1) := by decide +kernel
theorem dX1_readClause_46 : decode cX1_readClause 46 = .ok (.goto 14, 3) := by decide +kernel
theorem dX1_readClause_49 : decode cX1_readClause 49 = .ok (.aload_n 1, 1) := by decide +kernel
theorem dX1_readClause_50 : decode cX1_readClause 50 = .ok (.ldc 57, 2) := by decide +kernel
theorem dX1_readClause_52 : decode cX1_readClause 52 = .ok (.invokevirtual 49, 3) := by decide +kernel
theorem dX1_readClause_55 : decode cX1_readClause 55 = .ok (.ifCond .eq 5, 3) := by decide +kernel
theorem dX1_readClause_58 : decode cX1_readClause 58 = .ok (.iconst 3, 1) := by decide +kernel
theorem dX1_readClause_59 : decode cX1_readClause 59 = .ok (.istore_n 3, 1) := by decide +kernel
theorem dX1_readClause_60 : decode cX1_readClause 60 = .ok (.iload_n 3, 1) := by decide +kernel
theorem dX1_readClause_61 : decode cX1_readClause 61 = .ok (.iconst (-1), 1) := by decide +kernel
theorem dX1_readClause_62 : decode cX1_readClause 62 = .ok (.if_icmp .ne 12, 3) := by decide +kernel
theorem dX1_readClause_65 : decode cX1_readClause 65 = .ok (.aload_n 1, 1) := by decide +kernel
theorem dX1_readClause_66 : decode cX1_readClause 66 = .ok (.iconst 1, 1) := by decide +kernel
theorem dX1_readClause_67 : decode cX1_readClause 67 = .ok (.iload_n 2, 1) := by decide +kernel
theorem dX1_readClause_68 : decode cX1_readClause 68 = .ok (.invokevirtual 59, 3) := by decide +kernel
theorem dX1_readClause_71 : decode cX1_readClause 71 = .ok (.goto 29, 3) := by decide +kernel
theorem dX1_readClause_74 : decode cX1_readClause 74 = .ok (.aload_n 0, 1) := by decide +kernel
theorem dX1_readClause_75 : decode cX1_readClause 75 = .ok (.iload_n 3, 1) := by decide +kernel
theorem dX1_readClause_76 : decode cX1_readClause 76 = .ok (.invokevirtual 63, 3) := by decide +kernel
theorem dX1_readClause_79 : decode cX1_readClause 79 = .ok (.ifCond .eq 12, 3) := by decide +kernel
theorem dX1_readClause_82 : decode cX1_readClause 82 = .ok (.aload_n 1, 1) := by decide +kernel
theorem dX1_readClause_83 : decode cX1_readClause 83 = .ok (.iconst 3, 1) := by decide +kernel
theorem dX1_readClause_84 : decode cX1_readClause 84 = .ok (.iload_n 2, 1) := by decide +kernel
theorem dX1_readClause_85 : decode cX1_readClause 85 = .ok (.invokevirtual 59, 3) := by decide +kernel
theorem dX1_readClause_88 : decode cX1_readClause 88 = .ok (.goto 12, 3) := by decide +kernel
theorem dX1_readClause_91 : decode cX1_readClause 91 = .ok (.aload_n 0, 1) := by decide +kernel
theorem dX1_readClause_92 : decode cX1_readClause 92 = .ok (.iload_n 3, 1) := by decide +kernel
theorem dX1_readClause_93 : decode cX1_readClause 93 = .ok (.invokevirtual 67, 3) := by decide +kernel
theorem dX1_readClause_96 : decode cX1_readClause 96 = .ok (.aload_n 1, 1) := by decide +kernel
theorem dX1_readClause_97 : decode cX1_readClause 97 = .ok (.invokevirtual 71, 3) := by decide +kernel
theorem dX1_readClause_100 : decode cX1_readClause 100 = .ok (.return_, 1) := by decide +kernel
theorem dX2_init_0 : decode cX2_init 0 = .ok (.aload_n 0, 1) := by decide +kernel
theorem dX2_init_1 : decode cX2_init 1 = .ok (.invokespecial 3, 3) := by decide +kernel
theorem dX2_init_4 : decode cX2_init 4 = .ok (.aload_n 0, 1) := by decide +kernel
theorem dX2_init_5 : decode cX2_init 5 = .ok (.sipush 128, 3) := by decide +kernel
theorem dX2_init_8 : decode cX2_init 8 = .ok (.newarray .int, 2) := by decide +kernel
theorem dX2_init_10 : decode cX2_init 10 = .ok (.putfield 9, 3) := by decide +kernel
theorem dX2_init_13 : decode cX2_init 13 = .ok (.return_, 1) := by decide +kernel
theorem dX2_countWays_0 : decode cX2_countWays 0 = .ok (.aload_n 1, 1) := by decide +kernel
theorem dX2_countWays_1 : decode cX2_countWays 1 = .ok (.getfield 15, 3) := by decide +kernel
theorem dX2_countWays_4 : decode cX2_countWays 4 = .ok (.invokestatic 21, 3) := by decide +kernel
theorem dX2_countWays_7 : decode cX2_countWays 7 = .ok (.istore_n 2, 1) := by decide +kernel
theorem dX2_countWays_8 : decode cX2_countWays 8 = .ok (.aload_n 0, 1) := by decide +kernel
theorem dX2_countWays_9 : decode cX2_countWays 9 = .ok (.getfield 9, 3) := by decide +kernel
theorem dX2_countWays_12 : decode cX2_countWays 12 = .ok (.iconst 0, 1) := by decide +kernel
theorem dX2_countWays_13 : decode cX2_countWays 13 = .ok (.iconst 1, 1) := by decide +kernel
theorem dX2_countWays_14 : decode cX2_countWays 14 = .ok (.invokestatic 25, 3) := by decide +kernel
theorem dX2_countWays_17 : decode cX2_countWays 17 = .ok (.iconst 1, 1) := by decide +kernel
theorem dX2_countWays_18 : decode cX2_countWays 18 = .ok (.istore_n 3, 1) := by decide +kernel
theorem dX2_countWays_19 : decode cX2_countWays 19 = .ok (.iload_n 3, 1) := by decide +kernel
theorem dX2_countWays_20 : decode cX2_countWays 20 = .ok (.iload_n 2, 1) := by decide +kernel
theorem dX2_countWays_21 : decode cX2_countWays 21 = .ok (.if_icmp .gt 88, 3) := by decide +kernel
theorem dX2_countWays_24 : decode cX2_countWays 24 = .ok (.iload_n 3, 1) := by decide +kernel
theorem dX2_countWays_25 : decode cX2_countWays 25 = .ok (.aload_n 1, 1) := by decide +kernel
theorem dX2_countWays_26 : decode cX2_countWays 26 = .ok (.getfield 29, 3) := by decide +kernel
theorem dX2_countWays_29 : decode cX2_countWays 29 = .ok (.iload_n 3, 1) := by decide +kernel
theorem dX2_countWays_30 : decode cX2_countWays 30 = .ok (.invokestatic 32, 3) := by decide +kernel
theorem dX2_countWays_33 : decode cX2_countWays 33 = .ok (.iconst 1, 1) := by decide +kernel
theorem dX2_countWays_34 : decode cX2_countWays 34 = .ok (.isub, 1) := by decide +kernel
theorem dX2_countWays_35 : decode cX2_countWays 35 = .ok (.invokestatic 37, 3) := by decide +kernel
theorem dX2_countWays_38 : decode cX2_countWays 38 = .ok (.iand, 1) := by decide +kernel
theorem dX2_countWays_39 : decode cX2_countWays 39 = .ok (.istore 4, 2) := by decide +kernel
theorem dX2_countWays_41 : decode cX2_countWays 41 = .ok (.iconst 0, 1) := by decide +kernel
theorem dX2_countWays_42 : decode cX2_countWays 42 = .ok (.istore 5, 2) := by decide +kernel
theorem dX2_countWays_44 : decode cX2_countWays 44 = .ok (.iconst 0, 1) := by decide +kernel
theorem dX2_countWays_45 : decode cX2_countWays 45 = .ok (.istore 6, 2) := by decide +kernel
theorem dX2_countWays_47 : decode cX2_countWays 47 = .ok (.iload 6, 2) := by decide +kernel
theorem dX2_countWays_49 : decode cX2_countWays 49 = .ok (.aload_n 1, 1) := by decide +kernel
theorem dX2_countWays_50 : decode cX2_countWays 50 = .ok (.getfield 15, 3) := by decide +kernel
theorem dX2_countWays_53 : decode cX2_countWays 53 = .ok (.if_icmp .ge 40, 3) := by decide +kernel
theorem dX2_countWays_56 : decode cX2_countWays 56 = .ok (.iload 4, 2) := by decide +kernel
theorem dX2_countWays_58 : decode cX2_countWays 58 = .ok (.iload 6, 2) := by decide +kernel
theorem dX2_countWays_60 : decode cX2_countWays 60 = .ok (.invokestatic 41, 3) := by decide +kernel
theorem dX2_countWays_63 : decode cX2_countWays 63 = .ok (.ifCond .eq 24, 3) := by decide +kernel
theorem dX2_countWays_66 : decode cX2_countWays 66 = .ok (.iload 5, 2) := by decide +kernel
theorem dX2_countWays_68 : decode cX2_countWays 68 = .ok (.aload_n 0, 1) := by decide +kernel
theorem dX2_countWays_69 : decode cX2_countWays 69 = .ok (.getfield 9, 3) := by decide +kernel
theorem dX2_countWays_72 : decode cX2_countWays 72 = .ok (.iload_n 3, 1) := by decide +kernel
theorem dX2_countWays_73 : decode cX2_countWays 73 = .ok (.iload 6, 2) := by decide +kernel
theorem dX2_countWays_75 : decode cX2_countWays 75 = .ok (.invokestatic 45, 3) := by decide +kernel
theorem dX2_countWays_78 : decode cX2_countWays 78 = .ok (.iconst (-1), 1) := by decide +kernel
theorem dX2_countWays_79 : decode cX2_countWays 79 = .ok (.ixor, 1) := by decide +kernel
theorem dX2_countWays_80 : decode cX2_countWays 80 = .ok (.iand, 1) := by decide +kernel
theorem dX2_countWays_81 : decode cX2_countWays 81 = .ok (.invokestatic 37, 3) := by decide +kernel
theorem dX2_countWays_84 : decode cX2_countWays 84 = .ok (.iadd, 1) := by decide +kernel
theorem dX2_countWays_85 : decode cX2_countWays 85 = .ok (.istore 5, 2) := by decide +kernel
theorem dX2_countWays_87 : decode cX2_countWays 87 = .ok (.iinc 6 1, 3) := by decide +kernel
theorem dX2_countWays_90 : decode cX2_countWays 90 = .ok (.goto (-43), 3) := by decide +kernel
theorem dX2_countWays_93 : decode cX2_countWays 93 = .ok (.aload_n 0, 1) := by decide +kernel
theorem dX2_countWays_94 : decode cX2_countWays 94 = .ok (.getfield 9, 3) := by decide +kernel
theorem dX2_countWays_97 : decode cX2_countWays 97 = .ok (.iload_n 3, 1) := by decide +kernel
theorem dX2_countWays_98 : decode cX2_countWays 98 = .ok (.iload 5, 2) := by decide +kernel
theorem dX2_countWays_100 : decode cX2_countWays 100 = .ok (.invokestatic 25, 3) := by decide +kernel
theorem dX2_countWays_103 : decode cX2_countWays 103 = .ok (.iinc 3 1, 3) := by decide +kernel
theorem dX2_countWays_106 : decode cX2_countWays 106 = .ok (.goto (-87), 3) := by decide +kernel
theorem dX2_countWays_109 : decode cX2_countWays 109 = .ok (.aload_n 0, 1) := by decide +kernel
theorem dX2_countWays_110 : decode cX2_countWays 110 = .ok (.getfield 9, 3) := by decide +kernel
theorem dX2_countWays_113 : decode cX2_countWays 113 = .ok (.iload_n 2, 1) := by decide +kernel
theorem dX2_countWays_114 : decode cX2_countWays 114 = .ok (.invokestatic 37, 3) := by decide +kernel
theorem dX2_countWays_117 : decode cX2_countWays 117 = .ok (.ireturn, 1) := by decide +kernel
theorem dX2_weigh_0 : decode cX2_weigh 0 = .ok (.aload_n 1, 1) := by decide +kernel
theorem dX2_weigh_1 : decode cX2_weigh 1 = .ok (.getfield 15, 3) := by decide +kernel
theorem dX2_weigh_4 : decode cX2_weigh 4 = .ok (.invokestatic 21, 3) := by decide +kernel
theorem dX2_weigh_7 : decode cX2_weigh 7 = .ok (.istore_n 2, 1) := by decide +kernel
theorem dX2_weigh_8 : decode cX2_weigh 8 = .ok (.aload_n 0, 1) := by decide +kernel
theorem dX2_weigh_9 : decode cX2_weigh 9 = .ok (.getfield 9, 3) := by decide +kernel
theorem dX2_weigh_12 : decode cX2_weigh 12 = .ok (.iload_n 2, 1) := by decide +kernel
theorem dX2_weigh_13 : decode cX2_weigh 13 = .ok (.iconst 0, 1) := by decide +kernel
theorem dX2_weigh_14 : decode cX2_weigh 14 = .ok (.invokestatic 25, 3) := by decide +kernel
theorem dX2_weigh_17 : decode cX2_weigh 17 = .ok (.iload_n 2, 1) := by decide +kernel
theorem dX2_weigh_18 : decode cX2_weigh 18 = .ok (.iconst 1, 1) := by decide +kernel
theorem dX2_weigh_19 : decode cX2_weigh 19 = .ok (.isub, 1) := by decide +kernel
theorem dX2_weigh_20 : decode cX2_weigh 20 = .ok (.istore_n 3, 1) := by decide +kernel
theorem dX2_weigh_21 : decode cX2_weigh 21 = .ok (.iload_n 3, 1) := by decide +kernel
theorem dX2_weigh_22 : decode cX2_weigh 22 = .ok (.ifCond .lt 56, 3) := by decide +kernel
theorem dX2_weigh_25 : decode cX2_weigh 25 = .ok (.bipush 99, 2) := by decide +kernel
theorem dX2_weigh_27 : decode cX2_weigh 27 = .ok (.istore 4, 2) := by decide +kernel
theorem dX2_weigh_29 : decode cX2_weigh 29 = .ok (.iconst 0, 1) := by decide +kernel
theorem dX2_weigh_30 : decode cX2_weigh 30 = .ok (.istore 5, 2) := by decide +kernel
theorem dX2_weigh_32 : decode cX2_weigh 32 = .ok (.iload 5, 2) := by decide +kernel
theorem dX2_weigh_34 : decode cX2_weigh 34 = .ok (.aload_n 1, 1) := by decide +kernel
theorem dX2_weigh_35 : decode cX2_weigh 35 = .ok (.getfield 15, 3) := by decide +kernel
theorem dX2_weigh_38 : decode cX2_weigh 38 = .ok (.if_icmp .ge 24, 3) := by decide +kernel
theorem dX2_weigh_41 : decode cX2_weigh 41 = .ok (.iload 4, 2) := by decide +kernel
theorem dX2_weigh_43 : decode cX2_weigh 43 = .ok (.aload_n 0, 1) := by decide +kernel
theorem dX2_weigh_44 : decode cX2_weigh 44 = .ok (.aload_n 1, 1) := by decide +kernel
theorem dX2_weigh_45 : decode cX2_weigh 45 = .ok (.iload_n 3, 1) := by decide +kernel
theorem dX2_weigh_46 : decode cX2_weigh 46 = .ok (.iload 5, 2) := by decide +kernel
theorem dX2_weigh_48 : decode cX2_weigh 48 = .ok (.invokevirtual 48, 3) := by decide +kernel
theorem dX2_weigh_51 : decode cX2_weigh 51 = .ok (.invokestatic 52, 3) := by decide +kernel
theorem dX2_weigh_54 : decode cX2_weigh 54 = .ok (.istore 4, 2) := by decide +kernel
theorem dX2_weigh_56 : decode cX2_weigh 56 = .ok (.iinc 5 1, 3) := by decide +kernel
theorem dX2_weigh_59 : decode cX2_weigh 59 = .ok (.goto (-27), 3) := by decide +kernel
theorem dX2_weigh_62 : decode cX2_weigh 62 = .ok (.aload_n 0, 1) := by decide +kernel
theorem dX2_weigh_63 : decode cX2_weigh 63 = .ok (.getfield 9, 3) := by decide +kernel
theorem dX2_weigh_66 : decode cX2_weigh 66 = .ok (.iload_n 3, 1) := by decide +kernel
theorem dX2_weigh_67 : decode cX2_weigh 67 = .ok (.iload 4, 2) := by decide +kernel
theorem dX2_weigh_69 : decode cX2_weigh 69 = .ok (.invokestatic 25, 3) := by decide +kernel
theorem dX2_weigh_72 : decode cX2_weigh 72 = .ok (.iinc 3 (-1), 3) := by decide +kernel
theorem dX2_weigh_75 : decode cX2_weigh 75 = .ok (.goto (-54), 3) := by decide +kernel
theorem dX2_weigh_78 : decode cX2_weigh 78 = .ok (.return_, 1) := by decide +kernel
theorem dX2_changesWith_0 : decode cX2_changesWith 0 = .ok (.iload_n 2, 1) := by decide +kernel
theorem dX2_changesWith_1 : decode cX2_changesWith 1 = .ok (.invokestatic 32, 3) := by decide +kernel
theorem dX2_changesWith_4 : decode cX2_changesWith 4 = .ok (.istore 4, 2) := by decide +kernel
theorem dX2_changesWith_6 : decode cX2_changesWith 6 = .ok (.iload_n 2, 1) := by decide +kernel
theorem dX2_changesWith_7 : decode cX2_changesWith 7 = .ok (.iload_n 3, 1) := by decide +kernel
theorem dX2_changesWith_8 : decode cX2_changesWith 8 = .ok (.invokestatic 41, 3) := by decide +kernel
theorem dX2_changesWith_11 : decode cX2_changesWith 11 = .ok (.ifCond .ne 19, 3) := by decide +kernel
theorem dX2_changesWith_14 : decode cX2_changesWith 14 = .ok (.aload_n 1, 1) := by decide +kernel
theorem dX2_changesWith_15 : decode cX2_changesWith 15 = .ok (.getfield 29, 3) := by decide +kernel
theorem dX2_changesWith_18 : decode cX2_changesWith 18 = .ok (.iload 4, 2) := by decide +kernel
theorem dX2_changesWith_20 : decode cX2_changesWith 20 = .ok (.invokestatic 37, 3) := by decide +kernel
theorem dX2_changesWith_23 : decode cX2_changesWith 23 = .ok (.iload_n 3, 1) := by decide +kernel
theorem dX2_changesWith_24 : decode cX2_changesWith 24 = .ok (.invokestatic 41, 3) := by decide +kernel
theorem dX2_changesWith_27 : decode cX2_changesWith 27 = .ok (.ifCond .ne 6, 3) := by decide +kernel
theorem dX2_changesWith_30 : decode cX2_changesWith 30 = .ok (.bipush 99, 2) := by decide +kernel
theorem dX2_changesWith_32 : decode cX2_changesWith 32 = .ok (.ireturn, 1) := by decide +kernel
theorem dX2_changesWith_33 : decode cX2_changesWith 33 = .ok (.aload_n 1, 1) := by decide +kernel
theorem dX2_changesWith_34 : decode cX2_changesWith 34 = .ok (.getfield 58, 3) := by decide +kernel
theorem dX2_changesWith_37 : decode cX2_changesWith 37 = .ok (.iload 4, 2) := by decide +kernel
theorem dX2_changesWith_39 : decode cX2_changesWith 39 = .ok (.invokestatic 37, 3) := by decide +kernel
theorem dX2_changesWith_42 : decode cX2_changesWith 42 = .ok (.iload_n 3, 1) := by decide +kernel
theorem dX2_changesWith_43 : decode cX2_changesWith 43 = .ok (.if_icmp .ne 7, 3) := by decide +kernel
theorem dX2_changesWith_46 : decode cX2_changesWith 46 = .ok (.iconst 0, 1) := by decide +kernel
theorem dX2_changesWith_47 : decode cX2_changesWith 47 = .ok (.goto 4, 3) := by decide +kernel
theorem dX2_changesWith_50 : decode cX2_changesWith 50 = .ok (.iconst 1, 1) := by decide +kernel
theorem dX2_changesWith_51 : decode cX2_changesWith 51 = .ok (.istore 5, 2) := by decide +kernel
theorem dX2_changesWith_53 : decode cX2_changesWith 53 = .ok (.iload 5, 2) := by decide +kernel
theorem dX2_changesWith_55 : decode cX2_changesWith 55 = .ok (.aload_n 0, 1) := by decide +kernel
theorem dX2_changesWith_56 : decode cX2_changesWith 56 = .ok (.getfield 9, 3) := by decide +kernel
theorem dX2_changesWith_59 : decode cX2_changesWith 59 = .ok (.iload_n 2, 1) := by decide +kernel
theorem dX2_changesWith_60 : decode cX2_changesWith 60 = .ok (.iload_n 3, 1) := by decide +kernel
theorem dX2_changesWith_61 : decode cX2_changesWith 61 = .ok (.invokestatic 45, 3) := by decide +kernel
theorem dX2_changesWith_64 : decode cX2_changesWith 64 = .ok (.ior, 1) := by decide +kernel
theorem dX2_changesWith_65 : decode cX2_changesWith 65 = .ok (.invokestatic 37, 3) := by decide +kernel
theorem dX2_changesWith_68 : decode cX2_changesWith 68 = .ok (.iadd, 1) := by decide +kernel
theorem dX2_changesWith_69 : decode cX2_changesWith 69 = .ok (.ireturn, 1) := by decide +kernel
theorem dX2_fewestChanges_0 : decode cX2_fewestChanges 0 = .ok (.aload_n 0, 1) := by decide +kernel
theorem dX2_fewestChanges_1 : decode cX2_fewestChanges 1 = .ok (.getfield 9, 3) := by decide +kernel
theorem dX2_fewestChanges_4 : decode cX2_fewestChanges 4 = .ok (.iconst 0, 1) := by decide +kernel
theorem dX2_fewestChanges_5 : decode cX2_fewestChanges 5 = .ok (.invokestatic 37, 3) := by decide +kernel
theorem dX2_fewestChanges_8 : decode cX2_fewestChanges 8 = .ok (.ireturn, 1) := by decide +kernel
theorem dX2_nameOf_0 : decode cX2_nameOf 0 = .ok (.iconst 0, 1) := by decide +kernel
theorem dX2_nameOf_1 : decode cX2_nameOf 1 = .ok (.istore_n 3, 1) := by decide +kernel
theorem dX2_nameOf_2 : decode cX2_nameOf 2 = .ok (.iconst (-1), 1) := by decide +kernel
theorem dX2_nameOf_3 : decode cX2_nameOf 3 = .ok (.istore 4, 2) := by decide +kernel
theorem dX2_nameOf_5 : decode cX2_nameOf 5 = .ok (.iconst 0, 1) := by decide +kernel
theorem dX2_nameOf_6 : decode cX2_nameOf 6 = .ok (.istore 5, 2) := by decide +kernel
theorem dX2_nameOf_8 : decode cX2_nameOf 8 = .ok (.iload 5, 2) := by decide +kernel
theorem dX2_nameOf_10 : decode cX2_nameOf 10 = .ok (.iload_n 2, 1) := by decide +kernel
theorem dX2_nameOf_11 : decode cX2_nameOf 11 = .ok (.if_icmp .gt 67, 3) := by decide +kernel
theorem dX2_nameOf_14 : decode cX2_nameOf 14 = .ok (.iconst (-1), 1) := by decide +kernel
theorem dX2_nameOf_15 : decode cX2_nameOf 15 = .ok (.istore 4, 2) := by decide +kernel
theorem dX2_nameOf_17 : decode cX2_nameOf 17 = .ok (.iconst 0, 1) := by decide +kernel
theorem dX2_nameOf_18 : decode cX2_nameOf 18 = .ok (.istore 6, 2) := by decide +kernel
theorem dX2_nameOf_20 : decode cX2_nameOf 20 = .ok (.iload 6, 2) := by decide +kernel
theorem dX2_nameOf_22 : decode cX2_nameOf 22 = .ok (.aload_n 1, 1) := by decide +kernel
theorem dX2_nameOf_23 : decode cX2_nameOf 23 = .ok (.getfield 15, 3) := by decide +kernel
theorem dX2_nameOf_26 : decode cX2_nameOf 26 = .ok (.if_icmp .ge 38, 3) := by decide +kernel
theorem dX2_nameOf_29 : decode cX2_nameOf 29 = .ok (.iload 4, 2) := by decide +kernel
theorem dX2_nameOf_31 : decode cX2_nameOf 31 = .ok (.iconst (-1), 1) := by decide +kernel
theorem dX2_nameOf_32 : decode cX2_nameOf 32 = .ok (.if_icmp .ne 32, 3) := by decide +kernel
theorem dX2_nameOf_35 : decode cX2_nameOf 35 = .ok (.aload_n 0, 1) := by decide +kernel
theorem dX2_nameOf_36 : decode cX2_nameOf 36 = .ok (.aload_n 1, 1) := by decide +kernel
theorem dX2_nameOf_37 : decode cX2_nameOf 37 = .ok (.iload_n 3, 1) := by decide +kernel
theorem dX2_nameOf_38 : decode cX2_nameOf 38 = .ok (.iload 6, 2) := by decide +kernel
theorem dX2_nameOf_40 : decode cX2_nameOf 40 = .ok (.invokevirtual 48, 3) := by decide +kernel
theorem dX2_nameOf_43 : decode cX2_nameOf 43 = .ok (.aload_n 0, 1) := by decide +kernel
theorem dX2_nameOf_44 : decode cX2_nameOf 44 = .ok (.getfield 9, 3) := by decide +kernel
theorem dX2_nameOf_47 : decode cX2_nameOf 47 = .ok (.iload_n 3, 1) := by decide +kernel
theorem dX2_nameOf_48 : decode cX2_nameOf 48 = .ok (.invokestatic 37, 3) := by decide +kernel
theorem dX2_nameOf_51 : decode cX2_nameOf 51 = .ok (.if_icmp .ne 7, 3) := by decide +kernel
theorem dX2_nameOf_54 : decode cX2_nameOf 54 = .ok (.iload 6, 2) := by decide +kernel
theorem dX2_nameOf_56 : decode cX2_nameOf 56 = .ok (.istore 4, 2) := by decide +kernel
theorem dX2_nameOf_58 : decode cX2_nameOf 58 = .ok (.iinc 6 1, 3) := by decide +kernel
theorem dX2_nameOf_61 : decode cX2_nameOf 61 = .ok (.goto (-41), 3) := by decide +kernel
theorem dX2_nameOf_64 : decode cX2_nameOf 64 = .ok (.iload_n 3, 1) := by decide +kernel
theorem dX2_nameOf_65 : decode cX2_nameOf 65 = .ok (.iload 4, 2) := by decide +kernel
theorem dX2_nameOf_67 : decode cX2_nameOf 67 = .ok (.invokestatic 45, 3) := by decide +kernel
theorem dX2_nameOf_70 : decode cX2_nameOf 70 = .ok (.ior, 1) := by decide +kernel
theorem dX2_nameOf_71 : decode cX2_nameOf 71 = .ok (.istore_n 3, 1) := by decide +kernel
theorem dX2_nameOf_72 : decode cX2_nameOf 72 = .ok (.iinc 5 1, 3) := by decide +kernel
theorem dX2_nameOf_75 : decode cX2_nameOf 75 = .ok (.goto (-67), 3) := by decide +kernel
theorem dX2_nameOf_78 : decode cX2_nameOf 78 = .ok (.iload 4, 2) := by decide +kernel
theorem dX2_nameOf_80 : decode cX2_nameOf 80 = .ok (.ireturn, 1) := by decide +kernel
theorem dX3_init_0 : decode cX3_init 0 = .ok (.aload_n 0, 1) := by decide +kernel
theorem dX3_init_1 : decode cX3_init 1 = .ok (.invokespecial 3, 3) := by decide +kernel
theorem dX3_init_4 : decode cX3_init 4 = .ok (.aload_n 0, 1) := by decide +kernel
theorem dX3_init_5 : decode cX3_init 5 = .ok (.iconst 0, 1) := by decide +kernel
theorem dX3_init_6 : decode cX3_init 6 = .ok (.putfield 9, 3) := by decide +kernel
theorem dX3_init_9 : decode cX3_init 9 = .ok (.aload_n 0, 1) := by decide +kernel
theorem dX3_init_10 : decode cX3_init 10 = .ok (.iconst 0, 1) := by decide +kernel
theorem dX3_init_11 : decode cX3_init 11 = .ok (.putfield 15, 3) := by decide +kernel
theorem dX3_init_14 : decode cX3_init 14 = .ok (.aload_n 0, 1) := by decide +kernel
theorem dX3_init_15 : decode cX3_init 15 = .ok (.iconst 0, 1) := by decide +kernel
theorem dX3_init_16 : decode cX3_init 16 = .ok (.putfield 18, 3) := by decide +kernel
theorem dX3_init_19 : decode cX3_init 19 = .ok (.aload_n 0, 1) := by decide +kernel
theorem dX3_init_20 : decode cX3_init 20 = .ok (.iconst 0, 1) := by decide +kernel
theorem dX3_init_21 : decode cX3_init 21 = .ok (.putfield 21, 3) := by decide +kernel
theorem dX3_init_24 : decode cX3_init 24 = .ok (.aload_n 0, 1) := by decide +kernel
theorem dX3_init_25 : decode cX3_init 25 = .ok (.bipush 8, 2) := by decide +kernel
theorem dX3_init_27 : decode cX3_init 27 = .ok (.newarray .int, 2) := by decide +kernel
theorem dX3_init_29 : decode cX3_init 29 = .ok (.putfield 24, 3) := by decide +kernel
theorem dX3_init_32 : decode cX3_init 32 = .ok (.aload_n 0, 1) := by decide +kernel
theorem dX3_init_33 : decode cX3_init 33 = .ok (.bipush 7, 2) := by decide +kernel
theorem dX3_init_35 : decode cX3_init 35 = .ok (.newarray .int, 2) := by decide +kernel
theorem dX3_init_37 : decode cX3_init 37 = .ok (.putfield 28, 3) := by decide +kernel
theorem dX3_init_40 : decode cX3_init 40 = .ok (.aload_n 0, 1) := by decide +kernel
theorem dX3_init_41 : decode cX3_init 41 = .ok (.bipush 7, 2) := by decide +kernel
theorem dX3_init_43 : decode cX3_init 43 = .ok (.newarray .int, 2) := by decide +kernel
theorem dX3_init_45 : decode cX3_init 45 = .ok (.putfield 31, 3) := by decide +kernel
theorem dX3_init_48 : decode cX3_init 48 = .ok (.aload_n 0, 1) := by decide +kernel
theorem dX3_init_49 : decode cX3_init 49 = .ok (.bipush 7, 2) := by decide +kernel
theorem dX3_init_51 : decode cX3_init 51 = .ok (.newarray .int, 2) := by decide +kernel
theorem dX3_init_53 : decode cX3_init 53 = .ok (.putfield 34, 3) := by decide +kernel
theorem dX3_init_56 : decode cX3_init 56 = .ok (.aload_n 0, 1) := by decide +kernel
theorem dX3_init_57 : decode cX3_init 57 = .ok (.bipush 7, 2) := by decide +kernel
theorem dX3_init_59 : decode cX3_init 59 = .ok (.newarray .int, 2) := by decide +kernel
theorem dX3_init_61 : decode cX3_init 61 = .ok (.putfield 37, 3) := by decide +kernel
theorem dX3_init_64 : decode cX3_init 64 = .ok (.aload_n 0, 1) := by decide +kernel
theorem dX3_init_65 : decode cX3_init 65 = .ok (.bipush 7, 2) := by decide +kernel
theorem dX3_init_67 : decode cX3_init 67 = .ok (.newarray .int, 2) := by decide +kernel
theorem dX3_init_69 : decode cX3_init 69 = .ok (.putfield 40, 3) := by decide +kernel
theorem dX3_init_72 : decode cX3_init 72 = .ok (.aload_n 0, 1) := by decide +kernel
theorem dX3_init_73 : decode cX3_init 73 = .ok (.bipush 7, 2) := by decide +kernel
theorem dX3_init_75 : decode cX3_init 75 = .ok (.newarray .int, 2) := by decide +kernel
theorem dX3_init_77 : decode cX3_init 77 = .ok (.putfield 43, 3) := by decide +kernel
theorem dX3_init_80 : decode cX3_init 80 = .ok (.aload_n 0, 1) := by decide +kernel
theorem dX3_init_81 : decode cX3_init 81 = .ok (.bipush 7, 2) := by decide +kernel
theorem dX3_init_83 : decode cX3_init 83 = .ok (.newarray .int, 2) := by decide +kernel
theorem dX3_init_85 : decode cX3_init 85 = .ok (.putfield 46, 3) := by decide +kernel
theorem dX3_init_88 : decode cX3_init 88 = .ok (.aload_n 0, 1) := by decide +kernel
theorem dX3_init_89 : decode cX3_init 89 = .ok (.bipush 7, 2) := by decide +kernel
theorem dX3_init_91 : decode cX3_init 91 = .ok (.newarray .int, 2) := by decide +kernel
theorem dX3_init_93 : decode cX3_init 93 = .ok (.putfield 49, 3) := by decide +kernel
theorem dX3_init_96 : decode cX3_init 96 = .ok (.aload_n 0, 1) := by decide +kernel
theorem dX3_init_97 : decode cX3_init 97 = .ok (.iconst 0, 1) := by decide +kernel
theorem dX3_init_98 : decode cX3_init 98 = .ok (.putfield 52, 3) := by decide +kernel
theorem dX3_init_101 : decode cX3_init 101 = .ok (.aload_n 0, 1) := by decide +kernel
theorem dX3_init_102 : decode cX3_init 102 = .ok (.iconst 0, 1) := by decide +kernel
theorem dX3_init_103 : decode cX3_init 103 = .ok (.putfield 55, 3) := by decide +kernel
theorem dX3_init_106 : decode cX3_init 106 = .ok (.aload_n 0, 1) := by decide +kernel
theorem dX3_init_107 : decode cX3_init 107 = .ok (.iconst 0, 1) := by decide +kernel
theorem dX3_init_108 : decode cX3_init 108 = .ok (.putfield 58, 3) := by decide +kernel
theorem dX3_init_111 : decode cX3_init 111 = .ok (.return_, 1) := by decide +kernel
theorem dX3_copyFrom_0 : decode cX3_copyFrom 0 = .ok (.aload_n 0, 1) := by decide +kernel
theorem dX3_copyFrom_1 : decode cX3_copyFrom 1 = .ok (.aload_n 1, 1) := by decide +kernel
theorem dX3_copyFrom_2 : decode cX3_copyFrom 2 = .ok (.getfield 9, 3) := by decide +kernel
theorem dX3_copyFrom_5 : decode cX3_copyFrom 5 = .ok (.putfield 9, 3) := by decide +kernel
theorem dX3_copyFrom_8 : decode cX3_copyFrom 8 = .ok (.aload_n 0, 1) := by decide +kernel
theorem dX3_copyFrom_9 : decode cX3_copyFrom 9 = .ok (.aload_n 1, 1) := by decide +kernel
theorem dX3_copyFrom_10 : decode cX3_copyFrom 10 = .ok (.getfield 15, 3) := by decide +kernel
theorem dX3_copyFrom_13 : decode cX3_copyFrom 13 = .ok (.putfield 15, 3) := by decide +kernel
theorem dX3_copyFrom_16 : decode cX3_copyFrom 16 = .ok (.aload_n 0, 1) := by decide +kernel
theorem dX3_copyFrom_17 : decode cX3_copyFrom 17 = .ok (.aload_n 1, 1) := by decide +kernel
theorem dX3_copyFrom_18 : decode cX3_copyFrom 18 = .ok (.getfield 18, 3) := by decide +kernel
theorem dX3_copyFrom_21 : decode cX3_copyFrom 21 = .ok (.putfield 18, 3) := by decide +kernel
theorem dX3_copyFrom_24 : decode cX3_copyFrom 24 = .ok (.aload_n 0, 1) := by decide +kernel
theorem dX3_copyFrom_25 : decode cX3_copyFrom 25 = .ok (.aload_n 1, 1) := by decide +kernel
theorem dX3_copyFrom_26 : decode cX3_copyFrom 26 = .ok (.getfield 21, 3) := by decide +kernel
theorem dX3_copyFrom_29 : decode cX3_copyFrom 29 = .ok (.putfield 21, 3) := by decide +kernel
theorem dX3_copyFrom_32 : decode cX3_copyFrom 32 = .ok (.aload_n 1, 1) := by decide +kernel
theorem dX3_copyFrom_33 : decode cX3_copyFrom 33 = .ok (.getfield 24, 3) := by decide +kernel
theorem dX3_copyFrom_36 : decode cX3_copyFrom 36 = .ok (.aload_n 0, 1) := by decide +kernel
theorem dX3_copyFrom_37 : decode cX3_copyFrom 37 = .ok (.getfield 24, 3) := by decide +kernel
theorem dX3_copyFrom_40 : decode cX3_copyFrom 40 = .ok (.invokestatic 61, 3) := by decide +kernel
theorem dX3_copyFrom_43 : decode cX3_copyFrom 43 = .ok (.aload_n 1, 1) := by decide +kernel
theorem dX3_copyFrom_44 : decode cX3_copyFrom 44 = .ok (.getfield 28, 3) := by decide +kernel
theorem dX3_copyFrom_47 : decode cX3_copyFrom 47 = .ok (.aload_n 0, 1) := by decide +kernel
theorem dX3_copyFrom_48 : decode cX3_copyFrom 48 = .ok (.getfield 28, 3) := by decide +kernel
theorem dX3_copyFrom_51 : decode cX3_copyFrom 51 = .ok (.invokestatic 61, 3) := by decide +kernel
theorem dX3_copyFrom_54 : decode cX3_copyFrom 54 = .ok (.aload_n 1, 1) := by decide +kernel
theorem dX3_copyFrom_55 : decode cX3_copyFrom 55 = .ok (.getfield 31, 3) := by decide +kernel
theorem dX3_copyFrom_58 : decode cX3_copyFrom 58 = .ok (.aload_n 0, 1) := by decide +kernel
theorem dX3_copyFrom_59 : decode cX3_copyFrom 59 = .ok (.getfield 31, 3) := by decide +kernel
theorem dX3_copyFrom_62 : decode cX3_copyFrom 62 = .ok (.invokestatic 61, 3) := by decide +kernel
theorem dX3_copyFrom_65 : decode cX3_copyFrom 65 = .ok (.aload_n 1, 1) := by decide +kernel
theorem dX3_copyFrom_66 : decode cX3_copyFrom 66 = .ok (.getfield 34, 3) := by decide +kernel
theorem dX3_copyFrom_69 : decode cX3_copyFrom 69 = .ok (.aload_n 0, 1) := by decide +kernel
theorem dX3_copyFrom_70 : decode cX3_copyFrom 70 = .ok (.getfield 34, 3) := by decide +kernel
theorem dX3_copyFrom_73 : decode cX3_copyFrom 73 = .ok (.invokestatic 61, 3) := by decide +kernel
theorem dX3_copyFrom_76 : decode cX3_copyFrom 76 = .ok (.aload_n 1, 1) := by decide +kernel
theorem dX3_copyFrom_77 : decode cX3_copyFrom 77 = .ok (.getfield 37, 3) := by decide +kernel
theorem dX3_copyFrom_80 : decode cX3_copyFrom 80 = .ok (.aload_n 0, 1) := by decide +kernel
theorem dX3_copyFrom_81 : decode cX3_copyFrom 81 = .ok (.getfield 37, 3) := by decide +kernel
theorem dX3_copyFrom_84 : decode cX3_copyFrom 84 = .ok (.invokestatic 61, 3) := by decide +kernel
theorem dX3_copyFrom_87 : decode cX3_copyFrom 87 = .ok (.aload_n 1, 1) := by decide +kernel
theorem dX3_copyFrom_88 : decode cX3_copyFrom 88 = .ok (.getfield 40, 3) := by decide +kernel
theorem dX3_copyFrom_91 : decode cX3_copyFrom 91 = .ok (.aload_n 0, 1) := by decide +kernel
theorem dX3_copyFrom_92 : decode cX3_copyFrom 92 = .ok (.getfield 40, 3) := by decide +kernel
theorem dX3_copyFrom_95 : decode cX3_copyFrom 95 = .ok (.invokestatic 61, 3) := by decide +kernel
theorem dX3_copyFrom_98 : decode cX3_copyFrom 98 = .ok (.aload_n 1, 1) := by decide +kernel
theorem dX3_copyFrom_99 : decode cX3_copyFrom 99 = .ok (.getfield 43, 3) := by decide +kernel
theorem dX3_copyFrom_102 : decode cX3_copyFrom 102 = .ok (.aload_n 0, 1) := by decide +kernel
theorem dX3_copyFrom_103 : decode cX3_copyFrom 103 = .ok (.getfield 43, 3) := by decide +kernel
theorem dX3_copyFrom_106 : decode cX3_copyFrom 106 = .ok (.invokestatic 61, 3) := by decide +kernel
theorem dX3_copyFrom_109 : decode cX3_copyFrom 109 = .ok (.aload_n 1, 1) := by decide +kernel
theorem dX3_copyFrom_110 : decode cX3_copyFrom 110 = .ok (.getfield 46, 3) := by decide +kernel
theorem dX3_copyFrom_113 : decode cX3_copyFrom 113 = .ok (.aload_n 0, 1) := by decide +kernel
theorem dX3_copyFrom_114 : decode cX3_copyFrom 114 = .ok (.getfield 46, 3) := by decide +kernel
theorem dX3_copyFrom_117 : decode cX3_copyFrom 117 = .ok (.invokestatic 61, 3) := by decide +kernel
theorem dX3_copyFrom_120 : decode cX3_copyFrom 120 = .ok (.aload_n 1, 1) := by decide +kernel
theorem dX3_copyFrom_121 : decode cX3_copyFrom 121 = .ok (.getfield 49, 3) := by decide +kernel
theorem dX3_copyFrom_124 : decode cX3_copyFrom 124 = .ok (.aload_n 0, 1) := by decide +kernel
theorem dX3_copyFrom_125 : decode cX3_copyFrom 125 = .ok (.getfield 49, 3) := by decide +kernel
theorem dX3_copyFrom_128 : decode cX3_copyFrom 128 = .ok (.invokestatic 61, 3) := by decide +kernel
theorem dX3_copyFrom_131 : decode cX3_copyFrom 131 = .ok (.aload_n 0, 1) := by decide +kernel
theorem dX3_copyFrom_132 : decode cX3_copyFrom 132 = .ok (.aload_n 1, 1) := by decide +kernel
theorem dX3_copyFrom_133 : decode cX3_copyFrom 133 = .ok (.getfield 52, 3) := by decide +kernel
theorem dX3_copyFrom_136 : decode cX3_copyFrom 136 = .ok (.putfield 52, 3) := by decide +kernel
theorem dX3_copyFrom_139 : decode cX3_copyFrom 139 = .ok (.aload_n 0, 1) := by decide +kernel
theorem dX3_copyFrom_140 : decode cX3_copyFrom 140 = .ok (.aload_n 1, 1) := by decide +kernel
theorem dX3_copyFrom_141 : decode cX3_copyFrom 141 = .ok (.getfield 55, 3) := by decide +kernel
theorem dX3_copyFrom_144 : decode cX3_copyFrom 144 = .ok (.putfield 55, 3) := by decide +kernel
theorem dX3_copyFrom_147 : decode cX3_copyFrom 147 = .ok (.aload_n 0, 1) := by decide +kernel
theorem dX3_copyFrom_148 : decode cX3_copyFrom 148 = .ok (.aload_n 1, 1) := by decide +kernel
theorem dX3_copyFrom_149 : decode cX3_copyFrom 149 = .ok (.getfield 58, 3) := by decide +kernel
theorem dX3_copyFrom_152 : decode cX3_copyFrom 152 = .ok (.putfield 58, 3) := by decide +kernel
theorem dX3_copyFrom_155 : decode cX3_copyFrom 155 = .ok (.return_, 1) := by decide +kernel
theorem dX3_readFrom_0 : decode cX3_readFrom 0 = .ok (.aload_n 0, 1) := by decide +kernel
theorem dX3_readFrom_1 : decode cX3_readFrom 1 = .ok (.iconst 0, 1) := by decide +kernel
theorem dX3_readFrom_2 : decode cX3_readFrom 2 = .ok (.putfield 9, 3) := by decide +kernel
theorem dX3_readFrom_5 : decode cX3_readFrom 5 = .ok (.aload_n 0, 1) := by decide +kernel
theorem dX3_readFrom_6 : decode cX3_readFrom 6 = .ok (.iconst 0, 1) := by decide +kernel
theorem dX3_readFrom_7 : decode cX3_readFrom 7 = .ok (.putfield 15, 3) := by decide +kernel
theorem dX3_readFrom_10 : decode cX3_readFrom 10 = .ok (.aload_n 0, 1) := by decide +kernel
theorem dX3_readFrom_11 : decode cX3_readFrom 11 = .ok (.iconst 0, 1) := by decide +kernel
theorem dX3_readFrom_12 : decode cX3_readFrom 12 = .ok (.putfield 18, 3) := by decide +kernel
theorem dX3_readFrom_15 : decode cX3_readFrom 15 = .ok (.aload_n 0, 1) := by decide +kernel
theorem dX3_readFrom_16 : decode cX3_readFrom 16 = .ok (.iconst 0, 1) := by decide +kernel
theorem dX3_readFrom_17 : decode cX3_readFrom 17 = .ok (.putfield 21, 3) := by decide +kernel
theorem dX3_readFrom_20 : decode cX3_readFrom 20 = .ok (.aload_n 1, 1) := by decide +kernel
theorem dX3_readFrom_21 : decode cX3_readFrom 21 = .ok (.invokevirtual 65, 3) := by decide +kernel
theorem dX3_readFrom_24 : decode cX3_readFrom 24 = .ok (.iconst 0, 1) := by decide +kernel
theorem dX3_readFrom_25 : decode cX3_readFrom 25 = .ok (.istore_n 2, 1) := by decide +kernel
theorem dX3_readFrom_26 : decode cX3_readFrom 26 = .ok (.iload_n 2, 1) := by decide +kernel
theorem dX3_readFrom_27 : decode cX3_readFrom 27 = .ok (.sipush 400, 3) := by decide +kernel
theorem dX3_readFrom_30 : decode cX3_readFrom 30 = .ok (.if_icmp .ge 21, 3) := by decide +kernel
theorem dX3_readFrom_33 : decode cX3_readFrom 33 = .ok (.aload_n 1, 1) := by decide +kernel
theorem dX3_readFrom_34 : decode cX3_readFrom 34 = .ok (.invokevirtual 70, 3) := by decide +kernel
theorem dX3_readFrom_37 : decode cX3_readFrom 37 = .ok (.ifCond .eq 14, 3) := by decide +kernel
theorem dX3_readFrom_40 : decode cX3_readFrom 40 = .ok (.aload_n 0, 1) := by decide +kernel
theorem dX3_readFrom_41 : decode cX3_readFrom 41 = .ok (.aload_n 1, 1) := by decide +kernel
theorem dX3_readFrom_42 : decode cX3_readFrom 42 = .ok (.invokevirtual 74, 3) := by decide +kernel
theorem dX3_readFrom_45 : decode cX3_readFrom 45 = .ok (.iinc 2 1, 3) := by decide +kernel
theorem dX3_readFrom_48 : decode cX3_readFrom 48 = .ok (.goto (-22), 3) := by decide +kernel
theorem dX3_readFrom_51 : decode cX3_readFrom 51 = .ok (.return_, 1) := by decide +kernel
theorem dX3_readClause_0 : decode cX3_readClause 0 = .ok (.aload_n 1, 1) := by decide +kernel
theorem dX3_readClause_1 : decode cX3_readClause 1 = .ok (.getfield 78, 3) := by decide +kernel
theorem dX3_readClause_4 : decode cX3_readClause 4 = .ok (.istore_n 2, 1) := by decide +kernel
theorem dX3_readClause_5 : decode cX3_readClause 5 = .ok (.aload_n 1, 1) := by decide +kernel
theorem dX3_readClause_6 : decode cX3_readClause 6 = .ok (.ldc 81, 2) := by decide +kernel
theorem dX3_readClause_8 : decode cX3_readClause 8 = .ok (.invokevirtual 82, 3) := by decide +kernel
theorem dX3_readClause_11 : decode cX3_readClause 11 = .ok (.ifCond .eq 12, 3) := by decide +kernel
theorem dX3_readClause_14 : decode cX3_readClause 14 = .ok (.aload_n 0, 1) := by decide +kernel
theorem dX3_readClause_15 : decode cX3_readClause 15 = .ok (.aload_n 1, 1) := by decide +kernel
theorem dX3_readClause_16 : decode cX3_readClause 16 = .ok (.iload_n 2, 1) := by decide +kernel
theorem dX3_readClause_17 : decode cX3_readClause 17 = .ok (.invokevirtual 86, 3) := by decide +kernel
theorem dX3_readClause_20 : decode cX3_readClause 20 = .ok (.goto 45, 3) := by decide +kernel
theorem dX3_readClause_23 : decode cX3_readClause 23 = .ok (.aload_n 1, 1) := by decide +kernel
theorem dX3_readClause_24 : decode cX3_readClause 24 = .ok (.ldc 90, 2) := by decide +kernel
theorem dX3_readClause_26 : decode cX3_readClause 26 = .ok (.invokevirtual 82, 3) := by decide +kernel
theorem dX3_readClause_29 : decode cX3_readClause 29 = .ok (.ifCond .eq 12, 3) := by decide +kernel
theorem dX3_readClause_32 : decode cX3_readClause 32 = .ok (.aload_n 0, 1) := by decide +kernel
theorem dX3_readClause_33 : decode cX3_readClause 33 = .ok (.aload_n 1, 1) := by decide +kernel
theorem dX3_readClause_34 : decode cX3_readClause 34 = .ok (.iload_n 2, 1) := by decide +kernel
theorem dX3_readClause_35 : decode cX3_readClause 35 = .ok (.invokevirtual 92, 3) := by decide +kernel
theorem dX3_readClause_38 : decode cX3_readClause 38 = .ok (.goto 27, 3) := by decide +kernel
theorem dX3_readClause_41 : decode cX3_readClause 41 = .ok (.aload_n 1, 1) := by decide +kernel
theorem dX3_readClause_42 : decode cX3_readClause 42 = .ok (.ldc 95, 2) := by decide +kernel
theorem dX3_readClause_44 : decode cX3_readClause 44 = .ok (.invokevirtual 82, 3) := by decide +kernel
theorem dX3_readClause_47 : decode cX3_readClause 47 = .ok (.ifCond .eq 12, 3) := by decide +kernel
theorem dX3_readClause_50 : decode cX3_readClause 50 = .ok (.aload_n 0, 1) := by decide +kernel
theorem dX3_readClause_51 : decode cX3_readClause 51 = .ok (.aload_n 1, 1) := by decide +kernel
theorem dX3_readClause_52 : decode cX3_readClause 52 = .ok (.iload_n 2, 1) := by decide +kernel
theorem dX3_readClause_53 : decode cX3_readClause 53 = .ok (.invokevirtual 96, 3) := by decide +kernel
theorem dX3_readClause_56 : decode cX3_readClause 56 = .ok (.goto 9, 3) := by decide +kernel
theorem dX3_readClause_59 : decode cX3_readClause 59 = .ok (.aload_n 1, 1) := by decide +kernel
theorem dX3_readClause_60 : decode cX3_readClause 60 = .ok (.iconst 1, 1) := by decide +kernel
theorem dX3_readClause_61 : decode cX3_readClause 61 = .ok (.iload_n 2, 1) := by decide +kernel
theorem dX3_readClause_62 : decode cX3_readClause 62 = .ok (.invokevirtual 99, 3) := by decide +kernel
theorem dX3_readClause_65 : decode cX3_readClause 65 = .ok (.return_, 1) := by decide +kernel
theorem dX3_readSun_0 : decode cX3_readSun 0 = .ok (.aload_n 0, 1) := by decide +kernel
theorem dX3_readSun_1 : decode cX3_readSun 1 = .ok (.getfield 18, 3) := by decide +kernel
theorem dX3_readSun_4 : decode cX3_readSun 4 = .ok (.ifCond .eq 9, 3) := by decide +kernel
theorem dX3_readSun_7 : decode cX3_readSun 7 = .ok (.aload_n 1, 1) := by decide +kernel
theorem dX3_readSun_8 : decode cX3_readSun 8 = .ok (.iconst 3, 1) := by decide +kernel
theorem dX3_readSun_9 : decode cX3_readSun 9 = .ok (.iload_n 2, 1) := by decide +kernel
theorem dX3_readSun_10 : decode cX3_readSun 10 = .ok (.invokevirtual 99, 3) := by decide +kernel
theorem dX3_readSun_13 : decode cX3_readSun 13 = .ok (.aload_n 0, 1) := by decide +kernel
theorem dX3_readSun_14 : decode cX3_readSun 14 = .ok (.aload_n 1, 1) := by decide +kernel
theorem dX3_readSun_15 : decode cX3_readSun 15 = .ok (.iconst 1, 1) := by decide +kernel
theorem dX3_readSun_16 : decode cX3_readSun 16 = .ok (.bipush 20, 2) := by decide +kernel
theorem dX3_readSun_18 : decode cX3_readSun 18 = .ok (.invokevirtual 103, 3) := by decide +kernel
theorem dX3_readSun_21 : decode cX3_readSun 21 = .ok (.putfield 18, 3) := by decide +kernel
theorem dX3_readSun_24 : decode cX3_readSun 24 = .ok (.aload_n 0, 1) := by decide +kernel
theorem dX3_readSun_25 : decode cX3_readSun 25 = .ok (.aload_n 1, 1) := by decide +kernel
theorem dX3_readSun_26 : decode cX3_readSun 26 = .ok (.iconst 0, 1) := by decide +kernel
theorem dX3_readSun_27 : decode cX3_readSun 27 = .ok (.bipush 20, 2) := by decide +kernel
theorem dX3_readSun_29 : decode cX3_readSun 29 = .ok (.invokevirtual 103, 3) := by decide +kernel
theorem dX3_readSun_32 : decode cX3_readSun 32 = .ok (.putfield 21, 3) := by decide +kernel
theorem dX3_readSun_35 : decode cX3_readSun 35 = .ok (.aload_n 1, 1) := by decide +kernel
theorem dX3_readSun_36 : decode cX3_readSun 36 = .ok (.invokevirtual 107, 3) := by decide +kernel
theorem dX3_readSun_39 : decode cX3_readSun 39 = .ok (.return_, 1) := by decide +kernel
theorem dX3_readYard_0 : decode cX3_readYard 0 = .ok (.aload_n 0, 1) := by decide +kernel
theorem dX3_readYard_1 : decode cX3_readYard 1 = .ok (.getfield 9, 3) := by decide +kernel
theorem dX3_readYard_4 : decode cX3_readYard 4 = .ok (.bipush 8, 2) := by decide +kernel
theorem dX3_readYard_6 : decode cX3_readYard 6 = .ok (.if_icmp .lt 10, 3) := by decide +kernel
theorem dX3_readYard_9 : decode cX3_readYard 9 = .ok (.aload_n 1, 1) := by decide +kernel
theorem dX3_readYard_10 : decode cX3_readYard 10 = .ok (.iconst 3, 1) := by decide +kernel
theorem dX3_readYard_11 : decode cX3_readYard 11 = .ok (.iload_n 2, 1) := by decide +kernel
theorem dX3_readYard_12 : decode cX3_readYard 12 = .ok (.invokevirtual 99, 3) := by decide +kernel
theorem dX3_readYard_15 : decode cX3_readYard 15 = .ok (.return_, 1) := by decide +kernel
theorem dX3_readYard_16 : decode cX3_readYard 16 = .ok (.aload_n 0, 1) := by decide +kernel
theorem dX3_readYard_17 : decode cX3_readYard 17 = .ok (.getfield 24, 3) := by decide +kernel
theorem dX3_readYard_20 : decode cX3_readYard 20 = .ok (.aload_n 0, 1) := by decide +kernel
theorem dX3_readYard_21 : decode cX3_readYard 21 = .ok (.getfield 9, 3) := by decide +kernel
theorem dX3_readYard_24 : decode cX3_readYard 24 = .ok (.aload_n 1, 1) := by decide +kernel
theorem dX3_readYard_25 : decode cX3_readYard 25 = .ok (.iconst 0, 1) := by decide +kernel
theorem dX3_readYard_26 : decode cX3_readYard 26 = .ok (.bipush 99, 2) := by decide +kernel
theorem dX3_readYard_28 : decode cX3_readYard 28 = .ok (.invokevirtual 103, 3) := by decide +kernel
theorem dX3_readYard_31 : decode cX3_readYard 31 = .ok (.invokestatic 110, 3) := by decide +kernel
theorem dX3_readYard_34 : decode cX3_readYard 34 = .ok (.aload_n 1, 1) := by decide +kernel
theorem dX3_readYard_35 : decode cX3_readYard 35 = .ok (.invokevirtual 107, 3) := by decide +kernel
theorem dX3_readYard_38 : decode cX3_readYard 38 = .ok (.aload_n 0, 1) := by decide +kernel
theorem dX3_readYard_39 : decode cX3_readYard 39 = .ok (.dup, 1) := by decide +kernel
theorem dX3_readYard_40 : decode cX3_readYard 40 = .ok (.getfield 9, 3) := by decide +kernel
theorem dX3_readYard_43 : decode cX3_readYard 43 = .ok (.iconst 1, 1) := by decide +kernel
theorem dX3_readYard_44 : decode cX3_readYard 44 = .ok (.iadd, 1) := by decide +kernel
theorem dX3_readYard_45 : decode cX3_readYard 45 = .ok (.putfield 9, 3) := by decide +kernel
theorem dX3_readYard_48 : decode cX3_readYard 48 = .ok (.return_, 1) := by decide +kernel
theorem dX3_readDead_0 : decode cX3_readDead 0 = .ok (.aload_n 0, 1) := by decide +kernel
theorem dX3_readDead_1 : decode cX3_readDead 1 = .ok (.getfield 15, 3) := by decide +kernel
theorem dX3_readDead_4 : decode cX3_readDead 4 = .ok (.bipush 7, 2) := by decide +kernel
theorem dX3_readDead_6 : decode cX3_readDead 6 = .ok (.if_icmp .lt 10, 3) := by decide +kernel
theorem dX3_readDead_9 : decode cX3_readDead 9 = .ok (.aload_n 1, 1) := by decide +kernel
theorem dX3_readDead_10 : decode cX3_readDead 10 = .ok (.iconst 3, 1) := by decide +kernel
theorem dX3_readDead_11 : decode cX3_readDead 11 = .ok (.iload_n 2, 1) := by decide +kernel
theorem dX3_readDead_12 : decode cX3_readDead 12 = .ok (.invokevirtual 99, 3) := by decide +kernel
theorem dX3_readDead_15 : decode cX3_readDead 15 = .ok (.return_, 1) := by decide +kernel
theorem dX3_readDead_16 : decode cX3_readDead 16 = .ok (.aload_n 0, 1) := by decide +kernel
theorem dX3_readDead_17 : decode cX3_readDead 17 = .ok (.getfield 28, 3) := by decide +kernel
theorem dX3_readDead_20 : decode cX3_readDead 20 = .ok (.aload_n 0, 1) := by decide +kernel
theorem dX3_readDead_21 : decode cX3_readDead 21 = .ok (.getfield 15, 3) := by decide +kernel
theorem dX3_readDead_24 : decode cX3_readDead 24 = .ok (.aload_n 1, 1) := by decide +kernel
theorem dX3_readDead_25 : decode cX3_readDead 25 = .ok (.iconst 0, 1) := by decide +kernel
theorem dX3_readDead_26 : decode cX3_readDead 26 = .ok (.bipush 99, 2) := by decide +kernel
theorem dX3_readDead_28 : decode cX3_readDead 28 = .ok (.invokevirtual 103, 3) := by decide +kernel
theorem dX3_readDead_31 : decode cX3_readDead 31 = .ok (.invokestatic 110, 3) := by decide +kernel
theorem dX3_readDead_34 : decode cX3_readDead 34 = .ok (.aload_n 0, 1) := by decide +kernel
theorem dX3_readDead_35 : decode cX3_readDead 35 = .ok (.getfield 31, 3) := by decide +kernel
theorem dX3_readDead_38 : decode cX3_readDead 38 = .ok (.aload_n 0, 1) := by decide +kernel
theorem dX3_readDead_39 : decode cX3_readDead 39 = .ok (.getfield 15, 3) := by decide +kernel
theorem dX3_readDead_42 : decode cX3_readDead 42 = .ok (.aload_n 1, 1) := by decide +kernel
theorem dX3_readDead_43 : decode cX3_readDead 43 = .ok (.iconst 0, 1) := by decide +kernel
theorem dX3_readDead_44 : decode cX3_readDead 44 = .ok (.sipush 999, 3) := by decide +kernel
theorem dX3_readDead_47 : decode cX3_readDead 47 = .ok (.invokevirtual 103, 3) := by decide +kernel
theorem dX3_readDead_50 : decode cX3_readDead 50 = .ok (.invokestatic 110, 3) := by decide +kernel
theorem dX3_readDead_53 : decode cX3_readDead 53 = .ok (.aload_n 0, 1) := by decide +kernel
theorem dX3_readDead_54 : decode cX3_readDead 54 = .ok (.getfield 34, 3) := by decide +kernel
theorem dX3_readDead_57 : decode cX3_readDead 57 = .ok (.aload_n 0, 1) := by decide +kernel
theorem dX3_readDead_58 : decode cX3_readDead 58 = .ok (.getfield 15, 3) := by decide +kernel
theorem dX3_readDead_61 : decode cX3_readDead 61 = .ok (.aload_n 1, 1) := by decide +kernel
theorem dX3_readDead_62 : decode cX3_readDead 62 = .ok (.iconst 0, 1) := by decide +kernel
theorem dX3_readDead_63 : decode cX3_readDead 63 = .ok (.bipush 9, 2) := by decide +kernel
theorem dX3_readDead_65 : decode cX3_readDead 65 = .ok (.invokevirtual 103, 3) := by decide +kernel
theorem dX3_readDead_68 : decode cX3_readDead 68 = .ok (.invokestatic 110, 3) := by decide +kernel
theorem dX3_readDead_71 : decode cX3_readDead 71 = .ok (.aload_n 1, 1) := by decide +kernel
theorem dX3_readDead_72 : decode cX3_readDead 72 = .ok (.invokevirtual 107, 3) := by decide +kernel
theorem dX3_readDead_75 : decode cX3_readDead 75 = .ok (.aload_n 0, 1) := by decide +kernel
theorem dX3_readDead_76 : decode cX3_readDead 76 = .ok (.dup, 1) := by decide +kernel
theorem dX3_readDead_77 : decode cX3_readDead 77 = .ok (.getfield 15, 3) := by decide +kernel
theorem dX3_readDead_80 : decode cX3_readDead 80 = .ok (.iconst 1, 1) := by decide +kernel
theorem dX3_readDead_81 : decode cX3_readDead 81 = .ok (.iadd, 1) := by decide +kernel
theorem dX3_readDead_82 : decode cX3_readDead 82 = .ok (.putfield 15, 3) := by decide +kernel
theorem dX3_readDead_85 : decode cX3_readDead 85 = .ok (.return_, 1) := by decide +kernel
theorem dX3_settle_0 : decode cX3_settle 0 = .ok (.aload_n 0, 1) := by decide +kernel
theorem dX3_settle_1 : decode cX3_settle 1 = .ok (.getfield 18, 3) := by decide +kernel
theorem dX3_settle_4 : decode cX3_settle 4 = .ok (.ifCond .ne 14, 3) := by decide +kernel
theorem dX3_settle_7 : decode cX3_settle 7 = .ok (.aload_n 0, 1) := by decide +kernel
theorem dX3_settle_8 : decode cX3_settle 8 = .ok (.bipush 6, 2) := by decide +kernel
theorem dX3_settle_10 : decode cX3_settle 10 = .ok (.putfield 18, 3) := by decide +kernel
theorem dX3_settle_13 : decode cX3_settle 13 = .ok (.aload_n 0, 1) := by decide +kernel
theorem dX3_settle_14 : decode cX3_settle 14 = .ok (.iconst 2, 1) := by decide +kernel
theorem dX3_settle_15 : decode cX3_settle 15 = .ok (.putfield 21, 3) := by decide +kernel
theorem dX3_settle_18 : decode cX3_settle 18 = .ok (.iconst 0, 1) := by decide +kernel
theorem dX3_settle_19 : decode cX3_settle 19 = .ok (.istore_n 1, 1) := by decide +kernel
theorem dX3_settle_20 : decode cX3_settle 20 = .ok (.iload_n 1, 1) := by decide +kernel
theorem dX3_settle_21 : decode cX3_settle 21 = .ok (.bipush 7, 2) := by decide +kernel
theorem dX3_settle_23 : decode cX3_settle 23 = .ok (.if_icmp .ge 61, 3) := by decide +kernel
theorem dX3_settle_26 : decode cX3_settle 26 = .ok (.aload_n 0, 1) := by decide +kernel
theorem dX3_settle_27 : decode cX3_settle 27 = .ok (.getfield 37, 3) := by decide +kernel
theorem dX3_settle_30 : decode cX3_settle 30 = .ok (.iload_n 1, 1) := by decide +kernel
theorem dX3_settle_31 : decode cX3_settle 31 = .ok (.iconst 0, 1) := by decide +kernel
theorem dX3_settle_32 : decode cX3_settle 32 = .ok (.invokestatic 110, 3) := by decide +kernel
theorem dX3_settle_35 : decode cX3_settle 35 = .ok (.aload_n 0, 1) := by decide +kernel
theorem dX3_settle_36 : decode cX3_settle 36 = .ok (.getfield 40, 3) := by decide +kernel
theorem dX3_settle_39 : decode cX3_settle 39 = .ok (.iload_n 1, 1) := by decide +kernel
theorem dX3_settle_40 : decode cX3_settle 40 = .ok (.bipush 9, 2) := by decide +kernel
theorem dX3_settle_42 : decode cX3_settle 42 = .ok (.invokestatic 110, 3) := by decide +kernel
theorem dX3_settle_45 : decode cX3_settle 45 = .ok (.aload_n 0, 1) := by decide +kernel
theorem dX3_settle_46 : decode cX3_settle 46 = .ok (.getfield 43, 3) := by decide +kernel
theorem dX3_settle_49 : decode cX3_settle 49 = .ok (.iload_n 1, 1) := by decide +kernel
theorem dX3_settle_50 : decode cX3_settle 50 = .ok (.iconst (-1), 1) := by decide +kernel
theorem dX3_settle_51 : decode cX3_settle 51 = .ok (.invokestatic 110, 3) := by decide +kernel
theorem dX3_settle_54 : decode cX3_settle 54 = .ok (.aload_n 0, 1) := by decide +kernel
theorem dX3_settle_55 : decode cX3_settle 55 = .ok (.getfield 46, 3) := by decide +kernel
theorem dX3_settle_58 : decode cX3_settle 58 = .ok (.iload_n 1, 1) := by decide +kernel
theorem dX3_settle_59 : decode cX3_settle 59 = .ok (.iload_n 1, 1) := by decide +kernel
theorem dX3_settle_60 : decode cX3_settle 60 = .ok (.invokestatic 110, 3) := by decide +kernel
theorem dX3_settle_63 : decode cX3_settle 63 = .ok (.aload_n 0, 1) := by decide +kernel
theorem dX3_settle_64 : decode cX3_settle 64 = .ok (.getfield 49, 3) := by decide +kernel
theorem dX3_settle_67 : decode cX3_settle 67 = .ok (.iload_n 1, 1) := by decide +kernel
theorem dX3_settle_68 : decode cX3_settle 68 = .ok (.aload_n 0, 1) := by decide +kernel
theorem dX3_settle_69 : decode cX3_settle 69 = .ok (.getfield 15, 3) := by decide +kernel
theorem dX3_settle_72 : decode cX3_settle 72 = .ok (.invokestatic 114, 3) := by decide +kernel
theorem dX3_settle_75 : decode cX3_settle 75 = .ok (.invokestatic 110, 3) := by decide +kernel
theorem dX3_settle_78 : decode cX3_settle 78 = .ok (.iinc 1 1, 3) := by decide +kernel
theorem dX3_settle_81 : decode cX3_settle 81 = .ok (.goto (-61), 3) := by decide +kernel
theorem dX3_settle_84 : decode cX3_settle 84 = .ok (.aload_n 0, 1) := by decide +kernel
theorem dX3_settle_85 : decode cX3_settle 85 = .ok (.iconst 0, 1) := by decide +kernel
theorem dX3_settle_86 : decode cX3_settle 86 = .ok (.putfield 52, 3) := by decide +kernel
theorem dX3_settle_89 : decode cX3_settle 89 = .ok (.aload_n 0, 1) := by decide +kernel
theorem dX3_settle_90 : decode cX3_settle 90 = .ok (.iconst 0, 1) := by decide +kernel
theorem dX3_settle_91 : decode cX3_settle 91 = .ok (.putfield 55, 3) := by decide +kernel
theorem dX3_settle_94 : decode cX3_settle 94 = .ok (.return_, 1) := by decide +kernel
theorem dX3_hasYard_0 : decode cX3_hasYard 0 = .ok (.iload_n 1, 1) := by decide +kernel
theorem dX3_hasYard_1 : decode cX3_hasYard 1 = .ok (.ifCond .lt 15, 3) := by decide +kernel
theorem dX3_hasYard_4 : decode cX3_hasYard 4 = .ok (.iload_n 1, 1) := by decide +kernel
theorem dX3_hasYard_5 : decode cX3_hasYard 5 = .ok (.aload_n 0, 1) := by decide +kernel
theorem dX3_hasYard_6 : decode cX3_hasYard 6 = .ok (.getfield 9, 3) := by decide +kernel
theorem dX3_hasYard_9 : decode cX3_hasYard 9 = .ok (.if_icmp .ge 7, 3) := by decide +kernel
theorem dX3_hasYard_12 : decode cX3_hasYard 12 = .ok (.iconst 1, 1) := by decide +kernel
theorem dX3_hasYard_13 : decode cX3_hasYard 13 = .ok (.goto 4, 3) := by decide +kernel
theorem dX3_hasYard_16 : decode cX3_hasYard 16 = .ok (.iconst 0, 1) := by decide +kernel
theorem dX3_hasYard_17 : decode cX3_hasYard 17 = .ok (.ireturn, 1) := by decide +kernel
theorem dX3_hasDead_0 : decode cX3_hasDead 0 = .ok (.iload_n 1, 1) := by decide +kernel
theorem dX3_hasDead_1 : decode cX3_hasDead 1 = .ok (.ifCond .lt 15, 3) := by decide +kernel
theorem dX3_hasDead_4 : decode cX3_hasDead 4 = .ok (.iload_n 1, 1) := by decide +kernel
theorem dX3_hasDead_5 : decode cX3_hasDead 5 = .ok (.aload_n 0, 1) := by decide +kernel
theorem dX3_hasDead_6 : decode cX3_hasDead 6 = .ok (.getfield 15, 3) := by decide +kernel
theorem dX3_hasDead_9 : decode cX3_hasDead 9 = .ok (.if_icmp .ge 7, 3) := by decide +kernel
theorem dX3_hasDead_12 : decode cX3_hasDead 12 = .ok (.iconst 1, 1) := by decide +kernel
theorem dX3_hasDead_13 : decode cX3_hasDead 13 = .ok (.goto 4, 3) := by decide +kernel
theorem dX3_hasDead_16 : decode cX3_hasDead 16 = .ok (.iconst 0, 1) := by decide +kernel
theorem dX3_hasDead_17 : decode cX3_hasDead 17 = .ok (.ireturn, 1) := by decide +kernel
theorem dX3_laid_0 : decode cX3_laid 0 = .ok (.iconst 0, 1) := by decide +kernel
theorem dX3_laid_1 : decode cX3_laid 1 = .ok (.istore_n 1, 1) := by decide +kernel
theorem dX3_laid_2 : decode cX3_laid 2 = .ok (.iconst 0, 1) := by decide +kernel
theorem dX3_laid_3 : decode cX3_laid 3 = .ok (.istore_n 2, 1) := by decide +kernel
theorem dX3_laid_4 : decode cX3_laid 4 = .ok (.iload_n 2, 1) := by decide +kernel
theorem dX3_laid_5 : decode cX3_laid 5 = .ok (.aload_n 0, 1) := by decide +kernel
theorem dX3_laid_6 : decode cX3_laid 6 = .ok (.getfield 15, 3) := by decide +kernel
theorem dX3_laid_9 : decode cX3_laid 9 = .ok (.if_icmp .ge 28, 3) := by decide +kernel
theorem dX3_laid_12 : decode cX3_laid 12 = .ok (.aload_n 0, 1) := by decide +kernel
theorem dX3_laid_13 : decode cX3_laid 13 = .ok (.getfield 43, 3) := by decide +kernel
theorem dX3_laid_16 : decode cX3_laid 16 = .ok (.iload_n 2, 1) := by decide +kernel
theorem dX3_laid_17 : decode cX3_laid 17 = .ok (.invokestatic 118, 3) := by decide +kernel
theorem dX3_laid_20 : decode cX3_laid 20 = .ok (.iconst (-1), 1) := by decide +kernel
theorem dX3_laid_21 : decode cX3_laid 21 = .ok (.if_icmp .eq 10, 3) := by decide +kernel
theorem dX3_laid_24 : decode cX3_laid 24 = .ok (.iload_n 1, 1) := by decide +kernel
theorem dX3_laid_25 : decode cX3_laid 25 = .ok (.iload_n 2, 1) := by decide +kernel
theorem dX3_laid_26 : decode cX3_laid 26 = .ok (.invokestatic 122, 3) := by decide +kernel
theorem dX3_laid_29 : decode cX3_laid 29 = .ok (.ior, 1) := by decide +kernel
theorem dX3_laid_30 : decode cX3_laid 30 = .ok (.istore_n 1, 1) := by decide +kernel
theorem dX3_laid_31 : decode cX3_laid 31 = .ok (.iinc 2 1, 3) := by decide +kernel
theorem dX3_laid_34 : decode cX3_laid 34 = .ok (.goto (-30), 3) := by decide +kernel
theorem dX3_laid_37 : decode cX3_laid 37 = .ok (.iload_n 1, 1) := by decide +kernel
theorem dX3_laid_38 : decode cX3_laid 38 = .ok (.ireturn, 1) := by decide +kernel
theorem dX3_waiting_0 : decode cX3_waiting 0 = .ok (.aload_n 0, 1) := by decide +kernel
theorem dX3_waiting_1 : decode cX3_waiting 1 = .ok (.getfield 15, 3) := by decide +kernel
theorem dX3_waiting_4 : decode cX3_waiting 4 = .ok (.invokestatic 114, 3) := by decide +kernel
theorem dX3_waiting_7 : decode cX3_waiting 7 = .ok (.aload_n 0, 1) := by decide +kernel
theorem dX3_waiting_8 : decode cX3_waiting 8 = .ok (.invokevirtual 125, 3) := by decide +kernel
theorem dX3_waiting_11 : decode cX3_waiting 11 = .ok (.iconst (-1), 1) := by decide +kernel
theorem dX3_waiting_12 : decode cX3_waiting 12 = .ok (.ixor, 1) := by decide +kernel
theorem dX3_waiting_13 : decode cX3_waiting 13 = .ok (.iand, 1) := by decide +kernel
theorem dX3_waiting_14 : decode cX3_waiting 14 = .ok (.aload_n 0, 1) := by decide +kernel
theorem dX3_waiting_15 : decode cX3_waiting 15 = .ok (.getfield 52, 3) := by decide +kernel
theorem dX3_waiting_18 : decode cX3_waiting 18 = .ok (.iconst (-1), 1) := by decide +kernel
theorem dX3_waiting_19 : decode cX3_waiting 19 = .ok (.ixor, 1) := by decide +kernel
theorem dX3_waiting_20 : decode cX3_waiting 20 = .ok (.iand, 1) := by decide +kernel
theorem dX3_waiting_21 : decode cX3_waiting 21 = .ok (.ireturn, 1) := by decide +kernel
theorem dX3_whoLiesIn_0 : decode cX3_whoLiesIn 0 = .ok (.iconst 0, 1) := by decide +kernel
theorem dX3_whoLiesIn_1 : decode cX3_whoLiesIn 1 = .ok (.istore_n 2, 1) := by decide +kernel
theorem dX3_whoLiesIn_2 : decode cX3_whoLiesIn 2 = .ok (.iload_n 2, 1) := by decide +kernel
theorem dX3_whoLiesIn_3 : decode cX3_whoLiesIn 3 = .ok (.aload_n 0, 1) := by decide +kernel
theorem dX3_whoLiesIn_4 : decode cX3_whoLiesIn 4 = .ok (.getfield 15, 3) := by decide +kernel
theorem dX3_whoLiesIn_7 : decode cX3_whoLiesIn 7 = .ok (.if_icmp .ge 23, 3) := by decide +kernel
theorem dX3_whoLiesIn_10 : decode cX3_whoLiesIn 10 = .ok (.aload_n 0, 1) := by decide +kernel
theorem dX3_whoLiesIn_11 : decode cX3_whoLiesIn 11 = .ok (.getfield 43, 3) := by decide +kernel
theorem dX3_whoLiesIn_14 : decode cX3_whoLiesIn 14 = .ok (.iload_n 2, 1) := by decide +kernel
theorem dX3_whoLiesIn_15 : decode cX3_whoLiesIn 15 = .ok (.invokestatic 118, 3) := by decide +kernel
theorem dX3_whoLiesIn_18 : decode cX3_whoLiesIn 18 = .ok (.iload_n 1, 1) := by decide +kernel
theorem dX3_whoLiesIn_19 : decode cX3_whoLiesIn 19 = .ok (.if_icmp .ne 5, 3) := by decide +kernel
theorem dX3_whoLiesIn_22 : decode cX3_whoLiesIn 22 = .ok (.iload_n 2, 1) := by decide +kernel
theorem dX3_whoLiesIn_23 : decode cX3_whoLiesIn 23 = .ok (.ireturn, 1) := by decide +kernel
theorem dX3_whoLiesIn_24 : decode cX3_whoLiesIn 24 = .ok (.iinc 2 1, 3) := by decide +kernel
theorem dX3_whoLiesIn_27 : decode cX3_whoLiesIn 27 = .ok (.goto (-25), 3) := by decide +kernel
theorem dX3_whoLiesIn_30 : decode cX3_whoLiesIn 30 = .ok (.iconst (-1), 1) := by decide +kernel
theorem dX3_whoLiesIn_31 : decode cX3_whoLiesIn 31 = .ok (.ireturn, 1) := by decide +kernel
theorem dX3_taken_0 : decode cX3_taken 0 = .ok (.iconst 0, 1) := by decide +kernel
theorem dX3_taken_1 : decode cX3_taken 1 = .ok (.istore_n 1, 1) := by decide +kernel
theorem dX3_taken_2 : decode cX3_taken 2 = .ok (.iconst 0, 1) := by decide +kernel
theorem dX3_taken_3 : decode cX3_taken 3 = .ok (.istore_n 2, 1) := by decide +kernel
theorem dX3_taken_4 : decode cX3_taken 4 = .ok (.iload_n 2, 1) := by decide +kernel
theorem dX3_taken_5 : decode cX3_taken 5 = .ok (.aload_n 0, 1) := by decide +kernel
theorem dX3_taken_6 : decode cX3_taken 6 = .ok (.getfield 15, 3) := by decide +kernel
theorem dX3_taken_9 : decode cX3_taken 9 = .ok (.if_icmp .ge 23, 3) := by decide +kernel
theorem dX3_taken_12 : decode cX3_taken 12 = .ok (.iload_n 1, 1) := by decide +kernel
theorem dX3_taken_13 : decode cX3_taken 13 = .ok (.aload_n 0, 1) := by decide +kernel
theorem dX3_taken_14 : decode cX3_taken 14 = .ok (.getfield 43, 3) := by decide +kernel
theorem dX3_taken_17 : decode cX3_taken 17 = .ok (.iload_n 2, 1) := by decide +kernel
theorem dX3_taken_18 : decode cX3_taken 18 = .ok (.invokestatic 118, 3) := by decide +kernel
theorem dX3_taken_21 : decode cX3_taken 21 = .ok (.invokestatic 122, 3) := by decide +kernel
theorem dX3_taken_24 : decode cX3_taken 24 = .ok (.ior, 1) := by decide +kernel
theorem dX3_taken_25 : decode cX3_taken 25 = .ok (.istore_n 1, 1) := by decide +kernel
theorem dX3_taken_26 : decode cX3_taken 26 = .ok (.iinc 2 1, 3) := by decide +kernel
theorem dX3_taken_29 : decode cX3_taken 29 = .ok (.goto (-25), 3) := by decide +kernel
theorem dX3_taken_32 : decode cX3_taken 32 = .ok (.iload_n 1, 1) := by decide +kernel
theorem dX3_taken_33 : decode cX3_taken 33 = .ok (.ireturn, 1) := by decide +kernel
theorem dX3_soft_0 : decode cX3_soft 0 = .ok (.iconst 0, 1) := by decide +kernel
theorem dX3_soft_1 : decode cX3_soft 1 = .ok (.istore_n 1, 1) := by decide +kernel
theorem dX3_soft_2 : decode cX3_soft 2 = .ok (.iconst 0, 1) := by decide +kernel
theorem dX3_soft_3 : decode cX3_soft 3 = .ok (.istore_n 2, 1) := by decide +kernel
theorem dX3_soft_4 : decode cX3_soft 4 = .ok (.iload_n 2, 1) := by decide +kernel
theorem dX3_soft_5 : decode cX3_soft 5 = .ok (.aload_n 0, 1) := by decide +kernel
theorem dX3_soft_6 : decode cX3_soft 6 = .ok (.getfield 9, 3) := by decide +kernel
theorem dX3_soft_9 : decode cX3_soft 9 = .ok (.if_icmp .ge 27, 3) := by decide +kernel
theorem dX3_soft_12 : decode cX3_soft 12 = .ok (.aload_n 0, 1) := by decide +kernel
theorem dX3_soft_13 : decode cX3_soft 13 = .ok (.getfield 24, 3) := by decide +kernel
theorem dX3_soft_16 : decode cX3_soft 16 = .ok (.iload_n 2, 1) := by decide +kernel
theorem dX3_soft_17 : decode cX3_soft 17 = .ok (.invokestatic 118, 3) := by decide +kernel
theorem dX3_soft_20 : decode cX3_soft 20 = .ok (.ifCond .ne 10, 3) := by decide +kernel
theorem dX3_soft_23 : decode cX3_soft 23 = .ok (.iload_n 1, 1) := by decide +kernel
theorem dX3_soft_24 : decode cX3_soft 24 = .ok (.iload_n 2, 1) := by decide +kernel
theorem dX3_soft_25 : decode cX3_soft 25 = .ok (.invokestatic 122, 3) := by decide +kernel
theorem dX3_soft_28 : decode cX3_soft 28 = .ok (.ior, 1) := by decide +kernel
theorem dX3_soft_29 : decode cX3_soft 29 = .ok (.istore_n 1, 1) := by decide +kernel
theorem dX3_soft_30 : decode cX3_soft 30 = .ok (.iinc 2 1, 3) := by decide +kernel
theorem dX3_soft_33 : decode cX3_soft 33 = .ok (.goto (-29), 3) := by decide +kernel
theorem dX3_soft_36 : decode cX3_soft 36 = .ok (.iload_n 1, 1) := by decide +kernel
theorem dX3_soft_37 : decode cX3_soft 37 = .ok (.ireturn, 1) := by decide +kernel
theorem dX3_softAndFree_0 : decode cX3_softAndFree 0 = .ok (.aload_n 0, 1) := by decide +kernel
theorem dX3_softAndFree_1 : decode cX3_softAndFree 1 = .ok (.invokevirtual 129, 3) := by decide +kernel
theorem dX3_softAndFree_4 : decode cX3_softAndFree 4 = .ok (.aload_n 0, 1) := by decide +kernel
theorem dX3_softAndFree_5 : decode cX3_softAndFree 5 = .ok (.invokevirtual 132, 3) := by decide +kernel
theorem dX3_softAndFree_8 : decode cX3_softAndFree 8 = .ok (.iconst (-1), 1) := by decide +kernel
theorem dX3_softAndFree_9 : decode cX3_softAndFree 9 = .ok (.ixor, 1) := by decide +kernel
theorem dX3_softAndFree_10 : decode cX3_softAndFree 10 = .ok (.iand, 1) := by decide +kernel
theorem dX3_softAndFree_11 : decode cX3_softAndFree 11 = .ok (.ireturn, 1) := by decide +kernel
theorem dX3_boardless_0 : decode cX3_boardless 0 = .ok (.iconst 0, 1) := by decide +kernel
theorem dX3_boardless_1 : decode cX3_boardless 1 = .ok (.istore_n 1, 1) := by decide +kernel
theorem dX3_boardless_2 : decode cX3_boardless 2 = .ok (.iconst 0, 1) := by decide +kernel
theorem dX3_boardless_3 : decode cX3_boardless 3 = .ok (.istore_n 2, 1) := by decide +kernel
theorem dX3_boardless_4 : decode cX3_boardless 4 = .ok (.iload_n 2, 1) := by decide +kernel
theorem dX3_boardless_5 : decode cX3_boardless 5 = .ok (.aload_n 0, 1) := by decide +kernel
theorem dX3_boardless_6 : decode cX3_boardless 6 = .ok (.getfield 15, 3) := by decide +kernel
theorem dX3_boardless_9 : decode cX3_boardless 9 = .ok (.if_icmp .ge 27, 3) := by decide +kernel
theorem dX3_boardless_12 : decode cX3_boardless 12 = .ok (.aload_n 0, 1) := by decide +kernel
theorem dX3_boardless_13 : decode cX3_boardless 13 = .ok (.getfield 40, 3) := by decide +kernel
theorem dX3_boardless_16 : decode cX3_boardless 16 = .ok (.iload_n 2, 1) := by decide +kernel
theorem dX3_boardless_17 : decode cX3_boardless 17 = .ok (.invokestatic 118, 3) := by decide +kernel
theorem dX3_boardless_20 : decode cX3_boardless 20 = .ok (.ifCond .ne 10, 3) := by decide +kernel
theorem dX3_boardless_23 : decode cX3_boardless 23 = .ok (.iload_n 1, 1) := by decide +kernel
theorem dX3_boardless_24 : decode cX3_boardless 24 = .ok (.iload_n 2, 1) := by decide +kernel
theorem dX3_boardless_25 : decode cX3_boardless 25 = .ok (.invokestatic 122, 3) := by decide +kernel
theorem dX3_boardless_28 : decode cX3_boardless 28 = .ok (.ior, 1) := by decide +kernel
theorem dX3_boardless_29 : decode cX3_boardless 29 = .ok (.istore_n 1, 1) := by decide +kernel
theorem dX3_boardless_30 : decode cX3_boardless 30 = .ok (.iinc 2 1, 3) := by decide +kernel
theorem dX3_boardless_33 : decode cX3_boardless 33 = .ok (.goto (-29), 3) := by decide +kernel
theorem dX3_boardless_36 : decode cX3_boardless 36 = .ok (.iload_n 1, 1) := by decide +kernel
theorem dX3_boardless_37 : decode cX3_boardless 37 = .ok (.aload_n 0, 1) := by decide +kernel
theorem dX3_boardless_38 : decode cX3_boardless 38 = .ok (.invokevirtual 135, 3) := by decide +kernel
theorem dX3_boardless_41 : decode cX3_boardless 41 = .ok (.iand, 1) := by decide +kernel
theorem dX3_boardless_42 : decode cX3_boardless 42 = .ok (.ireturn, 1) := by decide +kernel
theorem dX3_ranksOf_0 : decode cX3_ranksOf 0 = .ok (.iconst 0, 1) := by decide +kernel
theorem dX3_ranksOf_1 : decode cX3_ranksOf 1 = .ok (.istore_n 2, 1) := by decide +kernel
theorem dX3_ranksOf_2 : decode cX3_ranksOf 2 = .ok (.iconst 0, 1) := by decide +kernel
theorem dX3_ranksOf_3 : decode cX3_ranksOf 3 = .ok (.istore_n 3, 1) := by decide +kernel
theorem dX3_ranksOf_4 : decode cX3_ranksOf 4 = .ok (.iload_n 3, 1) := by decide +kernel
theorem dX3_ranksOf_5 : decode cX3_ranksOf 5 = .ok (.aload_n 0, 1) := by decide +kernel
theorem dX3_ranksOf_6 : decode cX3_ranksOf 6 = .ok (.getfield 15, 3) := by decide +kernel
theorem dX3_ranksOf_9 : decode cX3_ranksOf 9 = .ok (.if_icmp .ge 28, 3) := by decide +kernel
theorem dX3_ranksOf_12 : decode cX3_ranksOf 12 = .ok (.iload_n 1, 1) := by decide +kernel
theorem dX3_ranksOf_13 : decode cX3_ranksOf 13 = .ok (.iload_n 3, 1) := by decide +kernel
theorem dX3_ranksOf_14 : decode cX3_ranksOf 14 = .ok (.invokestatic 138, 3) := by decide +kernel
theorem dX3_ranksOf_17 : decode cX3_ranksOf 17 = .ok (.ifCond .eq 14, 3) := by decide +kernel
theorem dX3_ranksOf_20 : decode cX3_ranksOf 20 = .ok (.iload_n 2, 1) := by decide +kernel
theorem dX3_ranksOf_21 : decode cX3_ranksOf 21 = .ok (.aload_n 0, 1) := by decide +kernel
theorem dX3_ranksOf_22 : decode cX3_ranksOf 22 = .ok (.getfield 28, 3) := by decide +kernel
theorem dX3_ranksOf_25 : decode cX3_ranksOf 25 = .ok (.iload_n 3, 1) := by decide +kernel
theorem dX3_ranksOf_26 : decode cX3_ranksOf 26 = .ok (.invokestatic 118, 3) := by decide +kernel
theorem dX3_ranksOf_29 : decode cX3_ranksOf 29 = .ok (.iadd, 1) := by decide +kernel
theorem dX3_ranksOf_30 : decode cX3_ranksOf 30 = .ok (.istore_n 2, 1) := by decide +kernel
theorem dX3_ranksOf_31 : decode cX3_ranksOf 31 = .ok (.iinc 3 1, 3) := by decide +kernel
theorem dX3_ranksOf_34 : decode cX3_ranksOf 34 = .ok (.goto (-30), 3) := by decide +kernel
theorem dX3_ranksOf_37 : decode cX3_ranksOf 37 = .ok (.iload_n 2, 1) := by decide +kernel
theorem dX3_ranksOf_38 : decode cX3_ranksOf 38 = .ok (.ireturn, 1) := by decide +kernel
theorem dX3_worth_0 : decode cX3_worth 0 = .ok (.iload_n 1, 1) := by decide +kernel
theorem dX3_worth_1 : decode cX3_worth 1 = .ok (.tableswitch 70 0 3 #[31, 40, 49, 58], 31) := by decide +kernel
theorem dX3_worth_32 : decode cX3_worth 32 = .ok (.aload_n 0, 1) := by decide +kernel
theorem dX3_worth_33 : decode cX3_worth 33 = .ok (.getfield 28, 3) := by decide +kernel
theorem dX3_worth_36 : decode cX3_worth 36 = .ok (.iload_n 2, 1) := by decide +kernel
theorem dX3_worth_37 : decode cX3_worth 37 = .ok (.invokestatic 118, 3) := by decide +kernel
theorem dX3_worth_40 : decode cX3_worth 40 = .ok (.ireturn, 1) := by decide +kernel
theorem dX3_worth_41 : decode cX3_worth 41 = .ok (.aload_n 0, 1) := by decide +kernel
theorem dX3_worth_42 : decode cX3_worth 42 = .ok (.getfield 31, 3) := by decide +kernel
theorem dX3_worth_45 : decode cX3_worth 45 = .ok (.iload_n 2, 1) := by decide +kernel
theorem dX3_worth_46 : decode cX3_worth 46 = .ok (.invokestatic 118, 3) := by decide +kernel
theorem dX3_worth_49 : decode cX3_worth 49 = .ok (.ireturn, 1) := by decide +kernel
theorem dX3_worth_50 : decode cX3_worth 50 = .ok (.aload_n 0, 1) := by decide +kernel
theorem dX3_worth_51 : decode cX3_worth 51 = .ok (.getfield 37, 3) := by decide +kernel
theorem dX3_worth_54 : decode cX3_worth 54 = .ok (.iload_n 2, 1) := by decide +kernel
theorem dX3_worth_55 : decode cX3_worth 55 = .ok (.invokestatic 118, 3) := by decide +kernel
theorem dX3_worth_58 : decode cX3_worth 58 = .ok (.ireturn, 1) := by decide +kernel
theorem dX3_worth_59 : decode cX3_worth 59 = .ok (.bipush 9, 2) := by decide +kernel
theorem dX3_worth_61 : decode cX3_worth 61 = .ok (.aload_n 0, 1) := by decide +kernel
theorem dX3_worth_62 : decode cX3_worth 62 = .ok (.getfield 34, 3) := by decide +kernel
theorem dX3_worth_65 : decode cX3_worth 65 = .ok (.iload_n 2, 1) := by decide +kernel
theorem dX3_worth_66 : decode cX3_worth 66 = .ok (.invokestatic 118, 3) := by decide +kernel
theorem dX3_worth_69 : decode cX3_worth 69 = .ok (.isub, 1) := by decide +kernel
theorem dX3_worth_70 : decode cX3_worth 70 = .ok (.ireturn, 1) := by decide +kernel
theorem dX3_worth_71 : decode cX3_worth 71 = .ok (.iconst 0, 1) := by decide +kernel
theorem dX3_worth_72 : decode cX3_worth 72 = .ok (.ireturn, 1) := by decide +kernel
theorem dX3_claim_0 : decode cX3_claim 0 = .ok (.lconst 0, 1) := by decide +kernel
theorem dX3_claim_1 : decode cX3_claim 1 = .ok (.lstore_n 3, 1) := by decide +kernel
theorem dX3_claim_2 : decode cX3_claim 2 = .ok (.iconst 0, 1) := by decide +kernel
theorem dX3_claim_3 : decode cX3_claim 3 = .ok (.istore 5, 2) := by decide +kernel
theorem dX3_claim_5 : decode cX3_claim 5 = .ok (.iload 5, 2) := by decide +kernel
theorem dX3_claim_7 : decode cX3_claim 7 = .ok (.aload_n 1, 1) := by decide +kernel
theorem dX3_claim_8 : decode cX3_claim 8 = .ok (.getfield 142, 3) := by decide +kernel
theorem dX3_claim_11 : decode cX3_claim 11 = .ok (.if_icmp .ge 31, 3) := by decide +kernel
