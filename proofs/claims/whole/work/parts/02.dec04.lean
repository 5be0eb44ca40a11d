theorem dX6_mark_32 : decode cX6_mark 32 = .ok (.getfield 29, 3) := by decide +kernel
theorem dX6_mark_35 : decode cX6_mark 35 = .ok (.getfield 181, 3) := by decide +kernel
theorem dX6_mark_38 : decode cX6_mark 38 = .ok (.iload_n 1, 1) := by decide +kernel
theorem dX6_mark_39 : decode cX6_mark 39 = .ok (.invokestatic 142, 3) := by decide +kernel
theorem dX6_mark_42 : decode cX6_mark 42 = .ok (.istore_n 3, 1) := by decide +kernel
theorem dX6_mark_43 : decode cX6_mark 43 = .ok (.aload_n 0, 1) := by decide +kernel
theorem dX6_mark_44 : decode cX6_mark 44 = .ok (.getfield 29, 3) := by decide +kernel
theorem dX6_mark_47 : decode cX6_mark 47 = .ok (.getfield 181, 3) := by decide +kernel
theorem dX6_mark_50 : decode cX6_mark 50 = .ok (.iload_n 1, 1) := by decide +kernel
theorem dX6_mark_51 : decode cX6_mark 51 = .ok (.iload_n 2, 1) := by decide +kernel
theorem dX6_mark_52 : decode cX6_mark 52 = .ok (.invokestatic 188, 3) := by decide +kernel
theorem dX6_mark_55 : decode cX6_mark 55 = .ok (.iload_n 3, 1) := by decide +kernel
theorem dX6_mark_56 : decode cX6_mark 56 = .ok (.ireturn, 1) := by decide +kernel
theorem dX6_fits_0 : decode cX6_fits 0 = .ok (.aload_n 0, 1) := by decide +kernel
theorem dX6_fits_1 : decode cX6_fits 1 = .ok (.getfield 66, 3) := by decide +kernel
theorem dX6_fits_4 : decode cX6_fits 4 = .ok (.aload_n 0, 1) := by decide +kernel
theorem dX6_fits_5 : decode cX6_fits 5 = .ok (.getfield 29, 3) := by decide +kernel
theorem dX6_fits_8 : decode cX6_fits 8 = .ok (.invokevirtual 273, 3) := by decide +kernel
theorem dX6_fits_11 : decode cX6_fits 11 = .ok (.ireturn, 1) := by decide +kernel
theorem dX6_mixed_0 : decode cX6_mixed 0 = .ok (.iload_n 1, 1) := by decide +kernel
theorem dX6_mixed_1 : decode cX6_mixed 1 = .ok (.iconst (-1), 1) := by decide +kernel
theorem dX6_mixed_2 : decode cX6_mixed 2 = .ok (.if_icmp .eq 17, 3) := by decide +kernel
theorem dX6_mixed_5 : decode cX6_mixed 5 = .ok (.aload_n 0, 1) := by decide +kernel
theorem dX6_mixed_6 : decode cX6_mixed 6 = .ok (.getfield 29, 3) := by decide +kernel
theorem dX6_mixed_9 : decode cX6_mixed 9 = .ok (.iload_n 1, 1) := by decide +kernel
theorem dX6_mixed_10 : decode cX6_mixed 10 = .ok (.invokevirtual 150, 3) := by decide +kernel
theorem dX6_mixed_13 : decode cX6_mixed 13 = .ok (.ifCond .ne 6, 3) := by decide +kernel
theorem dX6_mixed_16 : decode cX6_mixed 16 = .ok (.ldc 137, 2) := by decide +kernel
theorem dX6_mixed_18 : decode cX6_mixed 18 = .ok (.ireturn, 1) := by decide +kernel
theorem dX6_mixed_19 : decode cX6_mixed 19 = .ok (.aload_n 0, 1) := by decide +kernel
theorem dX6_mixed_20 : decode cX6_mixed 20 = .ok (.getfield 66, 3) := by decide +kernel
theorem dX6_mixed_23 : decode cX6_mixed 23 = .ok (.aload_n 0, 1) := by decide +kernel
theorem dX6_mixed_24 : decode cX6_mixed 24 = .ok (.getfield 29, 3) := by decide +kernel
theorem dX6_mixed_27 : decode cX6_mixed 27 = .ok (.invokevirtual 277, 3) := by decide +kernel
theorem dX6_mixed_30 : decode cX6_mixed 30 = .ok (.aload_n 0, 1) := by decide +kernel
theorem dX6_mixed_31 : decode cX6_mixed 31 = .ok (.getfield 66, 3) := by decide +kernel
theorem dX6_mixed_34 : decode cX6_mixed 34 = .ok (.invokevirtual 280, 3) := by decide +kernel
theorem dX6_mixed_37 : decode cX6_mixed 37 = .ok (.bipush 99, 2) := by decide +kernel
theorem dX6_mixed_39 : decode cX6_mixed 39 = .ok (.if_icmp .lt 5, 3) := by decide +kernel
theorem dX6_mixed_42 : decode cX6_mixed 42 = .ok (.iconst (-1), 1) := by decide +kernel
theorem dX6_mixed_43 : decode cX6_mixed 43 = .ok (.ireturn, 1) := by decide +kernel
theorem dX6_mixed_44 : decode cX6_mixed 44 = .ok (.iload_n 1, 1) := by decide +kernel
theorem dX6_mixed_45 : decode cX6_mixed 45 = .ok (.iconst (-1), 1) := by decide +kernel
theorem dX6_mixed_46 : decode cX6_mixed 46 = .ok (.if_icmp .ne 13, 3) := by decide +kernel
theorem dX6_mixed_49 : decode cX6_mixed 49 = .ok (.aload_n 0, 1) := by decide +kernel
theorem dX6_mixed_50 : decode cX6_mixed 50 = .ok (.getfield 66, 3) := by decide +kernel
theorem dX6_mixed_53 : decode cX6_mixed 53 = .ok (.invokevirtual 280, 3) := by decide +kernel
theorem dX6_mixed_56 : decode cX6_mixed 56 = .ok (.goto 15, 3) := by decide +kernel
theorem dX6_mixed_59 : decode cX6_mixed 59 = .ok (.aload_n 0, 1) := by decide +kernel
theorem dX6_mixed_60 : decode cX6_mixed 60 = .ok (.getfield 66, 3) := by decide +kernel
theorem dX6_mixed_63 : decode cX6_mixed 63 = .ok (.aload_n 0, 1) := by decide +kernel
theorem dX6_mixed_64 : decode cX6_mixed 64 = .ok (.getfield 29, 3) := by decide +kernel
theorem dX6_mixed_67 : decode cX6_mixed 67 = .ok (.iload_n 1, 1) := by decide +kernel
theorem dX6_mixed_68 : decode cX6_mixed 68 = .ok (.invokevirtual 283, 3) := by decide +kernel
theorem dX6_mixed_71 : decode cX6_mixed 71 = .ok (.ireturn, 1) := by decide +kernel
theorem dX6_churches_0 : decode cX6_churches 0 = .ok (.iload_n 1, 1) := by decide +kernel
theorem dX6_churches_1 : decode cX6_churches 1 = .ok (.ifCond .lt 8, 3) := by decide +kernel
theorem dX6_churches_4 : decode cX6_churches 4 = .ok (.iload_n 1, 1) := by decide +kernel
theorem dX6_churches_5 : decode cX6_churches 5 = .ok (.iconst 1, 1) := by decide +kernel
theorem dX6_churches_6 : decode cX6_churches 6 = .ok (.if_icmp .le 6, 3) := by decide +kernel
theorem dX6_churches_9 : decode cX6_churches 9 = .ok (.ldc 77, 2) := by decide +kernel
theorem dX6_churches_11 : decode cX6_churches 11 = .ok (.ireturn, 1) := by decide +kernel
theorem dX6_churches_12 : decode cX6_churches 12 = .ok (.aload_n 0, 1) := by decide +kernel
theorem dX6_churches_13 : decode cX6_churches 13 = .ok (.getfield 29, 3) := by decide +kernel
theorem dX6_churches_16 : decode cX6_churches 16 = .ok (.invokevirtual 123, 3) := by decide +kernel
theorem dX6_churches_19 : decode cX6_churches 19 = .ok (.istore_n 2, 1) := by decide +kernel
theorem dX6_churches_20 : decode cX6_churches 20 = .ok (.iconst 0, 1) := by decide +kernel
theorem dX6_churches_21 : decode cX6_churches 21 = .ok (.istore_n 3, 1) := by decide +kernel
theorem dX6_churches_22 : decode cX6_churches 22 = .ok (.aload_n 0, 1) := by decide +kernel
theorem dX6_churches_23 : decode cX6_churches 23 = .ok (.getfield 29, 3) := by decide +kernel
theorem dX6_churches_26 : decode cX6_churches 26 = .ok (.iload_n 2, 1) := by decide +kernel
theorem dX6_churches_27 : decode cX6_churches 27 = .ok (.invokevirtual 287, 3) := by decide +kernel
theorem dX6_churches_30 : decode cX6_churches 30 = .ok (.istore 4, 2) := by decide +kernel
theorem dX6_churches_32 : decode cX6_churches 32 = .ok (.iconst 1, 1) := by decide +kernel
theorem dX6_churches_33 : decode cX6_churches 33 = .ok (.istore 5, 2) := by decide +kernel
theorem dX6_churches_35 : decode cX6_churches 35 = .ok (.iload 5, 2) := by decide +kernel
theorem dX6_churches_37 : decode cX6_churches 37 = .ok (.bipush 7, 2) := by decide +kernel
theorem dX6_churches_39 : decode cX6_churches 39 = .ok (.invokestatic 199, 3) := by decide +kernel
theorem dX6_churches_42 : decode cX6_churches 42 = .ok (.if_icmp .ge 63, 3) := by decide +kernel
theorem dX6_churches_45 : decode cX6_churches 45 = .ok (.iload 5, 2) := by decide +kernel
theorem dX6_churches_47 : decode cX6_churches 47 = .ok (.iload_n 2, 1) := by decide +kernel
theorem dX6_churches_48 : decode cX6_churches 48 = .ok (.iconst (-1), 1) := by decide +kernel
theorem dX6_churches_49 : decode cX6_churches 49 = .ok (.ixor, 1) := by decide +kernel
theorem dX6_churches_50 : decode cX6_churches 50 = .ok (.iand, 1) := by decide +kernel
theorem dX6_churches_51 : decode cX6_churches 51 = .ok (.ifCond .eq 6, 3) := by decide +kernel
theorem dX6_churches_54 : decode cX6_churches 54 = .ok (.goto 45, 3) := by decide +kernel
theorem dX6_churches_57 : decode cX6_churches 57 = .ok (.aload_n 0, 1) := by decide +kernel
theorem dX6_churches_58 : decode cX6_churches 58 = .ok (.getfield 29, 3) := by decide +kernel
theorem dX6_churches_61 : decode cX6_churches 61 = .ok (.iload 5, 2) := by decide +kernel
theorem dX6_churches_63 : decode cX6_churches 63 = .ok (.invokevirtual 287, 3) := by decide +kernel
theorem dX6_churches_66 : decode cX6_churches 66 = .ok (.aload_n 0, 1) := by decide +kernel
theorem dX6_churches_67 : decode cX6_churches 67 = .ok (.getfield 29, 3) := by decide +kernel
theorem dX6_churches_70 : decode cX6_churches 70 = .ok (.iload_n 2, 1) := by decide +kernel
theorem dX6_churches_71 : decode cX6_churches 71 = .ok (.iload 5, 2) := by decide +kernel
theorem dX6_churches_73 : decode cX6_churches 73 = .ok (.iconst (-1), 1) := by decide +kernel
theorem dX6_churches_74 : decode cX6_churches 74 = .ok (.ixor, 1) := by decide +kernel
theorem dX6_churches_75 : decode cX6_churches 75 = .ok (.iand, 1) := by decide +kernel
theorem dX6_churches_76 : decode cX6_churches 76 = .ok (.invokevirtual 287, 3) := by decide +kernel
theorem dX6_churches_79 : decode cX6_churches 79 = .ok (.isub, 1) := by decide +kernel
theorem dX6_churches_80 : decode cX6_churches 80 = .ok (.invokestatic 290, 3) := by decide +kernel
theorem dX6_churches_83 : decode cX6_churches 83 = .ok (.istore 6, 2) := by decide +kernel
theorem dX6_churches_85 : decode cX6_churches 85 = .ok (.iload 6, 2) := by decide +kernel
theorem dX6_churches_87 : decode cX6_churches 87 = .ok (.iload 4, 2) := by decide +kernel
theorem dX6_churches_89 : decode cX6_churches 89 = .ok (.if_icmp .ge 10, 3) := by decide +kernel
theorem dX6_churches_92 : decode cX6_churches 92 = .ok (.iload 6, 2) := by decide +kernel
theorem dX6_churches_94 : decode cX6_churches 94 = .ok (.istore 4, 2) := by decide +kernel
theorem dX6_churches_96 : decode cX6_churches 96 = .ok (.iload 5, 2) := by decide +kernel
theorem dX6_churches_98 : decode cX6_churches 98 = .ok (.istore_n 3, 1) := by decide +kernel
theorem dX6_churches_99 : decode cX6_churches 99 = .ok (.iinc 5 1, 3) := by decide +kernel
theorem dX6_churches_102 : decode cX6_churches 102 = .ok (.goto (-67), 3) := by decide +kernel
theorem dX6_churches_105 : decode cX6_churches 105 = .ok (.iload_n 1, 1) := by decide +kernel
theorem dX6_churches_106 : decode cX6_churches 106 = .ok (.ifCond .ne 8, 3) := by decide +kernel
theorem dX6_churches_109 : decode cX6_churches 109 = .ok (.iload 4, 2) := by decide +kernel
theorem dX6_churches_111 : decode cX6_churches 111 = .ok (.goto 4, 3) := by decide +kernel
theorem dX6_churches_114 : decode cX6_churches 114 = .ok (.iload_n 3, 1) := by decide +kernel
theorem dX6_churches_115 : decode cX6_churches 115 = .ok (.ireturn, 1) := by decide +kernel
theorem dX6_write_0 : decode cX6_write 0 = .ok (.aload_n 0, 1) := by decide +kernel
theorem dX6_write_1 : decode cX6_write 1 = .ok (.getfield 29, 3) := by decide +kernel
theorem dX6_write_4 : decode cX6_write 4 = .ok (.iload_n 1, 1) := by decide +kernel
theorem dX6_write_5 : decode cX6_write 5 = .ok (.invokevirtual 150, 3) := by decide +kernel
theorem dX6_write_8 : decode cX6_write 8 = .ok (.ifCond .eq 14, 3) := by decide +kernel
theorem dX6_write_11 : decode cX6_write 11 = .ok (.aload_n 0, 1) := by decide +kernel
theorem dX6_write_12 : decode cX6_write 12 = .ok (.getfield 29, 3) := by decide +kernel
theorem dX6_write_15 : decode cX6_write 15 = .ok (.iload_n 2, 1) := by decide +kernel
theorem dX6_write_16 : decode cX6_write 16 = .ok (.invokevirtual 133, 3) := by decide +kernel
theorem dX6_write_19 : decode cX6_write 19 = .ok (.ifCond .ne 6, 3) := by decide +kernel
theorem dX6_write_22 : decode cX6_write 22 = .ok (.ldc 137, 2) := by decide +kernel
theorem dX6_write_24 : decode cX6_write 24 = .ok (.ireturn, 1) := by decide +kernel
theorem dX6_write_25 : decode cX6_write 25 = .ok (.aload_n 0, 1) := by decide +kernel
theorem dX6_write_26 : decode cX6_write 26 = .ok (.getfield 52, 3) := by decide +kernel
theorem dX6_write_29 : decode cX6_write 29 = .ok (.getfield 100, 3) := by decide +kernel
theorem dX6_write_32 : decode cX6_write 32 = .ok (.bipush 20, 2) := by decide +kernel
theorem dX6_write_34 : decode cX6_write 34 = .ok (.if_icmp .lt 6, 3) := by decide +kernel
theorem dX6_write_37 : decode cX6_write 37 = .ok (.ldc 82, 2) := by decide +kernel
theorem dX6_write_39 : decode cX6_write 39 = .ok (.ireturn, 1) := by decide +kernel
theorem dX6_write_40 : decode cX6_write 40 = .ok (.aload_n 0, 1) := by decide +kernel
theorem dX6_write_41 : decode cX6_write 41 = .ok (.getfield 52, 3) := by decide +kernel
theorem dX6_write_44 : decode cX6_write 44 = .ok (.iload_n 1, 1) := by decide +kernel
theorem dX6_write_45 : decode cX6_write 45 = .ok (.iload_n 2, 1) := by decide +kernel
theorem dX6_write_46 : decode cX6_write 46 = .ok (.invokevirtual 293, 3) := by decide +kernel
theorem dX6_write_49 : decode cX6_write 49 = .ok (.aload_n 0, 1) := by decide +kernel
theorem dX6_write_50 : decode cX6_write 50 = .ok (.getfield 52, 3) := by decide +kernel
theorem dX6_write_53 : decode cX6_write 53 = .ok (.getfield 100, 3) := by decide +kernel
theorem dX6_write_56 : decode cX6_write 56 = .ok (.ireturn, 1) := by decide +kernel
theorem dX6_tear_0 : decode cX6_tear 0 = .ok (.aload_n 0, 1) := by decide +kernel
theorem dX6_tear_1 : decode cX6_tear 1 = .ok (.getfield 52, 3) := by decide +kernel
theorem dX6_tear_4 : decode cX6_tear 4 = .ok (.getfield 100, 3) := by decide +kernel
theorem dX6_tear_7 : decode cX6_tear 7 = .ok (.istore_n 1, 1) := by decide +kernel
theorem dX6_tear_8 : decode cX6_tear 8 = .ok (.aload_n 0, 1) := by decide +kernel
theorem dX6_tear_9 : decode cX6_tear 9 = .ok (.getfield 52, 3) := by decide +kernel
theorem dX6_tear_12 : decode cX6_tear 12 = .ok (.iconst 0, 1) := by decide +kernel
theorem dX6_tear_13 : decode cX6_tear 13 = .ok (.putfield 100, 3) := by decide +kernel
theorem dX6_tear_16 : decode cX6_tear 16 = .ok (.iload_n 1, 1) := by decide +kernel
theorem dX6_tear_17 : decode cX6_tear 17 = .ok (.ireturn, 1) := by decide +kernel
theorem dX6_judge_0 : decode cX6_judge 0 = .ok (.aload_n 0, 1) := by decide +kernel
theorem dX6_judge_1 : decode cX6_judge 1 = .ok (.getfield 29, 3) := by decide +kernel
theorem dX6_judge_4 : decode cX6_judge 4 = .ok (.invokevirtual 123, 3) := by decide +kernel
theorem dX6_judge_7 : decode cX6_judge 7 = .ok (.istore_n 1, 1) := by decide +kernel
theorem dX6_judge_8 : decode cX6_judge 8 = .ok (.aload_n 0, 1) := by decide +kernel
theorem dX6_judge_9 : decode cX6_judge 9 = .ok (.getfield 29, 3) := by decide +kernel
theorem dX6_judge_12 : decode cX6_judge 12 = .ok (.invokevirtual 235, 3) := by decide +kernel
theorem dX6_judge_15 : decode cX6_judge 15 = .ok (.istore_n 2, 1) := by decide +kernel
theorem dX6_judge_16 : decode cX6_judge 16 = .ok (.iconst 0, 1) := by decide +kernel
theorem dX6_judge_17 : decode cX6_judge 17 = .ok (.istore_n 3, 1) := by decide +kernel
theorem dX6_judge_18 : decode cX6_judge 18 = .ok (.iload_n 3, 1) := by decide +kernel
theorem dX6_judge_19 : decode cX6_judge 19 = .ok (.aload_n 0, 1) := by decide +kernel
theorem dX6_judge_20 : decode cX6_judge 20 = .ok (.getfield 52, 3) := by decide +kernel
theorem dX6_judge_23 : decode cX6_judge 23 = .ok (.getfield 100, 3) := by decide +kernel
theorem dX6_judge_26 : decode cX6_judge 26 = .ok (.if_icmp .ge 92, 3) := by decide +kernel
theorem dX6_judge_29 : decode cX6_judge 29 = .ok (.aload_n 0, 1) := by decide +kernel
theorem dX6_judge_30 : decode cX6_judge 30 = .ok (.getfield 52, 3) := by decide +kernel
theorem dX6_judge_33 : decode cX6_judge 33 = .ok (.getfield 295, 3) := by decide +kernel
theorem dX6_judge_36 : decode cX6_judge 36 = .ok (.iload_n 3, 1) := by decide +kernel
theorem dX6_judge_37 : decode cX6_judge 37 = .ok (.invokestatic 142, 3) := by decide +kernel
theorem dX6_judge_40 : decode cX6_judge 40 = .ok (.istore 4, 2) := by decide +kernel
theorem dX6_judge_42 : decode cX6_judge 42 = .ok (.aload_n 0, 1) := by decide +kernel
theorem dX6_judge_43 : decode cX6_judge 43 = .ok (.getfield 52, 3) := by decide +kernel
theorem dX6_judge_46 : decode cX6_judge 46 = .ok (.getfield 298, 3) := by decide +kernel
theorem dX6_judge_49 : decode cX6_judge 49 = .ok (.iload_n 3, 1) := by decide +kernel
theorem dX6_judge_50 : decode cX6_judge 50 = .ok (.invokestatic 142, 3) := by decide +kernel
theorem dX6_judge_53 : decode cX6_judge 53 = .ok (.istore 5, 2) := by decide +kernel
theorem dX6_judge_55 : decode cX6_judge 55 = .ok (.iload_n 1, 1) := by decide +kernel
theorem dX6_judge_56 : decode cX6_judge 56 = .ok (.iload 4, 2) := by decide +kernel
theorem dX6_judge_58 : decode cX6_judge 58 = .ok (.invokestatic 174, 3) := by decide +kernel
theorem dX6_judge_61 : decode cX6_judge 61 = .ok (.ifCond .eq 29, 3) := by decide +kernel
theorem dX6_judge_64 : decode cX6_judge 64 = .ok (.iload_n 2, 1) := by decide +kernel
theorem dX6_judge_65 : decode cX6_judge 65 = .ok (.iload 5, 2) := by decide +kernel
theorem dX6_judge_67 : decode cX6_judge 67 = .ok (.invokestatic 174, 3) := by decide +kernel
theorem dX6_judge_70 : decode cX6_judge 70 = .ok (.ifCond .eq 20, 3) := by decide +kernel
theorem dX6_judge_73 : decode cX6_judge 73 = .ok (.iload 4, 2) := by decide +kernel
theorem dX6_judge_75 : decode cX6_judge 75 = .ok (.aload_n 0, 1) := by decide +kernel
theorem dX6_judge_76 : decode cX6_judge 76 = .ok (.getfield 29, 3) := by decide +kernel
theorem dX6_judge_79 : decode cX6_judge 79 = .ok (.aload_n 0, 1) := by decide +kernel
theorem dX6_judge_80 : decode cX6_judge 80 = .ok (.getfield 19, 3) := by decide +kernel
theorem dX6_judge_83 : decode cX6_judge 83 = .ok (.iload_n 1, 1) := by decide +kernel
theorem dX6_judge_84 : decode cX6_judge 84 = .ok (.invokevirtual 231, 3) := by decide +kernel
theorem dX6_judge_87 : decode cX6_judge 87 = .ok (.if_icmp .eq 5, 3) := by decide +kernel
theorem dX6_judge_90 : decode cX6_judge 90 = .ok (.iload_n 3, 1) := by decide +kernel
theorem dX6_judge_91 : decode cX6_judge 91 = .ok (.ireturn, 1) := by decide +kernel
theorem dX6_judge_92 : decode cX6_judge 92 = .ok (.iload_n 1, 1) := by decide +kernel
theorem dX6_judge_93 : decode cX6_judge 93 = .ok (.iload 4, 2) := by decide +kernel
theorem dX6_judge_95 : decode cX6_judge 95 = .ok (.invokestatic 199, 3) := by decide +kernel
theorem dX6_judge_98 : decode cX6_judge 98 = .ok (.iconst (-1), 1) := by decide +kernel
theorem dX6_judge_99 : decode cX6_judge 99 = .ok (.ixor, 1) := by decide +kernel
theorem dX6_judge_100 : decode cX6_judge 100 = .ok (.iand, 1) := by decide +kernel
theorem dX6_judge_101 : decode cX6_judge 101 = .ok (.istore_n 1, 1) := by decide +kernel
theorem dX6_judge_102 : decode cX6_judge 102 = .ok (.iload_n 2, 1) := by decide +kernel
theorem dX6_judge_103 : decode cX6_judge 103 = .ok (.iload 5, 2) := by decide +kernel
theorem dX6_judge_105 : decode cX6_judge 105 = .ok (.invokestatic 199, 3) := by decide +kernel
theorem dX6_judge_108 : decode cX6_judge 108 = .ok (.iconst (-1), 1) := by decide +kernel
theorem dX6_judge_109 : decode cX6_judge 109 = .ok (.ixor, 1) := by decide +kernel
theorem dX6_judge_110 : decode cX6_judge 110 = .ok (.iand, 1) := by decide +kernel
theorem dX6_judge_111 : decode cX6_judge 111 = .ok (.istore_n 2, 1) := by decide +kernel
theorem dX6_judge_112 : decode cX6_judge 112 = .ok (.iinc 3 1, 3) := by decide +kernel
theorem dX6_judge_115 : decode cX6_judge 115 = .ok (.goto (-97), 3) := by decide +kernel
theorem dX6_judge_118 : decode cX6_judge 118 = .ok (.iconst (-1), 1) := by decide +kernel
theorem dX6_judge_119 : decode cX6_judge 119 = .ok (.ireturn, 1) := by decide +kernel
theorem dX6_seed_0 : decode cX6_seed 0 = .ok (.iload_n 1, 1) := by decide +kernel
theorem dX6_seed_1 : decode cX6_seed 1 = .ok (.ifCond .ge 6, 3) := by decide +kernel
theorem dX6_seed_4 : decode cX6_seed 4 = .ok (.ldc 77, 2) := by decide +kernel
theorem dX6_seed_6 : decode cX6_seed 6 = .ok (.ireturn, 1) := by decide +kernel
theorem dX6_seed_7 : decode cX6_seed 7 = .ok (.aload_n 0, 1) := by decide +kernel
theorem dX6_seed_8 : decode cX6_seed 8 = .ok (.getfield 29, 3) := by decide +kernel
theorem dX6_seed_11 : decode cX6_seed 11 = .ok (.getfield 93, 3) := by decide +kernel
theorem dX6_seed_14 : decode cX6_seed 14 = .ok (.istore_n 2, 1) := by decide +kernel
theorem dX6_seed_15 : decode cX6_seed 15 = .ok (.aload_n 0, 1) := by decide +kernel
theorem dX6_seed_16 : decode cX6_seed 16 = .ok (.getfield 29, 3) := by decide +kernel
theorem dX6_seed_19 : decode cX6_seed 19 = .ok (.iload_n 1, 1) := by decide +kernel
theorem dX6_seed_20 : decode cX6_seed 20 = .ok (.putfield 93, 3) := by decide +kernel
theorem dX6_seed_23 : decode cX6_seed 23 = .ok (.iload_n 2, 1) := by decide +kernel
theorem dX6_seed_24 : decode cX6_seed 24 = .ok (.ireturn, 1) := by decide +kernel
theorem dX6_keep_0 : decode cX6_keep 0 = .ok (.iload_n 1, 1) := by decide +kernel
theorem dX6_keep_1 : decode cX6_keep 1 = .ok (.ifCond .lt 8, 3) := by decide +kernel
theorem dX6_keep_4 : decode cX6_keep 4 = .ok (.iload_n 1, 1) := by decide +kernel
theorem dX6_keep_5 : decode cX6_keep 5 = .ok (.iconst 1, 1) := by decide +kernel
theorem dX6_keep_6 : decode cX6_keep 6 = .ok (.if_icmp .le 6, 3) := by decide +kernel
theorem dX6_keep_9 : decode cX6_keep 9 = .ok (.ldc 137, 2) := by decide +kernel
theorem dX6_keep_11 : decode cX6_keep 11 = .ok (.ireturn, 1) := by decide +kernel
theorem dX6_keep_12 : decode cX6_keep 12 = .ok (.iload_n 1, 1) := by decide +kernel
theorem dX6_keep_13 : decode cX6_keep 13 = .ok (.ifCond .ne 22, 3) := by decide +kernel
theorem dX6_keep_16 : decode cX6_keep 16 = .ok (.aload_n 0, 1) := by decide +kernel
theorem dX6_keep_17 : decode cX6_keep 17 = .ok (.getfield 36, 3) := by decide +kernel
theorem dX6_keep_20 : decode cX6_keep 20 = .ok (.aload_n 0, 1) := by decide +kernel
theorem dX6_keep_21 : decode cX6_keep 21 = .ok (.getfield 29, 3) := by decide +kernel
theorem dX6_keep_24 : decode cX6_keep 24 = .ok (.invokevirtual 96, 3) := by decide +kernel
theorem dX6_keep_27 : decode cX6_keep 27 = .ok (.aload_n 0, 1) := by decide +kernel
theorem dX6_keep_28 : decode cX6_keep 28 = .ok (.iconst 1, 1) := by decide +kernel
theorem dX6_keep_29 : decode cX6_keep 29 = .ok (.putfield 42, 3) := by decide +kernel
theorem dX6_keep_32 : decode cX6_keep 32 = .ok (.goto 19, 3) := by decide +kernel
theorem dX6_keep_35 : decode cX6_keep 35 = .ok (.aload_n 0, 1) := by decide +kernel
theorem dX6_keep_36 : decode cX6_keep 36 = .ok (.getfield 39, 3) := by decide +kernel
theorem dX6_keep_39 : decode cX6_keep 39 = .ok (.aload_n 0, 1) := by decide +kernel
theorem dX6_keep_40 : decode cX6_keep 40 = .ok (.getfield 29, 3) := by decide +kernel
theorem dX6_keep_43 : decode cX6_keep 43 = .ok (.invokevirtual 96, 3) := by decide +kernel
theorem dX6_keep_46 : decode cX6_keep 46 = .ok (.aload_n 0, 1) := by decide +kernel
theorem dX6_keep_47 : decode cX6_keep 47 = .ok (.iconst 1, 1) := by decide +kernel
theorem dX6_keep_48 : decode cX6_keep 48 = .ok (.putfield 46, 3) := by decide +kernel
theorem dX6_keep_51 : decode cX6_keep 51 = .ok (.iconst 1, 1) := by decide +kernel
theorem dX6_keep_52 : decode cX6_keep 52 = .ok (.ireturn, 1) := by decide +kernel
theorem dX6_goBack_0 : decode cX6_goBack 0 = .ok (.iload_n 1, 1) := by decide +kernel
theorem dX6_goBack_1 : decode cX6_goBack 1 = .ok (.ifCond .lt 8, 3) := by decide +kernel
theorem dX6_goBack_4 : decode cX6_goBack 4 = .ok (.iload_n 1, 1) := by decide +kernel
theorem dX6_goBack_5 : decode cX6_goBack 5 = .ok (.iconst 1, 1) := by decide +kernel
theorem dX6_goBack_6 : decode cX6_goBack 6 = .ok (.if_icmp .le 6, 3) := by decide +kernel
theorem dX6_goBack_9 : decode cX6_goBack 9 = .ok (.ldc 137, 2) := by decide +kernel
theorem dX6_goBack_11 : decode cX6_goBack 11 = .ok (.ireturn, 1) := by decide +kernel
theorem dX6_goBack_12 : decode cX6_goBack 12 = .ok (.iload_n 1, 1) := by decide +kernel
theorem dX6_goBack_13 : decode cX6_goBack 13 = .ok (.ifCond .ne 13, 3) := by decide +kernel
theorem dX6_goBack_16 : decode cX6_goBack 16 = .ok (.aload_n 0, 1) := by decide +kernel
theorem dX6_goBack_17 : decode cX6_goBack 17 = .ok (.getfield 42, 3) := by decide +kernel
theorem dX6_goBack_20 : decode cX6_goBack 20 = .ok (.ifCond .ne 16, 3) := by decide +kernel
theorem dX6_goBack_23 : decode cX6_goBack 23 = .ok (.goto 10, 3) := by decide +kernel
theorem dX6_goBack_26 : decode cX6_goBack 26 = .ok (.aload_n 0, 1) := by decide +kernel
theorem dX6_goBack_27 : decode cX6_goBack 27 = .ok (.getfield 46, 3) := by decide +kernel
theorem dX6_goBack_30 : decode cX6_goBack 30 = .ok (.ifCond .ne 6, 3) := by decide +kernel
theorem dX6_goBack_33 : decode cX6_goBack 33 = .ok (.ldc 192, 2) := by decide +kernel
theorem dX6_goBack_35 : decode cX6_goBack 35 = .ok (.ireturn, 1) := by decide +kernel
theorem dX6_goBack_36 : decode cX6_goBack 36 = .ok (.aload_n 0, 1) := by decide +kernel
theorem dX6_goBack_37 : decode cX6_goBack 37 = .ok (.getfield 29, 3) := by decide +kernel
theorem dX6_goBack_40 : decode cX6_goBack 40 = .ok (.iload_n 1, 1) := by decide +kernel
theorem dX6_goBack_41 : decode cX6_goBack 41 = .ok (.ifCond .ne 10, 3) := by decide +kernel
theorem dX6_goBack_44 : decode cX6_goBack 44 = .ok (.aload_n 0, 1) := by decide +kernel
theorem dX6_goBack_45 : decode cX6_goBack 45 = .ok (.getfield 36, 3) := by decide +kernel
theorem dX6_goBack_48 : decode cX6_goBack 48 = .ok (.goto 7, 3) := by decide +kernel
theorem dX6_goBack_51 : decode cX6_goBack 51 = .ok (.aload_n 0, 1) := by decide +kernel
theorem dX6_goBack_52 : decode cX6_goBack 52 = .ok (.getfield 39, 3) := by decide +kernel
theorem dX6_goBack_55 : decode cX6_goBack 55 = .ok (.invokevirtual 96, 3) := by decide +kernel
theorem dX6_goBack_58 : decode cX6_goBack 58 = .ok (.iconst 1, 1) := by decide +kernel
theorem dX6_goBack_59 : decode cX6_goBack 59 = .ok (.ireturn, 1) := by decide +kernel
theorem dX6_at_0 : decode cX6_at 0 = .ok (.aload_n 0, 1) := by decide +kernel
theorem dX6_at_1 : decode cX6_at 1 = .ok (.ifnull 19, 3) := by decide +kernel
theorem dX6_at_4 : decode cX6_at 4 = .ok (.iload_n 1, 1) := by decide +kernel
theorem dX6_at_5 : decode cX6_at 5 = .ok (.ifCond .lt 15, 3) := by decide +kernel
theorem dX6_at_8 : decode cX6_at 8 = .ok (.iload_n 1, 1) := by decide +kernel
theorem dX6_at_9 : decode cX6_at 9 = .ok (.aload_n 0, 1) := by decide +kernel
theorem dX6_at_10 : decode cX6_at 10 = .ok (.arraylength, 1) := by decide +kernel
theorem dX6_at_11 : decode cX6_at 11 = .ok (.if_icmp .ge 9, 3) := by decide +kernel
theorem dX6_at_14 : decode cX6_at 14 = .ok (.aload_n 0, 1) := by decide +kernel
theorem dX6_at_15 : decode cX6_at 15 = .ok (.iload_n 1, 1) := by decide +kernel
theorem dX6_at_16 : decode cX6_at 16 = .ok (.iaload, 1) := by decide +kernel
theorem dX6_at_17 : decode cX6_at 17 = .ok (.goto 4, 3) := by decide +kernel
theorem dX6_at_20 : decode cX6_at 20 = .ok (.iconst 0, 1) := by decide +kernel
theorem dX6_at_21 : decode cX6_at 21 = .ok (.ireturn, 1) := by decide +kernel
theorem dX6_put_0 : decode cX6_put 0 = .ok (.aload_n 0, 1) := by decide +kernel
theorem dX6_put_1 : decode cX6_put 1 = .ok (.ifnull 17, 3) := by decide +kernel
theorem dX6_put_4 : decode cX6_put 4 = .ok (.iload_n 1, 1) := by decide +kernel
theorem dX6_put_5 : decode cX6_put 5 = .ok (.ifCond .lt 13, 3) := by decide +kernel
theorem dX6_put_8 : decode cX6_put 8 = .ok (.iload_n 1, 1) := by decide +kernel
theorem dX6_put_9 : decode cX6_put 9 = .ok (.aload_n 0, 1) := by decide +kernel
theorem dX6_put_10 : decode cX6_put 10 = .ok (.arraylength, 1) := by decide +kernel
theorem dX6_put_11 : decode cX6_put 11 = .ok (.if_icmp .ge 7, 3) := by decide +kernel
theorem dX6_put_14 : decode cX6_put 14 = .ok (.aload_n 0, 1) := by decide +kernel
theorem dX6_put_15 : decode cX6_put 15 = .ok (.iload_n 1, 1) := by decide +kernel
theorem dX6_put_16 : decode cX6_put 16 = .ok (.iload_n 2, 1) := by decide +kernel
theorem dX6_put_17 : decode cX6_put 17 = .ok (.iastore, 1) := by decide +kernel
theorem dX6_put_18 : decode cX6_put 18 = .ok (.return_, 1) := by decide +kernel
theorem dX6_copyRow_0 : decode cX6_copyRow 0 = .ok (.iconst 0, 1) := by decide +kernel
theorem dX6_copyRow_1 : decode cX6_copyRow 1 = .ok (.istore_n 2, 1) := by decide +kernel
theorem dX6_copyRow_2 : decode cX6_copyRow 2 = .ok (.iload_n 2, 1) := by decide +kernel
theorem dX6_copyRow_3 : decode cX6_copyRow 3 = .ok (.bipush 8, 2) := by decide +kernel
theorem dX6_copyRow_5 : decode cX6_copyRow 5 = .ok (.if_icmp .ge 19, 3) := by decide +kernel
theorem dX6_copyRow_8 : decode cX6_copyRow 8 = .ok (.aload_n 1, 1) := by decide +kernel
theorem dX6_copyRow_9 : decode cX6_copyRow 9 = .ok (.iload_n 2, 1) := by decide +kernel
theorem dX6_copyRow_10 : decode cX6_copyRow 10 = .ok (.aload_n 0, 1) := by decide +kernel
theorem dX6_copyRow_11 : decode cX6_copyRow 11 = .ok (.iload_n 2, 1) := by decide +kernel
theorem dX6_copyRow_12 : decode cX6_copyRow 12 = .ok (.invokestatic 142, 3) := by decide +kernel
theorem dX6_copyRow_15 : decode cX6_copyRow 15 = .ok (.invokestatic 188, 3) := by decide +kernel
theorem dX6_copyRow_18 : decode cX6_copyRow 18 = .ok (.iinc 2 1, 3) := by decide +kernel
theorem dX6_copyRow_21 : decode cX6_copyRow 21 = .ok (.goto (-19), 3) := by decide +kernel
theorem dX6_copyRow_24 : decode cX6_copyRow 24 = .ok (.return_, 1) := by decide +kernel
theorem dX6_bit_0 : decode cX6_bit 0 = .ok (.iload_n 0, 1) := by decide +kernel
theorem dX6_bit_1 : decode cX6_bit 1 = .ok (.ifCond .lt 15, 3) := by decide +kernel
theorem dX6_bit_4 : decode cX6_bit 4 = .ok (.iload_n 0, 1) := by decide +kernel
theorem dX6_bit_5 : decode cX6_bit 5 = .ok (.bipush 31, 2) := by decide +kernel
theorem dX6_bit_7 : decode cX6_bit 7 = .ok (.if_icmp .ge 9, 3) := by decide +kernel
theorem dX6_bit_10 : decode cX6_bit 10 = .ok (.iconst 1, 1) := by decide +kernel
theorem dX6_bit_11 : decode cX6_bit 11 = .ok (.iload_n 0, 1) := by decide +kernel
theorem dX6_bit_12 : decode cX6_bit 12 = .ok (.ishl, 1) := by decide +kernel
theorem dX6_bit_13 : decode cX6_bit 13 = .ok (.goto 4, 3) := by decide +kernel
theorem dX6_bit_16 : decode cX6_bit 16 = .ok (.iconst 0, 1) := by decide +kernel
theorem dX6_bit_17 : decode cX6_bit 17 = .ok (.ireturn, 1) := by decide +kernel
theorem dX6_has_0 : decode cX6_has 0 = .ok (.iload_n 1, 1) := by decide +kernel
theorem dX6_has_1 : decode cX6_has 1 = .ok (.ifCond .lt 22, 3) := by decide +kernel
theorem dX6_has_4 : decode cX6_has 4 = .ok (.iload_n 1, 1) := by decide +kernel
theorem dX6_has_5 : decode cX6_has 5 = .ok (.bipush 31, 2) := by decide +kernel
theorem dX6_has_7 : decode cX6_has 7 = .ok (.if_icmp .ge 16, 3) := by decide +kernel
theorem dX6_has_10 : decode cX6_has 10 = .ok (.iload_n 0, 1) := by decide +kernel
theorem dX6_has_11 : decode cX6_has 11 = .ok (.iload_n 1, 1) := by decide +kernel
theorem dX6_has_12 : decode cX6_has 12 = .ok (.ishr, 1) := by decide +kernel
theorem dX6_has_13 : decode cX6_has 13 = .ok (.iconst 1, 1) := by decide +kernel
theorem dX6_has_14 : decode cX6_has 14 = .ok (.iand, 1) := by decide +kernel
theorem dX6_has_15 : decode cX6_has 15 = .ok (.iconst 1, 1) := by decide +kernel
theorem dX6_has_16 : decode cX6_has 16 = .ok (.if_icmp .ne 7, 3) := by decide +kernel
theorem dX6_has_19 : decode cX6_has 19 = .ok (.iconst 1, 1) := by decide +kernel
theorem dX6_has_20 : decode cX6_has 20 = .ok (.goto 4, 3) := by decide +kernel
theorem dX6_has_23 : decode cX6_has 23 = .ok (.iconst 0, 1) := by decide +kernel
theorem dX6_has_24 : decode cX6_has 24 = .ok (.ireturn, 1) := by decide +kernel
theorem dX6_allBelow_0 : decode cX6_allBelow 0 = .ok (.iload_n 0, 1) := by decide +kernel
theorem dX6_allBelow_1 : decode cX6_allBelow 1 = .ok (.invokestatic 199, 3) := by decide +kernel
theorem dX6_allBelow_4 : decode cX6_allBelow 4 = .ok (.iconst 1, 1) := by decide +kernel
theorem dX6_allBelow_5 : decode cX6_allBelow 5 = .ok (.isub, 1) := by decide +kernel
theorem dX6_allBelow_6 : decode cX6_allBelow 6 = .ok (.ireturn, 1) := by decide +kernel
theorem dX7_init_0 : decode cX7_init 0 = .ok (.aload_n 0, 1) := by decide +kernel
theorem dX7_init_1 : decode cX7_init 1 = .ok (.invokespecial 1, 3) := by decide +kernel
theorem dX7_init_4 : decode cX7_init 4 = .ok (.aload_n 0, 1) := by decide +kernel
theorem dX7_init_5 : decode cX7_init 5 = .ok (.sipush 400, 3) := by decide +kernel
theorem dX7_init_8 : decode cX7_init 8 = .ok (.newarray .int, 2) := by decide +kernel
theorem dX7_init_10 : decode cX7_init 10 = .ok (.putfield 7, 3) := by decide +kernel
theorem dX7_init_13 : decode cX7_init 13 = .ok (.aload_n 0, 1) := by decide +kernel
theorem dX7_init_14 : decode cX7_init 14 = .ok (.iconst 2, 1) := by decide +kernel
theorem dX7_init_15 : decode cX7_init 15 = .ok (.newarray .boolean, 2) := by decide +kernel
theorem dX7_init_17 : decode cX7_init 17 = .ok (.putfield 13, 3) := by decide +kernel
theorem dX7_init_20 : decode cX7_init 20 = .ok (.aload_n 0, 1) := by decide +kernel
theorem dX7_init_21 : decode cX7_init 21 = .ok (.bipush 6, 2) := by decide +kernel
theorem dX7_init_23 : decode cX7_init 23 = .ok (.putfield 17, 3) := by decide +kernel
theorem dX7_init_26 : decode cX7_init 26 = .ok (.aload_n 0, 1) := by decide +kernel
theorem dX7_init_27 : decode cX7_init 27 = .ok (.iconst 2, 1) := by decide +kernel
theorem dX7_init_28 : decode cX7_init 28 = .ok (.putfield 21, 3) := by decide +kernel
theorem dX7_init_31 : decode cX7_init 31 = .ok (.aload_n 0, 1) := by decide +kernel
theorem dX7_init_32 : decode cX7_init 32 = .ok (.bipush 16, 2) := by decide +kernel
theorem dX7_init_34 : decode cX7_init 34 = .ok (.newarray .int, 2) := by decide +kernel
theorem dX7_init_36 : decode cX7_init 36 = .ok (.putfield 24, 3) := by decide +kernel
theorem dX7_init_39 : decode cX7_init 39 = .ok (.aload_n 0, 1) := by decide +kernel
theorem dX7_init_40 : decode cX7_init 40 = .ok (.bipush 16, 2) := by decide +kernel
theorem dX7_init_42 : decode cX7_init 42 = .ok (.newarray .int, 2) := by decide +kernel
theorem dX7_init_44 : decode cX7_init 44 = .ok (.putfield 27, 3) := by decide +kernel
theorem dX7_init_47 : decode cX7_init 47 = .ok (.aload_n 0, 1) := by decide +kernel
theorem dX7_init_48 : decode cX7_init 48 = .ok (.bipush 16, 2) := by decide +kernel
theorem dX7_init_50 : decode cX7_init 50 = .ok (.newarray .int, 2) := by decide +kernel
theorem dX7_init_52 : decode cX7_init 52 = .ok (.putfield 30, 3) := by decide +kernel
theorem dX7_init_55 : decode cX7_init 55 = .ok (.aload_n 0, 1) := by decide +kernel
theorem dX7_init_56 : decode cX7_init 56 = .ok (.bipush 16, 2) := by decide +kernel
theorem dX7_init_58 : decode cX7_init 58 = .ok (.newarray .int, 2) := by decide +kernel
theorem dX7_init_60 : decode cX7_init 60 = .ok (.putfield 33, 3) := by decide +kernel
theorem dX7_init_63 : decode cX7_init 63 = .ok (.aload_n 0, 1) := by decide +kernel
theorem dX7_init_64 : decode cX7_init 64 = .ok (.iconst 4, 1) := by decide +kernel
theorem dX7_init_65 : decode cX7_init 65 = .ok (.newarray .int, 2) := by decide +kernel
theorem dX7_init_67 : decode cX7_init 67 = .ok (.putfield 36, 3) := by decide +kernel
theorem dX7_init_70 : decode cX7_init 70 = .ok (.aload_n 0, 1) := by decide +kernel
theorem dX7_init_71 : decode cX7_init 71 = .ok (.bipush 8, 2) := by decide +kernel
theorem dX7_init_73 : decode cX7_init 73 = .ok (.newarray .int, 2) := by decide +kernel
theorem dX7_init_75 : decode cX7_init 75 = .ok (.putfield 39, 3) := by decide +kernel
theorem dX7_init_78 : decode cX7_init 78 = .ok (.aload_n 0, 1) := by decide +kernel
theorem dX7_init_79 : decode cX7_init 79 = .ok (.sipush 400, 3) := by decide +kernel
theorem dX7_init_82 : decode cX7_init 82 = .ok (.newarray .int, 2) := by decide +kernel
theorem dX7_init_84 : decode cX7_init 84 = .ok (.putfield 42, 3) := by decide +kernel
theorem dX7_init_87 : decode cX7_init 87 = .ok (.aload_n 0, 1) := by decide +kernel
theorem dX7_init_88 : decode cX7_init 88 = .ok (.iconst (-1), 1) := by decide +kernel
theorem dX7_init_89 : decode cX7_init 89 = .ok (.putfield 45, 3) := by decide +kernel
theorem dX7_init_92 : decode cX7_init 92 = .ok (.aload_n 0, 1) := by decide +kernel
theorem dX7_init_93 : decode cX7_init 93 = .ok (.bipush 8, 2) := by decide +kernel
theorem dX7_init_95 : decode cX7_init 95 = .ok (.newarray .int, 2) := by decide +kernel
theorem dX7_init_97 : decode cX7_init 97 = .ok (.putfield 48, 3) := by decide +kernel
theorem dX7_init_100 : decode cX7_init 100 = .ok (.aload_n 0, 1) := by decide +kernel
theorem dX7_init_101 : decode cX7_init 101 = .ok (.bipush 8, 2) := by decide +kernel
theorem dX7_init_103 : decode cX7_init 103 = .ok (.newarray .int, 2) := by decide +kernel
theorem dX7_init_105 : decode cX7_init 105 = .ok (.putfield 51, 3) := by decide +kernel
theorem dX7_init_108 : decode cX7_init 108 = .ok (.aload_n 0, 1) := by decide +kernel
theorem dX7_init_109 : decode cX7_init 109 = .ok (.bipush 8, 2) := by decide +kernel
theorem dX7_init_111 : decode cX7_init 111 = .ok (.newarray .int, 2) := by decide +kernel
theorem dX7_init_113 : decode cX7_init 113 = .ok (.putfield 54, 3) := by decide +kernel
theorem dX7_init_116 : decode cX7_init 116 = .ok (.aload_n 0, 1) := by decide +kernel
theorem dX7_init_117 : decode cX7_init 117 = .ok (.bipush 8, 2) := by decide +kernel
theorem dX7_init_119 : decode cX7_init 119 = .ok (.newarray .int, 2) := by decide +kernel
theorem dX7_init_121 : decode cX7_init 121 = .ok (.putfield 57, 3) := by decide +kernel
theorem dX7_init_124 : decode cX7_init 124 = .ok (.aload_n 0, 1) := by decide +kernel
theorem dX7_init_125 : decode cX7_init 125 = .ok (.sipush 1024, 3) := by decide +kernel
theorem dX7_init_128 : decode cX7_init 128 = .ok (.newarray .int, 2) := by decide +kernel
theorem dX7_init_130 : decode cX7_init 130 = .ok (.putfield 60, 3) := by decide +kernel
theorem dX7_init_133 : decode cX7_init 133 = .ok (.aload_n 0, 1) := by decide +kernel
theorem dX7_init_134 : decode cX7_init 134 = .ok (.sipush 1024, 3) := by decide +kernel
theorem dX7_init_137 : decode cX7_init 137 = .ok (.newarray .int, 2) := by decide +kernel
theorem dX7_init_139 : decode cX7_init 139 = .ok (.putfield 63, 3) := by decide +kernel
theorem dX7_init_142 : decode cX7_init 142 = .ok (.aload_n 0, 1) := by decide +kernel
theorem dX7_init_143 : decode cX7_init 143 = .ok (.bipush 20, 2) := by decide +kernel
theorem dX7_init_145 : decode cX7_init 145 = .ok (.newarray .int, 2) := by decide +kernel
theorem dX7_init_147 : decode cX7_init 147 = .ok (.putfield 66, 3) := by decide +kernel
theorem dX7_init_150 : decode cX7_init 150 = .ok (.aload_n 0, 1) := by decide +kernel
theorem dX7_init_151 : decode cX7_init 151 = .ok (.bipush 20, 2) := by decide +kernel
theorem dX7_init_153 : decode cX7_init 153 = .ok (.newarray .int, 2) := by decide +kernel
theorem dX7_init_155 : decode cX7_init 155 = .ok (.putfield 69, 3) := by decide +kernel
theorem dX7_init_158 : decode cX7_init 158 = .ok (.aload_n 0, 1) := by decide +kernel
theorem dX7_init_159 : decode cX7_init 159 = .ok (.getfield 39, 3) := by decide +kernel
theorem dX7_init_162 : decode cX7_init 162 = .ok (.iconst 0, 1) := by decide +kernel
theorem dX7_init_163 : decode cX7_init 163 = .ok (.iconst 0, 1) := by decide +kernel
theorem dX7_init_164 : decode cX7_init 164 = .ok (.iastore, 1) := by decide +kernel
theorem dX7_init_165 : decode cX7_init 165 = .ok (.aload_n 0, 1) := by decide +kernel
theorem dX7_init_166 : decode cX7_init 166 = .ok (.getfield 39, 3) := by decide +kernel
theorem dX7_init_169 : decode cX7_init 169 = .ok (.iconst 1, 1) := by decide +kernel
theorem dX7_init_170 : decode cX7_init 170 = .ok (.iconst 1, 1) := by decide +kernel
theorem dX7_init_171 : decode cX7_init 171 = .ok (.iastore, 1) := by decide +kernel
theorem dX7_init_172 : decode cX7_init 172 = .ok (.aload_n 0, 1) := by decide +kernel
theorem dX7_init_173 : decode cX7_init 173 = .ok (.iconst 2, 1) := by decide +kernel
theorem dX7_init_174 : decode cX7_init 174 = .ok (.putfield 72, 3) := by decide +kernel
theorem dX7_init_177 : decode cX7_init 177 = .ok (.return_, 1) := by decide +kernel
theorem dX7_in_0 : decode cX7_in 0 = .ok (.lload_n 0, 1) := by decide +kernel
theorem dX7_in_1 : decode cX7_in 1 = .ok (.lload_n 2, 1) := by decide +kernel
theorem dX7_in_2 : decode cX7_in 2 = .ok (.lcmp, 1) := by decide +kernel
theorem dX7_in_3 : decode cX7_in 3 = .ok (.ifCond .lt 14, 3) := by decide +kernel
theorem dX7_in_6 : decode cX7_in 6 = .ok (.lload_n 0, 1) := by decide +kernel
theorem dX7_in_7 : decode cX7_in 7 = .ok (.lload 4, 2) := by decide +kernel
theorem dX7_in_9 : decode cX7_in 9 = .ok (.lcmp, 1) := by decide +kernel
theorem dX7_in_10 : decode cX7_in 10 = .ok (.ifCond .gt 7, 3) := by decide +kernel
theorem dX7_in_13 : decode cX7_in 13 = .ok (.iconst 1, 1) := by decide +kernel
theorem dX7_in_14 : decode cX7_in 14 = .ok (.goto 4, 3) := by decide +kernel
theorem dX7_in_17 : decode cX7_in 17 = .ok (.iconst 0, 1) := by decide +kernel
theorem dX7_in_18 : decode cX7_in 18 = .ok (.ireturn, 1) := by decide +kernel
theorem dX7_one_0 : decode cX7_one 0 = .ok (.iload_n 0, 1) := by decide +kernel
theorem dX7_one_1 : decode cX7_one 1 = .ok (.ifCond .eq 7, 3) := by decide +kernel
theorem dX7_one_4 : decode cX7_one 4 = .ok (.iconst 1, 1) := by decide +kernel
theorem dX7_one_5 : decode cX7_one 5 = .ok (.goto 4, 3) := by decide +kernel
theorem dX7_one_8 : decode cX7_one 8 = .ok (.iconst 0, 1) := by decide +kernel
theorem dX7_one_9 : decode cX7_one 9 = .ok (.ireturn, 1) := by decide +kernel
theorem dX7_has_0 : decode cX7_has 0 = .ok (.iload_n 0, 1) := by decide +kernel
theorem dX7_has_1 : decode cX7_has 1 = .ok (.iload_n 1, 1) := by decide +kernel
theorem dX7_has_2 : decode cX7_has 2 = .ok (.ishr, 1) := by decide +kernel
theorem dX7_has_3 : decode cX7_has 3 = .ok (.iconst 1, 1) := by decide +kernel
theorem dX7_has_4 : decode cX7_has 4 = .ok (.iand, 1) := by decide +kernel
theorem dX7_has_5 : decode cX7_has 5 = .ok (.iconst 1, 1) := by decide +kernel
theorem dX7_has_6 : decode cX7_has 6 = .ok (.if_icmp .ne 7, 3) := by decide +kernel
theorem dX7_has_9 : decode cX7_has 9 = .ok (.iconst 1, 1) := by decide +kernel
theorem dX7_has_10 : decode cX7_has 10 = .ok (.goto 4, 3) := by decide +kernel
theorem dX7_has_13 : decode cX7_has 13 = .ok (.iconst 0, 1) := by decide +kernel
theorem dX7_has_14 : decode cX7_has 14 = .ok (.ireturn, 1) := by decide +kernel
theorem dX7_ones_0 : decode cX7_ones 0 = .ok (.iconst 0, 1) := by decide +kernel
theorem dX7_ones_1 : decode cX7_ones 1 = .ok (.istore_n 1, 1) := by decide +kernel
theorem dX7_ones_2 : decode cX7_ones 2 = .ok (.iconst 0, 1) := by decide +kernel
theorem dX7_ones_3 : decode cX7_ones 3 = .ok (.istore_n 2, 1) := by decide +kernel
theorem dX7_ones_4 : decode cX7_ones 4 = .ok (.iload_n 2, 1) := by decide +kernel
theorem dX7_ones_5 : decode cX7_ones 5 = .ok (.bipush 8, 2) := by decide +kernel
theorem dX7_ones_7 : decode cX7_ones 7 = .ok (.if_icmp .ge 17, 3) := by decide +kernel
theorem dX7_ones_10 : decode cX7_ones 10 = .ok (.iload_n 1, 1) := by decide +kernel
theorem dX7_ones_11 : decode cX7_ones 11 = .ok (.iload_n 0, 1) := by decide +kernel
theorem dX7_ones_12 : decode cX7_ones 12 = .ok (.iload_n 2, 1) := by decide +kernel
theorem dX7_ones_13 : decode cX7_ones 13 = .ok (.ishr, 1) := by decide +kernel
theorem dX7_ones_14 : decode cX7_ones 14 = .ok (.iconst 1, 1) := by decide +kernel
theorem dX7_ones_15 : decode cX7_ones 15 = .ok (.iand, 1) := by decide +kernel
theorem dX7_ones_16 : decode cX7_ones 16 = .ok (.iadd, 1) := by decide +kernel
theorem dX7_ones_17 : decode cX7_ones 17 = .ok (.istore_n 1, 1) := by decide +kernel
theorem dX7_ones_18 : decode cX7_ones 18 = .ok (.iinc 2 1, 3) := by decide +kernel
theorem dX7_ones_21 : decode cX7_ones 21 = .ok (.goto (-17), 3) := by decide +kernel
theorem dX7_ones_24 : decode cX7_ones 24 = .ok (.iload_n 1, 1) := by decide +kernel
theorem dX7_ones_25 : decode cX7_ones 25 = .ok (.ireturn, 1) := by decide +kernel
theorem dX7_size_0 : decode cX7_size 0 = .ok (.iload_n 0, 1) := by decide +kernel
theorem dX7_size_1 : decode cX7_size 1 = .ok (.ifCond .ge 8, 3) := by decide +kernel
theorem dX7_size_4 : decode cX7_size 4 = .ok (.iload_n 0, 1) := by decide +kernel
theorem dX7_size_5 : decode cX7_size 5 = .ok (.ineg, 1) := by decide +kernel
theorem dX7_size_6 : decode cX7_size 6 = .ok (.goto 4, 3) := by decide +kernel
theorem dX7_size_9 : decode cX7_size 9 = .ok (.iload_n 0, 1) := by decide +kernel
theorem dX7_size_10 : decode cX7_size 10 = .ok (.ireturn, 1) := by decide +kernel
theorem dX7_feed_0 : decode cX7_feed 0 = .ok (.iload_n 1, 1) := by decide +kernel
theorem dX7_feed_1 : decode cX7_feed 1 = .ok (.i2l, 1) := by decide +kernel
theorem dX7_feed_2 : decode cX7_feed 2 = .ok (.lconst 1, 1) := by decide +kernel
theorem dX7_feed_3 : decode cX7_feed 3 = .ok (.ldc2_w 75, 3) := by decide +kernel
theorem dX7_feed_6 : decode cX7_feed 6 = .ok (.invokestatic 77, 3) := by decide +kernel
theorem dX7_feed_9 : decode cX7_feed 9 = .ok (.ifCond .ne 6, 3) := by decide +kernel
theorem dX7_feed_12 : decode cX7_feed 12 = .ok (.ldc 81, 2) := by decide +kernel
theorem dX7_feed_14 : decode cX7_feed 14 = .ok (.ireturn, 1) := by decide +kernel
theorem dX7_feed_15 : decode cX7_feed 15 = .ok (.aload_n 0, 1) := by decide +kernel
theorem dX7_feed_16 : decode cX7_feed 16 = .ok (.getfield 82, 3) := by decide +kernel
theorem dX7_feed_19 : decode cX7_feed 19 = .ok (.iload_n 1, 1) := by decide +kernel
theorem dX7_feed_20 : decode cX7_feed 20 = .ok (.iadd, 1) := by decide +kernel
theorem dX7_feed_21 : decode cX7_feed 21 = .ok (.sipush 400, 3) := by decide +kernel
theorem dX7_feed_24 : decode cX7_feed 24 = .ok (.if_icmp .le 6, 3) := by decide +kernel
theorem dX7_feed_27 : decode cX7_feed 27 = .ok (.ldc 85, 2) := by decide +kernel
theorem dX7_feed_29 : decode cX7_feed 29 = .ok (.ireturn, 1) := by decide +kernel
theorem dX7_feed_30 : decode cX7_feed 30 = .ok (.iload_n 1, 1) := by decide +kernel
theorem dX7_feed_31 : decode cX7_feed 31 = .ok (.iconst 1, 1) := by decide +kernel
theorem dX7_feed_32 : decode cX7_feed 32 = .ok (.isub, 1) := by decide +kernel
theorem dX7_feed_33 : decode cX7_feed 33 = .ok (.istore 4, 2) := by decide +kernel
theorem dX7_feed_35 : decode cX7_feed 35 = .ok (.iload 4, 2) := by decide +kernel
theorem dX7_feed_37 : decode cX7_feed 37 = .ok (.ifCond .lt 40, 3) := by decide +kernel
theorem dX7_feed_40 : decode cX7_feed 40 = .ok (.aload_n 0, 1) := by decide +kernel
theorem dX7_feed_41 : decode cX7_feed 41 = .ok (.getfield 42, 3) := by decide +kernel
theorem dX7_feed_44 : decode cX7_feed 44 = .ok (.aload_n 0, 1) := by decide +kernel
theorem dX7_feed_45 : decode cX7_feed 45 = .ok (.getfield 82, 3) := by decide +kernel
theorem dX7_feed_48 : decode cX7_feed 48 = .ok (.lload_n 2, 1) := by decide +kernel
theorem dX7_feed_49 : decode cX7_feed 49 = .ok (.bipush 8, 2) := by decide +kernel
theorem dX7_feed_51 : decode cX7_feed 51 = .ok (.iload 4, 2) := by decide +kernel
theorem dX7_feed_53 : decode cX7_feed 53 = .ok (.imul, 1) := by decide +kernel
theorem dX7_feed_54 : decode cX7_feed 54 = .ok (.lshr, 1) := by decide +kernel
theorem dX7_feed_55 : decode cX7_feed 55 = .ok (.ldc2_w 86, 3) := by decide +kernel
theorem dX7_feed_58 : decode cX7_feed 58 = .ok (.land, 1) := by decide +kernel
theorem dX7_feed_59 : decode cX7_feed 59 = .ok (.l2i, 1) := by decide +kernel
theorem dX7_feed_60 : decode cX7_feed 60 = .ok (.iastore, 1) := by decide +kernel
theorem dX7_feed_61 : decode cX7_feed 61 = .ok (.aload_n 0, 1) := by decide +kernel
theorem dX7_feed_62 : decode cX7_feed 62 = .ok (.dup, 1) := by decide +kernel
theorem dX7_feed_63 : decode cX7_feed 63 = .ok (.getfield 82, 3) := by decide +kernel
theorem dX7_feed_66 : decode cX7_feed 66 = .ok (.iconst 1, 1) := by decide +kernel
theorem dX7_feed_67 : decode cX7_feed 67 = .ok (.iadd, 1) := by decide +kernel
theorem dX7_feed_68 : decode cX7_feed 68 = .ok (.putfield 82, 3) := by decide +kernel
theorem dX7_feed_71 : decode cX7_feed 71 = .ok (.iinc 4 (-1), 3) := by decide +kernel
theorem dX7_feed_74 : decode cX7_feed 74 = .ok (.goto (-39), 3) := by decide +kernel
theorem dX7_feed_77 : decode cX7_feed 77 = .ok (.aload_n 0, 1) := by decide +kernel
theorem dX7_feed_78 : decode cX7_feed 78 = .ok (.getfield 82, 3) := by decide +kernel
theorem dX7_feed_81 : decode cX7_feed 81 = .ok (.ireturn, 1) := by decide +kernel
theorem dX7_here_0 : decode cX7_here 0 = .ok (.aload_n 0, 1) := by decide +kernel
theorem dX7_here_1 : decode cX7_here 1 = .ok (.getfield 88, 3) := by decide +kernel
theorem dX7_here_4 : decode cX7_here 4 = .ok (.aload_n 0, 1) := by decide +kernel
theorem dX7_here_5 : decode cX7_here 5 = .ok (.getfield 82, 3) := by decide +kernel
theorem dX7_here_8 : decode cX7_here 8 = .ok (.if_icmp .ge 30, 3) := by decide +kernel
theorem dX7_here_11 : decode cX7_here 11 = .ok (.aload_n 0, 1) := by decide +kernel
theorem dX7_here_12 : decode cX7_here 12 = .ok (.getfield 42, 3) := by decide +kernel
theorem dX7_here_15 : decode cX7_here 15 = .ok (.aload_n 0, 1) := by decide +kernel
theorem dX7_here_16 : decode cX7_here 16 = .ok (.getfield 88, 3) := by decide +kernel
theorem dX7_here_19 : decode cX7_here 19 = .ok (.iaload, 1) := by decide +kernel
theorem dX7_here_20 : decode cX7_here 20 = .ok (.bipush 32, 2) := by decide +kernel
theorem dX7_here_22 : decode cX7_here 22 = .ok (.if_icmp .ne 16, 3) := by decide +kernel
theorem dX7_here_25 : decode cX7_here 25 = .ok (.aload_n 0, 1) := by decide +kernel
theorem dX7_here_26 : decode cX7_here 26 = .ok (.dup, 1) := by decide +kernel
theorem dX7_here_27 : decode cX7_here 27 = .ok (.getfield 88, 3) := by decide +kernel
theorem dX7_here_30 : decode cX7_here 30 = .ok (.iconst 1, 1) := by decide +kernel
theorem dX7_here_31 : decode cX7_here 31 = .ok (.iadd, 1) := by decide +kernel
theorem dX7_here_32 : decode cX7_here 32 = .ok (.putfield 88, 3) := by decide +kernel
theorem dX7_here_35 : decode cX7_here 35 = .ok (.goto (-35), 3) := by decide +kernel
theorem dX7_here_38 : decode cX7_here 38 = .ok (.aload_n 0, 1) := by decide +kernel
theorem dX7_here_39 : decode cX7_here 39 = .ok (.getfield 88, 3) := by decide +kernel
theorem dX7_here_42 : decode cX7_here 42 = .ok (.aload_n 0, 1) := by decide +kernel
theorem dX7_here_43 : decode cX7_here 43 = .ok (.getfield 82, 3) := by decide +kernel
theorem dX7_here_46 : decode cX7_here 46 = .ok (.if_icmp .ge 15, 3) := by decide +kernel
theorem dX7_here_49 : decode cX7_here 49 = .ok (.aload_n 0, 1) := by decide +kernel
theorem dX7_here_50 : decode cX7_here 50 = .ok (.getfield 42, 3) := by decide +kernel
theorem dX7_here_53 : decode cX7_here 53 = .ok (.aload_n 0, 1) := by decide +kernel
theorem dX7_here_54 : decode cX7_here 54 = .ok (.getfield 88, 3) := by decide +kernel
theorem dX7_here_57 : decode cX7_here 57 = .ok (.iaload, 1) := by decide +kernel
theorem dX7_here_58 : decode cX7_here 58 = .ok (.goto 4, 3) := by decide +kernel
theorem dX7_here_61 : decode cX7_here 61 = .ok (.iconst (-1), 1) := by decide +kernel
theorem dX7_here_62 : decode cX7_here 62 = .ok (.ireturn, 1) := by decide +kernel
theorem dX7_want_0 : decode cX7_want 0 = .ok (.iload_n 1, 1) := by decide +kernel
theorem dX7_want_1 : decode cX7_want 1 = .ok (.ifCond .ne 20, 3) := by decide +kernel
theorem dX7_want_4 : decode cX7_want 4 = .ok (.aload_n 0, 1) := by decide +kernel
theorem dX7_want_5 : decode cX7_want 5 = .ok (.getfield 91, 3) := by decide +kernel
theorem dX7_want_8 : decode cX7_want 8 = .ok (.ifCond .ne 13, 3) := by decide +kernel
theorem dX7_want_11 : decode cX7_want 11 = .ok (.aload_n 0, 1) := by decide +kernel
theorem dX7_want_12 : decode cX7_want 12 = .ok (.iload_n 2, 1) := by decide +kernel
theorem dX7_want_13 : decode cX7_want 13 = .ok (.putfield 91, 3) := by decide +kernel
theorem dX7_want_16 : decode cX7_want 16 = .ok (.aload_n 0, 1) := by decide +kernel
theorem dX7_want_17 : decode cX7_want 17 = .ok (.iload_n 3, 1) := by decide +kernel
theorem dX7_want_18 : decode cX7_want 18 = .ok (.putfield 45, 3) := by decide +kernel
theorem dX7_want_21 : decode cX7_want 21 = .ok (.aload_n 0, 1) := by decide +kernel
theorem dX7_want_22 : decode cX7_want 22 = .ok (.getfield 91, 3) := by decide +kernel
theorem dX7_want_25 : decode cX7_want 25 = .ok (.ifCond .ne 7, 3) := by decide +kernel
theorem dX7_want_28 : decode cX7_want 28 = .ok (.iconst 1, 1) := by decide +kernel
theorem dX7_want_29 : decode cX7_want 29 = .ok (.goto 4, 3) := by decide +kernel
theorem dX7_want_32 : decode cX7_want 32 = .ok (.iconst 0, 1) := by decide +kernel
theorem dX7_want_33 : decode cX7_want 33 = .ok (.ireturn, 1) := by decide +kernel
theorem dX7_takeWord_0 : decode cX7_takeWord 0 = .ok (.aload_n 0, 1) := by decide +kernel
theorem dX7_takeWord_1 : decode cX7_takeWord 1 = .ok (.invokevirtual 94, 3) := by decide +kernel
theorem dX7_takeWord_4 : decode cX7_takeWord 4 = .ok (.istore_n 1, 1) := by decide +kernel
theorem dX7_takeWord_5 : decode cX7_takeWord 5 = .ok (.aload_n 0, 1) := by decide +kernel
theorem dX7_takeWord_6 : decode cX7_takeWord 6 = .ok (.aload_n 0, 1) := by decide +kernel
theorem dX7_takeWord_7 : decode cX7_takeWord 7 = .ok (.getfield 88, 3) := by decide +kernel
theorem dX7_takeWord_10 : decode cX7_takeWord 10 = .ok (.putfield 98, 3) := by decide +kernel
theorem dX7_takeWord_13 : decode cX7_takeWord 13 = .ok (.aload_n 0, 1) := by decide +kernel
theorem dX7_takeWord_14 : decode cX7_takeWord 14 = .ok (.getfield 88, 3) := by decide +kernel
theorem dX7_takeWord_17 : decode cX7_takeWord 17 = .ok (.aload_n 0, 1) := by decide +kernel
theorem dX7_takeWord_18 : decode cX7_takeWord 18 = .ok (.getfield 82, 3) := by decide +kernel
theorem dX7_takeWord_21 : decode cX7_takeWord 21 = .ok (.if_icmp .ge 38, 3) := by decide +kernel
theorem dX7_takeWord_24 : decode cX7_takeWord 24 = .ok (.aload_n 0, 1) := by decide +kernel
theorem dX7_takeWord_25 : decode cX7_takeWord 25 = .ok (.getfield 42, 3) := by decide +kernel
theorem dX7_takeWord_28 : decode cX7_takeWord 28 = .ok (.aload_n 0, 1) := by decide +kernel
theorem dX7_takeWord_29 : decode cX7_takeWord 29 = .ok (.getfield 88, 3) := by decide +kernel
theorem dX7_takeWord_32 : decode cX7_takeWord 32 = .ok (.iaload, 1) := by decide +kernel
theorem dX7_takeWord_33 : decode cX7_takeWord 33 = .ok (.i2l, 1) := by decide +kernel
theorem dX7_takeWord_34 : decode cX7_takeWord 34 = .ok (.ldc2_w 101, 3) := by decide +kernel
theorem dX7_takeWord_37 : decode cX7_takeWord 37 = .ok (.ldc2_w 103, 3) := by decide +kernel
theorem dX7_takeWord_40 : decode cX7_takeWord 40 = .ok (.invokestatic 77, 3) := by decide +kernel
theorem dX7_takeWord_43 : decode cX7_takeWord 43 = .ok (.ifCond .eq 16, 3) := by decide +kernel
theorem dX7_takeWord_46 : decode cX7_takeWord 46 = .ok (.aload_n 0, 1) := by decide +kernel
theorem dX7_takeWord_47 : decode cX7_takeWord 47 = .ok (.dup, 1) := by decide +kernel
theorem dX7_takeWord_48 : decode cX7_takeWord 48 = .ok (.getfield 88, 3) := by decide +kernel
theorem dX7_takeWord_51 : decode cX7_takeWord 51 = .ok (.iconst 1, 1) := by decide +kernel
theorem dX7_takeWord_52 : decode cX7_takeWord 52 = .ok (.iadd, 1) := by decide +kernel
theorem dX7_takeWord_53 : decode cX7_takeWord 53 = .ok (.putfield 88, 3) := by decide +kernel
theorem dX7_takeWord_56 : decode cX7_takeWord 56 = .ok (.goto (-43), 3) := by decide +kernel
theorem dX7_takeWord_59 : decode cX7_takeWord 59 = .ok (.aload_n 0, 1) := by decide +kernel
theorem dX7_takeWord_60 : decode cX7_takeWord 60 = .ok (.aload_n 0, 1) := by decide +kernel
theorem dX7_takeWord_61 : decode cX7_takeWord 61 = .ok (.getfield 88, 3) := by decide +kernel
theorem dX7_takeWord_64 : decode cX7_takeWord 64 = .ok (.aload_n 0, 1) := by decide +kernel
theorem dX7_takeWord_65 : decode cX7_takeWord 65 = .ok (.getfield 98, 3) := by decide +kernel
theorem dX7_takeWord_68 : decode cX7_takeWord 68 = .ok (.isub, 1) := by decide +kernel
theorem dX7_takeWord_69 : decode cX7_takeWord 69 = .ok (.putfield 105, 3) := by decide +kernel
theorem dX7_takeWord_72 : decode cX7_takeWord 72 = .ok (.return_, 1) := by decide +kernel
theorem dX7_isWord_0 : decode cX7_isWord 0 = .ok (.aload_n 0, 1) := by decide +kernel
theorem dX7_isWord_1 : decode cX7_isWord 1 = .ok (.getfield 105, 3) := by decide +kernel
theorem dX7_isWord_4 : decode cX7_isWord 4 = .ok (.iload_n 1, 1) := by decide +kernel
theorem dX7_isWord_5 : decode cX7_isWord 5 = .ok (.if_icmp .ne 7, 3) := by decide +kernel
theorem dX7_isWord_8 : decode cX7_isWord 8 = .ok (.iconst 1, 1) := by decide +kernel
theorem dX7_isWord_9 : decode cX7_isWord 9 = .ok (.goto 4, 3) := by decide +kernel
theorem dX7_isWord_12 : decode cX7_isWord 12 = .ok (.iconst 0, 1) := by decide +kernel
theorem dX7_isWord_13 : decode cX7_isWord 13 = .ok (.istore 7, 2) := by decide +kernel
theorem dX7_isWord_15 : decode cX7_isWord 15 = .ok (.iconst 0, 1) := by decide +kernel
theorem dX7_isWord_16 : decode cX7_isWord 16 = .ok (.istore 8, 2) := by decide +kernel
theorem dX7_isWord_18 : decode cX7_isWord 18 = .ok (.iload 8, 2) := by decide +kernel
theorem dX7_isWord_20 : decode cX7_isWord 20 = .ok (.iload_n 1, 1) := by decide +kernel
theorem dX7_isWord_21 : decode cX7_isWord 21 = .ok (.if_icmp .ge 79, 3) := by decide +kernel
theorem dX7_isWord_24 : decode cX7_isWord 24 = .ok (.iload 7, 2) := by decide +kernel
theorem dX7_isWord_26 : decode cX7_isWord 26 = .ok (.ifCond .eq 74, 3) := by decide +kernel
theorem dX7_isWord_29 : decode cX7_isWord 29 = .ok (.aload_n 0, 1) := by decide +kernel
theorem dX7_isWord_30 : decode cX7_isWord 30 = .ok (.getfield 42, 3) := by decide +kernel
theorem dX7_isWord_33 : decode cX7_isWord 33 = .ok (.aload_n 0, 1) := by decide +kernel
theorem dX7_isWord_34 : decode cX7_isWord 34 = .ok (.getfield 98, 3) := by decide +kernel
theorem dX7_isWord_37 : decode cX7_isWord 37 = .ok (.iload 8, 2) := by decide +kernel
theorem dX7_isWord_39 : decode cX7_isWord 39 = .ok (.iadd, 1) := by decide +kernel
theorem dX7_isWord_40 : decode cX7_isWord 40 = .ok (.iaload, 1) := by decide +kernel
theorem dX7_isWord_41 : decode cX7_isWord 41 = .ok (.iload 8, 2) := by decide +kernel
theorem dX7_isWord_43 : decode cX7_isWord 43 = .ok (.ifCond .ne 7, 3) := by decide +kernel
theorem dX7_isWord_46 : decode cX7_isWord 46 = .ok (.iload_n 2, 1) := by decide +kernel
theorem dX7_isWord_47 : decode cX7_isWord 47 = .ok (.goto 37, 3) := by decide +kernel
theorem dX7_isWord_50 : decode cX7_isWord 50 = .ok (.iload 8, 2) := by decide +kernel
theorem dX7_isWord_52 : decode cX7_isWord 52 = .ok (.iconst 1, 1) := by decide +kernel
theorem dX7_isWord_53 : decode cX7_isWord 53 = .ok (.if_icmp .ne 7, 3) := by decide +kernel
theorem dX7_isWord_56 : decode cX7_isWord 56 = .ok (.iload_n 3, 1) := by decide +kernel
theorem dX7_isWord_57 : decode cX7_isWord 57 = .ok (.goto 27, 3) := by decide +kernel
theorem dX7_isWord_60 : decode cX7_isWord 60 = .ok (.iload 8, 2) := by decide +kernel
theorem dX7_isWord_62 : decode cX7_isWord 62 = .ok (.iconst 2, 1) := by decide +kernel
theorem dX7_isWord_63 : decode cX7_isWord 63 = .ok (.if_icmp .ne 8, 3) := by decide +kernel
theorem dX7_isWord_66 : decode cX7_isWord 66 = .ok (.iload 4, 2) := by decide +kernel
theorem dX7_isWord_68 : decode cX7_isWord 68 = .ok (.goto 16, 3) := by decide +kernel
theorem dX7_isWord_71 : decode cX7_isWord 71 = .ok (.iload 8, 2) := by decide +kernel
theorem dX7_isWord_73 : decode cX7_isWord 73 = .ok (.iconst 3, 1) := by decide +kernel
theorem dX7_isWord_74 : decode cX7_isWord 74 = .ok (.if_icmp .ne 8, 3) := by decide +kernel
theorem dX7_isWord_77 : decode cX7_isWord 77 = .ok (.iload 5, 2) := by decide +kernel
theorem dX7_isWord_79 : decode cX7_isWord 79 = .ok (.goto 5, 3) := by decide +kernel
theorem dX7_isWord_82 : decode cX7_isWord 82 = .ok (.iload 6, 2) := by decide +kernel
theorem dX7_isWord_84 : decode cX7_isWord 84 = .ok (.if_icmp .ne 7, 3) := by decide +kernel
theorem dX7_isWord_87 : decode cX7_isWord 87 = .ok (.iconst 1, 1) := by decide +kernel
theorem dX7_isWord_88 : decode cX7_isWord 88 = .ok (.goto 4, 3) := by decide +kernel
theorem dX7_isWord_91 : decode cX7_isWord 91 = .ok (.iconst 0, 1) := by decide +kernel
theorem dX7_isWord_92 : decode cX7_isWord 92 = .ok (.istore 7, 2) := by decide +kernel
theorem dX7_isWord_94 : decode cX7_isWord 94 = .ok (.iinc 8 1, 3) := by decide +kernel
theorem dX7_isWord_97 : decode cX7_isWord 97 = .ok (.goto (-79), 3) := by decide +kernel
theorem dX7_isWord_100 : decode cX7_isWord 100 = .ok (.iload 7, 2) := by decide +kernel
theorem dX7_isWord_102 : decode cX7_isWord 102 = .ok (.ireturn, 1) := by decide +kernel
theorem dX7_takeNumber_0 : decode cX7_takeNumber 0 = .ok (.aload_n 0, 1) := by decide +kernel
theorem dX7_takeNumber_1 : decode cX7_takeNumber 1 = .ok (.getfield 91, 3) := by decide +kernel
theorem dX7_takeNumber_4 : decode cX7_takeNumber 4 = .ok (.ifCond .le 5, 3) := by decide +kernel
theorem dX7_takeNumber_7 : decode cX7_takeNumber 7 = .ok (.iconst 0, 1) := by decide +kernel
theorem dX7_takeNumber_8 : decode cX7_takeNumber 8 = .ok (.ireturn, 1) := by decide +kernel
theorem dX7_takeNumber_9 : decode cX7_takeNumber 9 = .ok (.aload_n 0, 1) := by decide +kernel
theorem dX7_takeNumber_10 : decode cX7_takeNumber 10 = .ok (.invokevirtual 94, 3) := by decide +kernel
theorem dX7_takeNumber_13 : decode cX7_takeNumber 13 = .ok (.istore_n 3, 1) := by decide +kernel
theorem dX7_takeNumber_14 : decode cX7_takeNumber 14 = .ok (.aload_n 0, 1) := by decide +kernel
theorem dX7_takeNumber_15 : decode cX7_takeNumber 15 = .ok (.aload_n 0, 1) := by decide +kernel
theorem dX7_takeNumber_16 : decode cX7_takeNumber 16 = .ok (.getfield 88, 3) := by decide +kernel
theorem dX7_takeNumber_19 : decode cX7_takeNumber 19 = .ok (.putfield 98, 3) := by decide +kernel
theorem dX7_takeNumber_22 : decode cX7_takeNumber 22 = .ok (.aload_n 0, 1) := by decide +kernel
theorem dX7_takeNumber_23 : decode cX7_takeNumber 23 = .ok (.iload_n 3, 1) := by decide +kernel
theorem dX7_takeNumber_24 : decode cX7_takeNumber 24 = .ok (.i2l, 1) := by decide +kernel
theorem dX7_takeNumber_25 : decode cX7_takeNumber 25 = .ok (.ldc2_w 108, 3) := by decide +kernel
theorem dX7_takeNumber_28 : decode cX7_takeNumber 28 = .ok (.ldc2_w 110, 3) := by decide +kernel
theorem dX7_takeNumber_31 : decode cX7_takeNumber 31 = .ok (.invokestatic 77, 3) := by decide +kernel
theorem dX7_takeNumber_34 : decode cX7_takeNumber 34 = .ok (.iconst 1, 1) := by decide +kernel
theorem dX7_takeNumber_35 : decode cX7_takeNumber 35 = .ok (.aload_n 0, 1) := by decide +kernel
theorem dX7_takeNumber_36 : decode cX7_takeNumber 36 = .ok (.getfield 88, 3) := by decide +kernel
theorem dX7_takeNumber_39 : decode cX7_takeNumber 39 = .ok (.invokevirtual 112, 3) := by decide +kernel
theorem dX7_takeNumber_42 : decode cX7_takeNumber 42 = .ok (.ifCond .ne 5, 3) := by decide +kernel
theorem dX7_takeNumber_45 : decode cX7_takeNumber 45 = .ok (.iconst 0, 1) := by decide +kernel
theorem dX7_takeNumber_46 : decode cX7_takeNumber 46 = .ok (.ireturn, 1) := by decide +kernel
theorem dX7_takeNumber_47 : decode cX7_takeNumber 47 = .ok (.iconst 0, 1) := by decide +kernel
theorem dX7_takeNumber_48 : decode cX7_takeNumber 48 = .ok (.istore 4, 2) := by decide +kernel
theorem dX7_takeNumber_50 : decode cX7_takeNumber 50 = .ok (.aload_n 0, 1) := by decide +kernel
theorem dX7_takeNumber_51 : decode cX7_takeNumber 51 = .ok (.getfield 88, 3) := by decide +kernel
theorem dX7_takeNumber_54 : decode cX7_takeNumber 54 = .ok (.aload_n 0, 1) := by decide +kernel
theorem dX7_takeNumber_55 : decode cX7_takeNumber 55 = .ok (.getfield 82, 3) := by decide +kernel
theorem dX7_takeNumber_58 : decode cX7_takeNumber 58 = .ok (.if_icmp .ge 70, 3) := by decide +kernel
theorem dX7_takeNumber_61 : decode cX7_takeNumber 61 = .ok (.aload_n 0, 1) := by decide +kernel
theorem dX7_takeNumber_62 : decode cX7_takeNumber 62 = .ok (.getfield 42, 3) := by decide +kernel
theorem dX7_takeNumber_65 : decode cX7_takeNumber 65 = .ok (.aload_n 0, 1) := by decide +kernel
theorem dX7_takeNumber_66 : decode cX7_takeNumber 66 = .ok (.getfield 88, 3) := by decide +kernel
theorem dX7_takeNumber_69 : decode cX7_takeNumber 69 = .ok (.iaload, 1) := by decide +kernel
theorem dX7_takeNumber_70 : decode cX7_takeNumber 70 = .ok (.i2l, 1) := by decide +kernel
theorem dX7_takeNumber_71 : decode cX7_takeNumber 71 = .ok (.ldc2_w 108, 3) := by decide +kernel
theorem dX7_takeNumber_74 : decode cX7_takeNumber 74 = .ok (.ldc2_w 110, 3) := by decide +kernel
theorem dX7_takeNumber_77 : decode cX7_takeNumber 77 = .ok (.invokestatic 77, 3) := by decide +kernel
theorem dX7_takeNumber_80 : decode cX7_takeNumber 80 = .ok (.ifCond .eq 48, 3) := by decide +kernel
theorem dX7_takeNumber_83 : decode cX7_takeNumber 83 = .ok (.iload 4, 2) := by decide +kernel
theorem dX7_takeNumber_85 : decode cX7_takeNumber 85 = .ok (.ldc 116, 2) := by decide +kernel
theorem dX7_takeNumber_87 : decode cX7_takeNumber 87 = .ok (.if_icmp .le 8, 3) := by decide +kernel
theorem dX7_takeNumber_90 : decode cX7_takeNumber 90 = .ok (.iload 4, 2) := by decide +kernel
theorem dX7_takeNumber_92 : decode cX7_takeNumber 92 = .ok (.goto 21, 3) := by decide +kernel
theorem dX7_takeNumber_95 : decode cX7_takeNumber 95 = .ok (.bipush 10, 2) := by decide +kernel
theorem dX7_takeNumber_97 : decode cX7_takeNumber 97 = .ok (.iload 4, 2) := by decide +kernel
theorem dX7_takeNumber_99 : decode cX7_takeNumber 99 = .ok (.imul, 1) := by decide +kernel
theorem dX7_takeNumber_100 : decode cX7_takeNumber 100 = .ok (.aload_n 0, 1) := by decide +kernel
theorem dX7_takeNumber_101 : decode cX7_takeNumber 101 = .ok (.getfield 42, 3) := by decide +kernel
theorem dX7_takeNumber_104 : decode cX7_takeNumber 104 = .ok (.aload_n 0, 1) := by decide +kernel
theorem dX7_takeNumber_105 : decode cX7_takeNumber 105 = .ok (.getfield 88, 3) := by decide +kernel
theorem dX7_takeNumber_108 : decode cX7_takeNumber 108 = .ok (.iaload, 1) := by decide +kernel
theorem dX7_takeNumber_109 : decode cX7_takeNumber 109 = .ok (.iadd, 1) := by decide +kernel
theorem dX7_takeNumber_110 : decode cX7_takeNumber 110 = .ok (.bipush 48, 2) := by decide +kernel
theorem dX7_takeNumber_112 : decode cX7_takeNumber 112 = .ok (.isub, 1) := by decide +kernel
theorem dX7_takeNumber_113 : decode cX7_takeNumber 113 = .ok (.istore 4, 2) := by decide +kernel
theorem dX7_takeNumber_115 : decode cX7_takeNumber 115 = .ok (.aload_n 0, 1) := by decide +kernel
theorem dX7_takeNumber_116 : decode cX7_takeNumber 116 = .ok (.dup, 1) := by decide +kernel
theorem dX7_takeNumber_117 : decode cX7_takeNumber 117 = .ok (.getfield 88, 3) := by decide +kernel
theorem dX7_takeNumber_120 : decode cX7_takeNumber 120 = .ok (.iconst 1, 1) := by decide +kernel
theorem dX7_takeNumber_121 : decode cX7_takeNumber 121 = .ok (.iadd, 1) := by decide +kernel
theorem dX7_takeNumber_122 : decode cX7_takeNumber 122 = .ok (.putfield 88, 3) := by decide +kernel
theorem dX7_takeNumber_125 : decode cX7_takeNumber 125 = .ok (.goto (-75), 3) := by decide +kernel
theorem dX7_takeNumber_128 : decode cX7_takeNumber 128 = .ok (.aload_n 0, 1) := by decide +kernel
theorem dX7_takeNumber_129 : decode cX7_takeNumber 129 = .ok (.aload_n 0, 1) := by decide +kernel
theorem dX7_takeNumber_130 : decode cX7_takeNumber 130 = .ok (.getfield 88, 3) := by decide +kernel
theorem dX7_takeNumber_133 : decode cX7_takeNumber 133 = .ok (.aload_n 0, 1) := by decide +kernel
theorem dX7_takeNumber_134 : decode cX7_takeNumber 134 = .ok (.getfield 98, 3) := by decide +kernel
theorem dX7_takeNumber_137 : decode cX7_takeNumber 137 = .ok (.isub, 1) := by decide +kernel
theorem dX7_takeNumber_138 : decode cX7_takeNumber 138 = .ok (.iconst 4, 1) := by decide +kernel
theorem dX7_takeNumber_139 : decode cX7_takeNumber 139 = .ok (.if_icmp .ge 20, 3) := by decide +kernel
theorem dX7_takeNumber_142 : decode cX7_takeNumber 142 = .ok (.iload 4, 2) := by decide +kernel
theorem dX7_takeNumber_144 : decode cX7_takeNumber 144 = .ok (.i2l, 1) := by decide +kernel
theorem dX7_takeNumber_145 : decode cX7_takeNumber 145 = .ok (.iload_n 1, 1) := by decide +kernel
theorem dX7_takeNumber_146 : decode cX7_takeNumber 146 = .ok (.i2l, 1) := by decide +kernel
theorem dX7_takeNumber_147 : decode cX7_takeNumber 147 = .ok (.iload_n 2, 1) := by decide +kernel
theorem dX7_takeNumber_148 : decode cX7_takeNumber 148 = .ok (.i2l, 1) := by decide +kernel
theorem dX7_takeNumber_149 : decode cX7_takeNumber 149 = .ok (.invokestatic 77, 3) := by decide +kernel
theorem dX7_takeNumber_152 : decode cX7_takeNumber 152 = .ok (.ifCond .eq 7, 3) := by decide +kernel
theorem dX7_takeNumber_155 : decode cX7_takeNumber 155 = .ok (.iconst 1, 1) := by decide +kernel
theorem dX7_takeNumber_156 : decode cX7_takeNumber 156 = .ok (.goto 4, 3) := by decide +kernel
theorem dX7_takeNumber_159 : decode cX7_takeNumber 159 = .ok (.iconst 0, 1) := by decide +kernel
theorem dX7_takeNumber_160 : decode cX7_takeNumber 160 = .ok (.iconst 2, 1) := by decide +kernel
theorem dX7_takeNumber_161 : decode cX7_takeNumber 161 = .ok (.aload_n 0, 1) := by decide +kernel
theorem dX7_takeNumber_162 : decode cX7_takeNumber 162 = .ok (.getfield 98, 3) := by decide +kernel
theorem dX7_takeNumber_165 : decode cX7_takeNumber 165 = .ok (.invokevirtual 112, 3) := by decide +kernel
theorem dX7_takeNumber_168 : decode cX7_takeNumber 168 = .ok (.istore 5, 2) := by decide +kernel
theorem dX7_takeNumber_170 : decode cX7_takeNumber 170 = .ok (.iload 4, 2) := by decide +kernel
theorem dX7_takeNumber_172 : decode cX7_takeNumber 172 = .ok (.ireturn, 1) := by decide +kernel
theorem dX7_takeEnd_0 : decode cX7_takeEnd 0 = .ok (.aload_n 0, 1) := by decide +kernel
theorem dX7_takeEnd_1 : decode cX7_takeEnd 1 = .ok (.getfield 91, 3) := by decide +kernel
theorem dX7_takeEnd_4 : decode cX7_takeEnd 4 = .ok (.ifCond .ne 39, 3) := by decide +kernel
theorem dX7_takeEnd_7 : decode cX7_takeEnd 7 = .ok (.aload_n 0, 1) := by decide +kernel
theorem dX7_takeEnd_8 : decode cX7_takeEnd 8 = .ok (.aload_n 0, 1) := by decide +kernel
theorem dX7_takeEnd_9 : decode cX7_takeEnd 9 = .ok (.invokevirtual 94, 3) := by decide +kernel
theorem dX7_takeEnd_12 : decode cX7_takeEnd 12 = .ok (.bipush 59, 2) := by decide +kernel
theorem dX7_takeEnd_14 : decode cX7_takeEnd 14 = .ok (.if_icmp .ne 7, 3) := by decide +kernel
theorem dX7_takeEnd_17 : decode cX7_takeEnd 17 = .ok (.iconst 1, 1) := by decide +kernel
theorem dX7_takeEnd_18 : decode cX7_takeEnd 18 = .ok (.goto 4, 3) := by decide +kernel
theorem dX7_takeEnd_21 : decode cX7_takeEnd 21 = .ok (.iconst 0, 1) := by decide +kernel
theorem dX7_takeEnd_22 : decode cX7_takeEnd 22 = .ok (.iconst 1, 1) := by decide +kernel
theorem dX7_takeEnd_23 : decode cX7_takeEnd 23 = .ok (.aload_n 0, 1) := by decide +kernel
theorem dX7_takeEnd_24 : decode cX7_takeEnd 24 = .ok (.getfield 88, 3) := by decide +kernel
theorem dX7_takeEnd_27 : decode cX7_takeEnd 27 = .ok (.invokevirtual 112, 3) := by decide +kernel
theorem dX7_takeEnd_30 : decode cX7_takeEnd 30 = .ok (.ifCond .eq 13, 3) := by decide +kernel
theorem dX7_takeEnd_33 : decode cX7_takeEnd 33 = .ok (.aload_n 0, 1) := by decide +kernel
theorem dX7_takeEnd_34 : decode cX7_takeEnd 34 = .ok (.dup, 1) := by decide +kernel
theorem dX7_takeEnd_35 : decode cX7_takeEnd 35 = .ok (.getfield 88, 3) := by decide +kernel
theorem dX7_takeEnd_38 : decode cX7_takeEnd 38 = .ok (.iconst 1, 1) := by decide +kernel
theorem dX7_takeEnd_39 : decode cX7_takeEnd 39 = .ok (.iadd, 1) := by decide +kernel
theorem dX7_takeEnd_40 : decode cX7_takeEnd 40 = .ok (.putfield 88, 3) := by decide +kernel
theorem dX7_takeEnd_43 : decode cX7_takeEnd 43 = .ok (.return_, 1) := by decide +kernel
theorem dX7_takeClause_0 : decode cX7_takeClause 0 = .ok (.aload_n 0, 1) := by decide +kernel
theorem dX7_takeClause_1 : decode cX7_takeClause 1 = .ok (.invokevirtual 117, 3) := by decide +kernel
theorem dX7_takeClause_4 : decode cX7_takeClause 4 = .ok (.aload_n 0, 1) := by decide +kernel
theorem dX7_takeClause_5 : decode cX7_takeClause 5 = .ok (.getfield 98, 3) := by decide +kernel
theorem dX7_takeClause_8 : decode cX7_takeClause 8 = .ok (.istore_n 1, 1) := by decide +kernel
theorem dX7_takeClause_9 : decode cX7_takeClause 9 = .ok (.aload_n 0, 1) := by decide +kernel
theorem dX7_takeClause_10 : decode cX7_takeClause 10 = .ok (.iconst 3, 1) := by decide +kernel
theorem dX7_takeClause_11 : decode cX7_takeClause 11 = .ok (.bipush 115, 2) := by decide +kernel
theorem dX7_takeClause_13 : decode cX7_takeClause 13 = .ok (.bipush 117, 2) := by decide +kernel
theorem dX7_takeClause_15 : decode cX7_takeClause 15 = .ok (.bipush 110, 2) := by decide +kernel
theorem dX7_takeClause_17 : decode cX7_takeClause 17 = .ok (.iconst 0, 1) := by decide +kernel
theorem dX7_takeClause_18 : decode cX7_takeClause 18 = .ok (.iconst 0, 1) := by decide +kernel
theorem dX7_takeClause_19 : decode cX7_takeClause 19 = .ok (.invokevirtual 120, 3) := by decide +kernel
theorem dX7_takeClause_22 : decode cX7_takeClause 22 = .ok (.ifCond .eq 54, 3) := by decide +kernel
theorem dX7_takeClause_25 : decode cX7_takeClause 25 = .ok (.aload_n 0, 1) := by decide +kernel
theorem dX7_takeClause_26 : decode cX7_takeClause 26 = .ok (.aload_n 0, 1) := by decide +kernel
theorem dX7_takeClause_27 : decode cX7_takeClause 27 = .ok (.getfield 124, 3) := by decide +kernel
theorem dX7_takeClause_30 : decode cX7_takeClause 30 = .ok (.ifCond .ne 7, 3) := by decide +kernel
theorem dX7_takeClause_33 : decode cX7_takeClause 33 = .ok (.iconst 1, 1) := by decide +kernel
theorem dX7_takeClause_34 : decode cX7_takeClause 34 = .ok (.goto 4, 3) := by decide +kernel
theorem dX7_takeClause_37 : decode cX7_takeClause 37 = .ok (.iconst 0, 1) := by decide +kernel
theorem dX7_takeClause_38 : decode cX7_takeClause 38 = .ok (.iconst 3, 1) := by decide +kernel
theorem dX7_takeClause_39 : decode cX7_takeClause 39 = .ok (.iload_n 1, 1) := by decide +kernel
theorem dX7_takeClause_40 : decode cX7_takeClause 40 = .ok (.invokevirtual 112, 3) := by decide +kernel
theorem dX7_takeClause_43 : decode cX7_takeClause 43 = .ok (.ifCond .eq 217, 3) := by decide +kernel
theorem dX7_takeClause_46 : decode cX7_takeClause 46 = .ok (.aload_n 0, 1) := by decide +kernel
theorem dX7_takeClause_47 : decode cX7_takeClause 47 = .ok (.iconst 1, 1) := by decide +kernel
theorem dX7_takeClause_48 : decode cX7_takeClause 48 = .ok (.putfield 124, 3) := by decide +kernel
theorem dX7_takeClause_51 : decode cX7_takeClause 51 = .ok (.aload_n 0, 1) := by decide +kernel
theorem dX7_takeClause_52 : decode cX7_takeClause 52 = .ok (.aload_n 0, 1) := by decide +kernel
theorem dX7_takeClause_53 : decode cX7_takeClause 53 = .ok (.iconst 1, 1) := by decide +kernel
theorem dX7_takeClause_54 : decode cX7_takeClause 54 = .ok (.bipush 20, 2) := by decide +kernel
theorem dX7_takeClause_56 : decode cX7_takeClause 56 = .ok (.invokevirtual 128, 3) := by decide +kernel
theorem dX7_takeClause_59 : decode cX7_takeClause 59 = .ok (.putfield 132, 3) := by decide +kernel
theorem dX7_takeClause_62 : decode cX7_takeClause 62 = .ok (.aload_n 0, 1) := by decide +kernel
theorem dX7_takeClause_63 : decode cX7_takeClause 63 = .ok (.aload_n 0, 1) := by decide +kernel
theorem dX7_takeClause_64 : decode cX7_takeClause 64 = .ok (.iconst 0, 1) := by decide +kernel
theorem dX7_takeClause_65 : decode cX7_takeClause 65 = .ok (.bipush 20, 2) := by decide +kernel
theorem dX7_takeClause_67 : decode cX7_takeClause 67 = .ok (.invokevirtual 128, 3) := by decide +kernel
theorem dX7_takeClause_70 : decode cX7_takeClause 70 = .ok (.putfield 135, 3) := by decide +kernel
theorem dX7_takeClause_73 : decode cX7_takeClause 73 = .ok (.goto 187, 3) := by decide +kernel
theorem dX7_takeClause_76 : decode cX7_takeClause 76 = .ok (.aload_n 0, 1) := by decide +kernel
theorem dX7_takeClause_77 : decode cX7_takeClause 77 = .ok (.iconst 4, 1) := by decide +kernel
theorem dX7_takeClause_78 : decode cX7_takeClause 78 = .ok (.bipush 121, 2) := by decide +kernel
theorem dX7_takeClause_80 : decode cX7_takeClause 80 = .ok (.bipush 97, 2) := by decide +kernel
theorem dX7_takeClause_82 : decode cX7_takeClause 82 = .ok (.bipush 114, 2) := by decide +kernel
theorem dX7_takeClause_84 : decode cX7_takeClause 84 = .ok (.bipush 100, 2) := by decide +kernel
theorem dX7_takeClause_86 : decode cX7_takeClause 86 = .ok (.iconst 0, 1) := by decide +kernel
theorem dX7_takeClause_87 : decode cX7_takeClause 87 = .ok (.invokevirtual 120, 3) := by decide +kernel
theorem dX7_takeClause_90 : decode cX7_takeClause 90 = .ok (.ifCond .eq 62, 3) := by decide +kernel
theorem dX7_takeClause_93 : decode cX7_takeClause 93 = .ok (.aload_n 0, 1) := by decide +kernel
theorem dX7_takeClause_94 : decode cX7_takeClause 94 = .ok (.aload_n 0, 1) := by decide +kernel
theorem dX7_takeClause_95 : decode cX7_takeClause 95 = .ok (.getfield 36, 3) := by decide +kernel
theorem dX7_takeClause_98 : decode cX7_takeClause 98 = .ok (.iconst 2, 1) := by decide +kernel
theorem dX7_takeClause_99 : decode cX7_takeClause 99 = .ok (.iaload, 1) := by decide +kernel
theorem dX7_takeClause_100 : decode cX7_takeClause 100 = .ok (.bipush 8, 2) := by decide +kernel
theorem dX7_takeClause_102 : decode cX7_takeClause 102 = .ok (.if_icmp .ge 7, 3) := by decide +kernel
theorem dX7_takeClause_105 : decode cX7_takeClause 105 = .ok (.iconst 1, 1) := by decide +kernel
theorem dX7_takeClause_106 : decode cX7_takeClause 106 = .ok (.goto 4, 3) := by decide +kernel
theorem dX7_takeClause_109 : decode cX7_takeClause 109 = .ok (.iconst 0, 1) := by decide +kernel
theorem dX7_takeClause_110 : decode cX7_takeClause 110 = .ok (.iconst 3, 1) := by decide +kernel
theorem dX7_takeClause_111 : decode cX7_takeClause 111 = .ok (.iload_n 1, 1) := by decide +kernel
theorem dX7_takeClause_112 : decode cX7_takeClause 112 = .ok (.invokevirtual 112, 3) := by decide +kernel
theorem dX7_takeClause_115 : decode cX7_takeClause 115 = .ok (.ifCond .eq 145, 3) := by decide +kernel
theorem dX7_takeClause_118 : decode cX7_takeClause 118 = .ok (.aload_n 0, 1) := by decide +kernel
theorem dX7_takeClause_119 : decode cX7_takeClause 119 = .ok (.getfield 24, 3) := by decide +kernel
theorem dX7_takeClause_122 : decode cX7_takeClause 122 = .ok (.bipush 8, 2) := by decide +kernel
theorem dX7_takeClause_124 : decode cX7_takeClause 124 = .ok (.aload_n 0, 1) := by decide +kernel
theorem dX7_takeClause_125 : decode cX7_takeClause 125 = .ok (.getfield 36, 3) := by decide +kernel
theorem dX7_takeClause_128 : decode cX7_takeClause 128 = .ok (.iconst 2, 1) := by decide +kernel
theorem dX7_takeClause_129 : decode cX7_takeClause 129 = .ok (.iaload, 1) := by decide +kernel
theorem dX7_takeClause_130 : decode cX7_takeClause 130 = .ok (.iadd, 1) := by decide +kernel
theorem dX7_takeClause_131 : decode cX7_takeClause 131 = .ok (.aload_n 0, 1) := by decide +kernel
theorem dX7_takeClause_132 : decode cX7_takeClause 132 = .ok (.iconst 0, 1) := by decide +kernel
theorem dX7_takeClause_133 : decode cX7_takeClause 133 = .ok (.bipush 99, 2) := by decide +kernel
theorem dX7_takeClause_135 : decode cX7_takeClause 135 = .ok (.invokevirtual 128, 3) := by decide +kernel
theorem dX7_takeClause_138 : decode cX7_takeClause 138 = .ok (.iastore, 1) := by decide +kernel
theorem dX7_takeClause_139 : decode cX7_takeClause 139 = .ok (.aload_n 0, 1) := by decide +kernel
theorem dX7_takeClause_140 : decode cX7_takeClause 140 = .ok (.getfield 36, 3) := by decide +kernel
theorem dX7_takeClause_143 : decode cX7_takeClause 143 = .ok (.iconst 2, 1) := by decide +kernel
theorem dX7_takeClause_144 : decode cX7_takeClause 144 = .ok (.dup2, 1) := by decide +kernel
theorem dX7_takeClause_145 : decode cX7_takeClause 145 = .ok (.iaload, 1) := by decide +kernel
theorem dX7_takeClause_146 : decode cX7_takeClause 146 = .ok (.iconst 1, 1) := by decide +kernel
theorem dX7_takeClause_147 : decode cX7_takeClause 147 = .ok (.iadd, 1) := by decide +kernel
theorem dX7_takeClause_148 : decode cX7_takeClause 148 = .ok (.iastore, 1) := by decide +kernel
theorem dX7_takeClause_149 : decode cX7_takeClause 149 = .ok (.goto 111, 3) := by decide +kernel
theorem dX7_takeClause_152 : decode cX7_takeClause 152 = .ok (.aload_n 0, 1) := by decide +kernel
theorem dX7_takeClause_153 : decode cX7_takeClause 153 = .ok (.aload_n 0, 1) := by decide +kernel
theorem dX7_takeClause_154 : decode cX7_takeClause 154 = .ok (.iconst 4, 1) := by decide +kernel
theorem dX7_takeClause_155 : decode cX7_takeClause 155 = .ok (.bipush 100, 2) := by decide +kernel
theorem dX7_takeClause_157 : decode cX7_takeClause 157 = .ok (.bipush 101, 2) := by decide +kernel
