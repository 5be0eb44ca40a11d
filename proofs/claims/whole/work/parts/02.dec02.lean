theorem dX3_claim_14 : decode cX3_claim 14 = .ok (.lload_n 3, 1) := by decide +kernel
theorem dX3_claim_15 : decode cX3_claim 15 = .ok (.ldc2_w 147, 3) := by decide +kernel
theorem dX3_claim_18 : decode cX3_claim 18 = .ok (.lmul, 1) := by decide +kernel
theorem dX3_claim_19 : decode cX3_claim 19 = .ok (.aload_n 0, 1) := by decide +kernel
theorem dX3_claim_20 : decode cX3_claim 20 = .ok (.aload_n 1, 1) := by decide +kernel
theorem dX3_claim_21 : decode cX3_claim 21 = .ok (.getfield 149, 3) := by decide +kernel
theorem dX3_claim_24 : decode cX3_claim 24 = .ok (.iload 5, 2) := by decide +kernel
theorem dX3_claim_26 : decode cX3_claim 26 = .ok (.invokestatic 118, 3) := by decide +kernel
theorem dX3_claim_29 : decode cX3_claim 29 = .ok (.iload_n 2, 1) := by decide +kernel
theorem dX3_claim_30 : decode cX3_claim 30 = .ok (.invokevirtual 152, 3) := by decide +kernel
theorem dX3_claim_33 : decode cX3_claim 33 = .ok (.i2l, 1) := by decide +kernel
theorem dX3_claim_34 : decode cX3_claim 34 = .ok (.ladd, 1) := by decide +kernel
theorem dX3_claim_35 : decode cX3_claim 35 = .ok (.lstore_n 3, 1) := by decide +kernel
theorem dX3_claim_36 : decode cX3_claim 36 = .ok (.iinc 5 1, 3) := by decide +kernel
theorem dX3_claim_39 : decode cX3_claim 39 = .ok (.goto (-34), 3) := by decide +kernel
theorem dX3_claim_42 : decode cX3_claim 42 = .ok (.lload_n 3, 1) := by decide +kernel
theorem dX3_claim_43 : decode cX3_claim 43 = .ok (.ldc2_w 155, 3) := by decide +kernel
theorem dX3_claim_46 : decode cX3_claim 46 = .ok (.lmul, 1) := by decide +kernel
theorem dX3_claim_47 : decode cX3_claim 47 = .ok (.ldc2_w 157, 3) := by decide +kernel
theorem dX3_claim_50 : decode cX3_claim 50 = .ok (.ladd, 1) := by decide +kernel
theorem dX3_claim_51 : decode cX3_claim 51 = .ok (.iload_n 2, 1) := by decide +kernel
theorem dX3_claim_52 : decode cX3_claim 52 = .ok (.i2l, 1) := by decide +kernel
theorem dX3_claim_53 : decode cX3_claim 53 = .ok (.lsub, 1) := by decide +kernel
theorem dX3_claim_54 : decode cX3_claim 54 = .ok (.lreturn, 1) := by decide +kernel
theorem dX3_urgentClaim_0 : decode cX3_urgentClaim 0 = .ok (.aload_n 0, 1) := by decide +kernel
theorem dX3_urgentClaim_1 : decode cX3_urgentClaim 1 = .ok (.aload_n 1, 1) := by decide +kernel
theorem dX3_urgentClaim_2 : decode cX3_urgentClaim 2 = .ok (.iload_n 2, 1) := by decide +kernel
theorem dX3_urgentClaim_3 : decode cX3_urgentClaim 3 = .ok (.invokevirtual 159, 3) := by decide +kernel
theorem dX3_urgentClaim_6 : decode cX3_urgentClaim 6 = .ok (.lstore_n 3, 1) := by decide +kernel
theorem dX3_urgentClaim_7 : decode cX3_urgentClaim 7 = .ok (.aload_n 0, 1) := by decide +kernel
theorem dX3_urgentClaim_8 : decode cX3_urgentClaim 8 = .ok (.getfield 40, 3) := by decide +kernel
theorem dX3_urgentClaim_11 : decode cX3_urgentClaim 11 = .ok (.iload_n 2, 1) := by decide +kernel
theorem dX3_urgentClaim_12 : decode cX3_urgentClaim 12 = .ok (.invokestatic 118, 3) := by decide +kernel
theorem dX3_urgentClaim_15 : decode cX3_urgentClaim 15 = .ok (.ifCond .ne 11, 3) := by decide +kernel
theorem dX3_urgentClaim_18 : decode cX3_urgentClaim 18 = .ok (.lload_n 3, 1) := by decide +kernel
theorem dX3_urgentClaim_19 : decode cX3_urgentClaim 19 = .ok (.ldc2_w 163, 3) := by decide +kernel
theorem dX3_urgentClaim_22 : decode cX3_urgentClaim 22 = .ok (.ladd, 1) := by decide +kernel
theorem dX3_urgentClaim_23 : decode cX3_urgentClaim 23 = .ok (.goto 4, 3) := by decide +kernel
theorem dX3_urgentClaim_26 : decode cX3_urgentClaim 26 = .ok (.lload_n 3, 1) := by decide +kernel
theorem dX3_urgentClaim_27 : decode cX3_urgentClaim 27 = .ok (.lreturn, 1) := by decide +kernel
theorem dX3_placeAmong_0 : decode cX3_placeAmong 0 = .ok (.aload_n 0, 1) := by decide +kernel
theorem dX3_placeAmong_1 : decode cX3_placeAmong 1 = .ok (.aload_n 1, 1) := by decide +kernel
theorem dX3_placeAmong_2 : decode cX3_placeAmong 2 = .ok (.iload_n 3, 1) := by decide +kernel
theorem dX3_placeAmong_3 : decode cX3_placeAmong 3 = .ok (.invokevirtual 165, 3) := by decide +kernel
theorem dX3_placeAmong_6 : decode cX3_placeAmong 6 = .ok (.lstore 4, 2) := by decide +kernel
theorem dX3_placeAmong_8 : decode cX3_placeAmong 8 = .ok (.iconst 0, 1) := by decide +kernel
theorem dX3_placeAmong_9 : decode cX3_placeAmong 9 = .ok (.istore 6, 2) := by decide +kernel
theorem dX3_placeAmong_11 : decode cX3_placeAmong 11 = .ok (.iconst 0, 1) := by decide +kernel
theorem dX3_placeAmong_12 : decode cX3_placeAmong 12 = .ok (.istore 7, 2) := by decide +kernel
theorem dX3_placeAmong_14 : decode cX3_placeAmong 14 = .ok (.iload 7, 2) := by decide +kernel
theorem dX3_placeAmong_16 : decode cX3_placeAmong 16 = .ok (.aload_n 0, 1) := by decide +kernel
theorem dX3_placeAmong_17 : decode cX3_placeAmong 17 = .ok (.getfield 15, 3) := by decide +kernel
theorem dX3_placeAmong_20 : decode cX3_placeAmong 20 = .ok (.if_icmp .ge 34, 3) := by decide +kernel
theorem dX3_placeAmong_23 : decode cX3_placeAmong 23 = .ok (.iload_n 2, 1) := by decide +kernel
theorem dX3_placeAmong_24 : decode cX3_placeAmong 24 = .ok (.iload 7, 2) := by decide +kernel
theorem dX3_placeAmong_26 : decode cX3_placeAmong 26 = .ok (.invokestatic 138, 3) := by decide +kernel
theorem dX3_placeAmong_29 : decode cX3_placeAmong 29 = .ok (.ifCond .eq 19, 3) := by decide +kernel
theorem dX3_placeAmong_32 : decode cX3_placeAmong 32 = .ok (.aload_n 0, 1) := by decide +kernel
theorem dX3_placeAmong_33 : decode cX3_placeAmong 33 = .ok (.aload_n 1, 1) := by decide +kernel
theorem dX3_placeAmong_34 : decode cX3_placeAmong 34 = .ok (.iload 7, 2) := by decide +kernel
theorem dX3_placeAmong_36 : decode cX3_placeAmong 36 = .ok (.invokevirtual 165, 3) := by decide +kernel
theorem dX3_placeAmong_39 : decode cX3_placeAmong 39 = .ok (.lload 4, 2) := by decide +kernel
theorem dX3_placeAmong_41 : decode cX3_placeAmong 41 = .ok (.lcmp, 1) := by decide +kernel
theorem dX3_placeAmong_42 : decode cX3_placeAmong 42 = .ok (.ifCond .le 6, 3) := by decide +kernel
theorem dX3_placeAmong_45 : decode cX3_placeAmong 45 = .ok (.iinc 6 1, 3) := by decide +kernel
theorem dX3_placeAmong_48 : decode cX3_placeAmong 48 = .ok (.iinc 7 1, 3) := by decide +kernel
theorem dX3_placeAmong_51 : decode cX3_placeAmong 51 = .ok (.goto (-37), 3) := by decide +kernel
theorem dX3_placeAmong_54 : decode cX3_placeAmong 54 = .ok (.iload 6, 2) := by decide +kernel
theorem dX3_placeAmong_56 : decode cX3_placeAmong 56 = .ok (.ireturn, 1) := by decide +kernel
theorem dX3_firstAmong_0 : decode cX3_firstAmong 0 = .ok (.iconst (-1), 1) := by decide +kernel
theorem dX3_firstAmong_1 : decode cX3_firstAmong 1 = .ok (.istore_n 3, 1) := by decide +kernel
theorem dX3_firstAmong_2 : decode cX3_firstAmong 2 = .ok (.ldc2_w 168, 3) := by decide +kernel
theorem dX3_firstAmong_5 : decode cX3_firstAmong 5 = .ok (.lstore 4, 2) := by decide +kernel
theorem dX3_firstAmong_7 : decode cX3_firstAmong 7 = .ok (.iconst 0, 1) := by decide +kernel
theorem dX3_firstAmong_8 : decode cX3_firstAmong 8 = .ok (.istore 6, 2) := by decide +kernel
theorem dX3_firstAmong_10 : decode cX3_firstAmong 10 = .ok (.iload 6, 2) := by decide +kernel
theorem dX3_firstAmong_12 : decode cX3_firstAmong 12 = .ok (.aload_n 0, 1) := by decide +kernel
theorem dX3_firstAmong_13 : decode cX3_firstAmong 13 = .ok (.getfield 15, 3) := by decide +kernel
theorem dX3_firstAmong_16 : decode cX3_firstAmong 16 = .ok (.if_icmp .ge 45, 3) := by decide +kernel
theorem dX3_firstAmong_19 : decode cX3_firstAmong 19 = .ok (.iload_n 2, 1) := by decide +kernel
theorem dX3_firstAmong_20 : decode cX3_firstAmong 20 = .ok (.iload 6, 2) := by decide +kernel
theorem dX3_firstAmong_22 : decode cX3_firstAmong 22 = .ok (.invokestatic 138, 3) := by decide +kernel
theorem dX3_firstAmong_25 : decode cX3_firstAmong 25 = .ok (.ifCond .ne 6, 3) := by decide +kernel
theorem dX3_firstAmong_28 : decode cX3_firstAmong 28 = .ok (.goto 27, 3) := by decide +kernel
theorem dX3_firstAmong_31 : decode cX3_firstAmong 31 = .ok (.aload_n 0, 1) := by decide +kernel
theorem dX3_firstAmong_32 : decode cX3_firstAmong 32 = .ok (.aload_n 1, 1) := by decide +kernel
theorem dX3_firstAmong_33 : decode cX3_firstAmong 33 = .ok (.iload 6, 2) := by decide +kernel
theorem dX3_firstAmong_35 : decode cX3_firstAmong 35 = .ok (.invokevirtual 165, 3) := by decide +kernel
theorem dX3_firstAmong_38 : decode cX3_firstAmong 38 = .ok (.lstore 7, 2) := by decide +kernel
theorem dX3_firstAmong_40 : decode cX3_firstAmong 40 = .ok (.lload 7, 2) := by decide +kernel
theorem dX3_firstAmong_42 : decode cX3_firstAmong 42 = .ok (.lload 4, 2) := by decide +kernel
theorem dX3_firstAmong_44 : decode cX3_firstAmong 44 = .ok (.lcmp, 1) := by decide +kernel
theorem dX3_firstAmong_45 : decode cX3_firstAmong 45 = .ok (.ifCond .le 10, 3) := by decide +kernel
theorem dX3_firstAmong_48 : decode cX3_firstAmong 48 = .ok (.lload 7, 2) := by decide +kernel
theorem dX3_firstAmong_50 : decode cX3_firstAmong 50 = .ok (.lstore 4, 2) := by decide +kernel
theorem dX3_firstAmong_52 : decode cX3_firstAmong 52 = .ok (.iload 6, 2) := by decide +kernel
theorem dX3_firstAmong_54 : decode cX3_firstAmong 54 = .ok (.istore_n 3, 1) := by decide +kernel
theorem dX3_firstAmong_55 : decode cX3_firstAmong 55 = .ok (.iinc 6 1, 3) := by decide +kernel
theorem dX3_firstAmong_58 : decode cX3_firstAmong 58 = .ok (.goto (-48), 3) := by decide +kernel
theorem dX3_firstAmong_61 : decode cX3_firstAmong 61 = .ok (.iload_n 3, 1) := by decide +kernel
theorem dX3_firstAmong_62 : decode cX3_firstAmong 62 = .ok (.ireturn, 1) := by decide +kernel
theorem dX3_thawOf_0 : decode cX3_thawOf 0 = .ok (.iconst 0, 1) := by decide +kernel
theorem dX3_thawOf_1 : decode cX3_thawOf 1 = .ok (.iload_n 2, 1) := by decide +kernel
theorem dX3_thawOf_2 : decode cX3_thawOf 2 = .ok (.aload_n 0, 1) := by decide +kernel
theorem dX3_thawOf_3 : decode cX3_thawOf 3 = .ok (.getfield 18, 3) := by decide +kernel
theorem dX3_thawOf_6 : decode cX3_thawOf 6 = .ok (.imul, 1) := by decide +kernel
theorem dX3_thawOf_7 : decode cX3_thawOf 7 = .ok (.aload_n 0, 1) := by decide +kernel
theorem dX3_thawOf_8 : decode cX3_thawOf 8 = .ok (.getfield 21, 3) := by decide +kernel
theorem dX3_thawOf_11 : decode cX3_thawOf 11 = .ok (.iload_n 1, 1) := by decide +kernel
theorem dX3_thawOf_12 : decode cX3_thawOf 12 = .ok (.imul, 1) := by decide +kernel
theorem dX3_thawOf_13 : decode cX3_thawOf 13 = .ok (.isub, 1) := by decide +kernel
theorem dX3_thawOf_14 : decode cX3_thawOf 14 = .ok (.invokestatic 170, 3) := by decide +kernel
theorem dX3_thawOf_17 : decode cX3_thawOf 17 = .ok (.ireturn, 1) := by decide +kernel
theorem dX3_passDay_0 : decode cX3_passDay 0 = .ok (.aload_n 0, 1) := by decide +kernel
theorem dX3_passDay_1 : decode cX3_passDay 1 = .ok (.invokevirtual 132, 3) := by decide +kernel
theorem dX3_passDay_4 : decode cX3_passDay 4 = .ok (.istore_n 2, 1) := by decide +kernel
theorem dX3_passDay_5 : decode cX3_passDay 5 = .ok (.iconst 0, 1) := by decide +kernel
theorem dX3_passDay_6 : decode cX3_passDay 6 = .ok (.istore_n 3, 1) := by decide +kernel
theorem dX3_passDay_7 : decode cX3_passDay 7 = .ok (.iload_n 3, 1) := by decide +kernel
theorem dX3_passDay_8 : decode cX3_passDay 8 = .ok (.aload_n 0, 1) := by decide +kernel
theorem dX3_passDay_9 : decode cX3_passDay 9 = .ok (.getfield 9, 3) := by decide +kernel
theorem dX3_passDay_12 : decode cX3_passDay 12 = .ok (.if_icmp .ge 73, 3) := by decide +kernel
theorem dX3_passDay_15 : decode cX3_passDay 15 = .ok (.aload_n 0, 1) := by decide +kernel
theorem dX3_passDay_16 : decode cX3_passDay 16 = .ok (.getfield 24, 3) := by decide +kernel
theorem dX3_passDay_19 : decode cX3_passDay 19 = .ok (.iload_n 3, 1) := by decide +kernel
theorem dX3_passDay_20 : decode cX3_passDay 20 = .ok (.invokestatic 118, 3) := by decide +kernel
theorem dX3_passDay_23 : decode cX3_passDay 23 = .ok (.istore 4, 2) := by decide +kernel
theorem dX3_passDay_25 : decode cX3_passDay 25 = .ok (.iload_n 1, 1) := by decide +kernel
theorem dX3_passDay_26 : decode cX3_passDay 26 = .ok (.ifCond .le 24, 3) := by decide +kernel
theorem dX3_passDay_29 : decode cX3_passDay 29 = .ok (.aload_n 0, 1) := by decide +kernel
theorem dX3_passDay_30 : decode cX3_passDay 30 = .ok (.getfield 24, 3) := by decide +kernel
theorem dX3_passDay_33 : decode cX3_passDay 33 = .ok (.iload_n 3, 1) := by decide +kernel
theorem dX3_passDay_34 : decode cX3_passDay 34 = .ok (.iconst 0, 1) := by decide +kernel
theorem dX3_passDay_35 : decode cX3_passDay 35 = .ok (.iload 4, 2) := by decide +kernel
theorem dX3_passDay_37 : decode cX3_passDay 37 = .ok (.aload_n 0, 1) := by decide +kernel
theorem dX3_passDay_38 : decode cX3_passDay 38 = .ok (.iload_n 3, 1) := by decide +kernel
theorem dX3_passDay_39 : decode cX3_passDay 39 = .ok (.iload_n 1, 1) := by decide +kernel
theorem dX3_passDay_40 : decode cX3_passDay 40 = .ok (.invokevirtual 175, 3) := by decide +kernel
theorem dX3_passDay_43 : decode cX3_passDay 43 = .ok (.isub, 1) := by decide +kernel
theorem dX3_passDay_44 : decode cX3_passDay 44 = .ok (.invokestatic 170, 3) := by decide +kernel
theorem dX3_passDay_47 : decode cX3_passDay 47 = .ok (.invokestatic 110, 3) := by decide +kernel
theorem dX3_passDay_50 : decode cX3_passDay 50 = .ok (.iload_n 1, 1) := by decide +kernel
theorem dX3_passDay_51 : decode cX3_passDay 51 = .ok (.ifCond .ge 28, 3) := by decide +kernel
theorem dX3_passDay_54 : decode cX3_passDay 54 = .ok (.iload_n 2, 1) := by decide +kernel
theorem dX3_passDay_55 : decode cX3_passDay 55 = .ok (.iload_n 3, 1) := by decide +kernel
theorem dX3_passDay_56 : decode cX3_passDay 56 = .ok (.invokestatic 138, 3) := by decide +kernel
theorem dX3_passDay_59 : decode cX3_passDay 59 = .ok (.ifCond .ne 20, 3) := by decide +kernel
theorem dX3_passDay_62 : decode cX3_passDay 62 = .ok (.aload_n 0, 1) := by decide +kernel
theorem dX3_passDay_63 : decode cX3_passDay 63 = .ok (.getfield 24, 3) := by decide +kernel
theorem dX3_passDay_66 : decode cX3_passDay 66 = .ok (.iload_n 3, 1) := by decide +kernel
theorem dX3_passDay_67 : decode cX3_passDay 67 = .ok (.bipush 99, 2) := by decide +kernel
theorem dX3_passDay_69 : decode cX3_passDay 69 = .ok (.iload 4, 2) := by decide +kernel
theorem dX3_passDay_71 : decode cX3_passDay 71 = .ok (.iload_n 1, 1) := by decide +kernel
theorem dX3_passDay_72 : decode cX3_passDay 72 = .ok (.isub, 1) := by decide +kernel
theorem dX3_passDay_73 : decode cX3_passDay 73 = .ok (.invokestatic 178, 3) := by decide +kernel
theorem dX3_passDay_76 : decode cX3_passDay 76 = .ok (.invokestatic 110, 3) := by decide +kernel
theorem dX3_passDay_79 : decode cX3_passDay 79 = .ok (.iinc 3 1, 3) := by decide +kernel
theorem dX3_passDay_82 : decode cX3_passDay 82 = .ok (.goto (-75), 3) := by decide +kernel
theorem dX3_passDay_85 : decode cX3_passDay 85 = .ok (.aload_n 0, 1) := by decide +kernel
theorem dX3_passDay_86 : decode cX3_passDay 86 = .ok (.invokevirtual 135, 3) := by decide +kernel
theorem dX3_passDay_89 : decode cX3_passDay 89 = .ok (.istore_n 3, 1) := by decide +kernel
theorem dX3_passDay_90 : decode cX3_passDay 90 = .ok (.iconst 0, 1) := by decide +kernel
theorem dX3_passDay_91 : decode cX3_passDay 91 = .ok (.istore 4, 2) := by decide +kernel
theorem dX3_passDay_93 : decode cX3_passDay 93 = .ok (.iload 4, 2) := by decide +kernel
theorem dX3_passDay_95 : decode cX3_passDay 95 = .ok (.aload_n 0, 1) := by decide +kernel
theorem dX3_passDay_96 : decode cX3_passDay 96 = .ok (.getfield 15, 3) := by decide +kernel
theorem dX3_passDay_99 : decode cX3_passDay 99 = .ok (.if_icmp .ge 44, 3) := by decide +kernel
theorem dX3_passDay_102 : decode cX3_passDay 102 = .ok (.iload_n 3, 1) := by decide +kernel
theorem dX3_passDay_103 : decode cX3_passDay 103 = .ok (.iload 4, 2) := by decide +kernel
theorem dX3_passDay_105 : decode cX3_passDay 105 = .ok (.invokestatic 138, 3) := by decide +kernel
theorem dX3_passDay_108 : decode cX3_passDay 108 = .ok (.ifCond .eq 29, 3) := by decide +kernel
theorem dX3_passDay_111 : decode cX3_passDay 111 = .ok (.aload_n 0, 1) := by decide +kernel
theorem dX3_passDay_112 : decode cX3_passDay 112 = .ok (.getfield 31, 3) := by decide +kernel
theorem dX3_passDay_115 : decode cX3_passDay 115 = .ok (.iload 4, 2) := by decide +kernel
theorem dX3_passDay_117 : decode cX3_passDay 117 = .ok (.sipush 9999, 3) := by decide +kernel
theorem dX3_passDay_120 : decode cX3_passDay 120 = .ok (.aload_n 0, 1) := by decide +kernel
theorem dX3_passDay_121 : decode cX3_passDay 121 = .ok (.getfield 31, 3) := by decide +kernel
theorem dX3_passDay_124 : decode cX3_passDay 124 = .ok (.iload 4, 2) := by decide +kernel
theorem dX3_passDay_126 : decode cX3_passDay 126 = .ok (.invokestatic 118, 3) := by decide +kernel
theorem dX3_passDay_129 : decode cX3_passDay 129 = .ok (.iconst 1, 1) := by decide +kernel
theorem dX3_passDay_130 : decode cX3_passDay 130 = .ok (.iadd, 1) := by decide +kernel
theorem dX3_passDay_131 : decode cX3_passDay 131 = .ok (.invokestatic 178, 3) := by decide +kernel
theorem dX3_passDay_134 : decode cX3_passDay 134 = .ok (.invokestatic 110, 3) := by decide +kernel
theorem dX3_passDay_137 : decode cX3_passDay 137 = .ok (.iinc 4 1, 3) := by decide +kernel
theorem dX3_passDay_140 : decode cX3_passDay 140 = .ok (.goto (-47), 3) := by decide +kernel
theorem dX3_passDay_143 : decode cX3_passDay 143 = .ok (.return_, 1) := by decide +kernel
theorem dX3_draw_0 : decode cX3_draw 0 = .ok (.aload_n 0, 1) := by decide +kernel
theorem dX3_draw_1 : decode cX3_draw 1 = .ok (.aload_n 0, 1) := by decide +kernel
theorem dX3_draw_2 : decode cX3_draw 2 = .ok (.getfield 58, 3) := by decide +kernel
theorem dX3_draw_5 : decode cX3_draw 5 = .ok (.i2l, 1) := by decide +kernel
theorem dX3_draw_6 : decode cX3_draw 6 = .ok (.ldc2_w 181, 3) := by decide +kernel
theorem dX3_draw_9 : decode cX3_draw 9 = .ok (.lmul, 1) := by decide +kernel
theorem dX3_draw_10 : decode cX3_draw 10 = .ok (.ldc2_w 183, 3) := by decide +kernel
theorem dX3_draw_13 : decode cX3_draw 13 = .ok (.ladd, 1) := by decide +kernel
theorem dX3_draw_14 : decode cX3_draw 14 = .ok (.ldc2_w 185, 3) := by decide +kernel
theorem dX3_draw_17 : decode cX3_draw 17 = .ok (.land, 1) := by decide +kernel
theorem dX3_draw_18 : decode cX3_draw 18 = .ok (.l2i, 1) := by decide +kernel
theorem dX3_draw_19 : decode cX3_draw 19 = .ok (.putfield 58, 3) := by decide +kernel
theorem dX3_draw_22 : decode cX3_draw 22 = .ok (.iload_n 1, 1) := by decide +kernel
theorem dX3_draw_23 : decode cX3_draw 23 = .ok (.ifCond .le 15, 3) := by decide +kernel
theorem dX3_draw_26 : decode cX3_draw 26 = .ok (.aload_n 0, 1) := by decide +kernel
theorem dX3_draw_27 : decode cX3_draw 27 = .ok (.getfield 58, 3) := by decide +kernel
theorem dX3_draw_30 : decode cX3_draw 30 = .ok (.ldc 187, 2) := by decide +kernel
theorem dX3_draw_32 : decode cX3_draw 32 = .ok (.idiv, 1) := by decide +kernel
theorem dX3_draw_33 : decode cX3_draw 33 = .ok (.iload_n 1, 1) := by decide +kernel
theorem dX3_draw_34 : decode cX3_draw 34 = .ok (.irem, 1) := by decide +kernel
theorem dX3_draw_35 : decode cX3_draw 35 = .ok (.goto 4, 3) := by decide +kernel
theorem dX3_draw_38 : decode cX3_draw 38 = .ok (.iconst 0, 1) := by decide +kernel
theorem dX3_draw_39 : decode cX3_draw 39 = .ok (.ireturn, 1) := by decide +kernel
theorem dX3_passNight_0 : decode cX3_passNight 0 = .ok (.aload_n 0, 1) := by decide +kernel
theorem dX3_passNight_1 : decode cX3_passNight 1 = .ok (.invokevirtual 135, 3) := by decide +kernel
theorem dX3_passNight_4 : decode cX3_passNight 4 = .ok (.istore_n 2, 1) := by decide +kernel
theorem dX3_passNight_5 : decode cX3_passNight 5 = .ok (.iconst 0, 1) := by decide +kernel
theorem dX3_passNight_6 : decode cX3_passNight 6 = .ok (.istore_n 3, 1) := by decide +kernel
theorem dX3_passNight_7 : decode cX3_passNight 7 = .ok (.iload_n 3, 1) := by decide +kernel
theorem dX3_passNight_8 : decode cX3_passNight 8 = .ok (.aload_n 0, 1) := by decide +kernel
theorem dX3_passNight_9 : decode cX3_passNight 9 = .ok (.getfield 15, 3) := by decide +kernel
theorem dX3_passNight_12 : decode cX3_passNight 12 = .ok (.if_icmp .ge 49, 3) := by decide +kernel
theorem dX3_passNight_15 : decode cX3_passNight 15 = .ok (.iload_n 2, 1) := by decide +kernel
theorem dX3_passNight_16 : decode cX3_passNight 16 = .ok (.iload_n 3, 1) := by decide +kernel
theorem dX3_passNight_17 : decode cX3_passNight 17 = .ok (.invokestatic 138, 3) := by decide +kernel
theorem dX3_passNight_20 : decode cX3_passNight 20 = .ok (.ifCond .eq 35, 3) := by decide +kernel
theorem dX3_passNight_23 : decode cX3_passNight 23 = .ok (.aload_n 0, 1) := by decide +kernel
theorem dX3_passNight_24 : decode cX3_passNight 24 = .ok (.bipush 10, 2) := by decide +kernel
theorem dX3_passNight_26 : decode cX3_passNight 26 = .ok (.invokevirtual 188, 3) := by decide +kernel
theorem dX3_passNight_29 : decode cX3_passNight 29 = .ok (.iload_n 1, 1) := by decide +kernel
theorem dX3_passNight_30 : decode cX3_passNight 30 = .ok (.if_icmp .ge 25, 3) := by decide +kernel
theorem dX3_passNight_33 : decode cX3_passNight 33 = .ok (.aload_n 0, 1) := by decide +kernel
theorem dX3_passNight_34 : decode cX3_passNight 34 = .ok (.getfield 40, 3) := by decide +kernel
theorem dX3_passNight_37 : decode cX3_passNight 37 = .ok (.iload_n 3, 1) := by decide +kernel
theorem dX3_passNight_38 : decode cX3_passNight 38 = .ok (.iconst 0, 1) := by decide +kernel
theorem dX3_passNight_39 : decode cX3_passNight 39 = .ok (.aload_n 0, 1) := by decide +kernel
theorem dX3_passNight_40 : decode cX3_passNight 40 = .ok (.getfield 40, 3) := by decide +kernel
theorem dX3_passNight_43 : decode cX3_passNight 43 = .ok (.iload_n 3, 1) := by decide +kernel
theorem dX3_passNight_44 : decode cX3_passNight 44 = .ok (.invokestatic 118, 3) := by decide +kernel
theorem dX3_passNight_47 : decode cX3_passNight 47 = .ok (.iconst 1, 1) := by decide +kernel
theorem dX3_passNight_48 : decode cX3_passNight 48 = .ok (.isub, 1) := by decide +kernel
theorem dX3_passNight_49 : decode cX3_passNight 49 = .ok (.invokestatic 170, 3) := by decide +kernel
theorem dX3_passNight_52 : decode cX3_passNight 52 = .ok (.invokestatic 110, 3) := by decide +kernel
theorem dX3_passNight_55 : decode cX3_passNight 55 = .ok (.iinc 3 1, 3) := by decide +kernel
theorem dX3_passNight_58 : decode cX3_passNight 58 = .ok (.goto (-51), 3) := by decide +kernel
theorem dX3_passNight_61 : decode cX3_passNight 61 = .ok (.return_, 1) := by decide +kernel
theorem dX3_layDown_0 : decode cX3_layDown 0 = .ok (.aload_n 0, 1) := by decide +kernel
theorem dX3_layDown_1 : decode cX3_layDown 1 = .ok (.getfield 24, 3) := by decide +kernel
theorem dX3_layDown_4 : decode cX3_layDown 4 = .ok (.iload_n 2, 1) := by decide +kernel
theorem dX3_layDown_5 : decode cX3_layDown 5 = .ok (.invokestatic 118, 3) := by decide +kernel
theorem dX3_layDown_8 : decode cX3_layDown 8 = .ok (.iconst 4, 1) := by decide +kernel
theorem dX3_layDown_9 : decode cX3_layDown 9 = .ok (.iadd, 1) := by decide +kernel
theorem dX3_layDown_10 : decode cX3_layDown 10 = .ok (.istore_n 3, 1) := by decide +kernel
theorem dX3_layDown_11 : decode cX3_layDown 11 = .ok (.aload_n 0, 1) := by decide +kernel
theorem dX3_layDown_12 : decode cX3_layDown 12 = .ok (.getfield 24, 3) := by decide +kernel
theorem dX3_layDown_15 : decode cX3_layDown 15 = .ok (.iload_n 2, 1) := by decide +kernel
theorem dX3_layDown_16 : decode cX3_layDown 16 = .ok (.iconst 0, 1) := by decide +kernel
theorem dX3_layDown_17 : decode cX3_layDown 17 = .ok (.invokestatic 110, 3) := by decide +kernel
theorem dX3_layDown_20 : decode cX3_layDown 20 = .ok (.aload_n 0, 1) := by decide +kernel
theorem dX3_layDown_21 : decode cX3_layDown 21 = .ok (.getfield 43, 3) := by decide +kernel
theorem dX3_layDown_24 : decode cX3_layDown 24 = .ok (.iload_n 1, 1) := by decide +kernel
theorem dX3_layDown_25 : decode cX3_layDown 25 = .ok (.iload_n 2, 1) := by decide +kernel
theorem dX3_layDown_26 : decode cX3_layDown 26 = .ok (.invokestatic 110, 3) := by decide +kernel
theorem dX3_layDown_29 : decode cX3_layDown 29 = .ok (.aload_n 0, 1) := by decide +kernel
theorem dX3_layDown_30 : decode cX3_layDown 30 = .ok (.dup, 1) := by decide +kernel
theorem dX3_layDown_31 : decode cX3_layDown 31 = .ok (.getfield 55, 3) := by decide +kernel
theorem dX3_layDown_34 : decode cX3_layDown 34 = .ok (.iload_n 3, 1) := by decide +kernel
theorem dX3_layDown_35 : decode cX3_layDown 35 = .ok (.iadd, 1) := by decide +kernel
theorem dX3_layDown_36 : decode cX3_layDown 36 = .ok (.putfield 55, 3) := by decide +kernel
theorem dX3_layDown_39 : decode cX3_layDown 39 = .ok (.iload_n 3, 1) := by decide +kernel
theorem dX3_layDown_40 : decode cX3_layDown 40 = .ok (.ireturn, 1) := by decide +kernel
theorem dX3_softBehind_0 : decode cX3_softBehind 0 = .ok (.aload_n 0, 1) := by decide +kernel
theorem dX3_softBehind_1 : decode cX3_softBehind 1 = .ok (.invokevirtual 132, 3) := by decide +kernel
theorem dX3_softBehind_4 : decode cX3_softBehind 4 = .ok (.istore_n 3, 1) := by decide +kernel
theorem dX3_softBehind_5 : decode cX3_softBehind 5 = .ok (.iconst 0, 1) := by decide +kernel
theorem dX3_softBehind_6 : decode cX3_softBehind 6 = .ok (.istore 4, 2) := by decide +kernel
theorem dX3_softBehind_8 : decode cX3_softBehind 8 = .ok (.iconst 0, 1) := by decide +kernel
theorem dX3_softBehind_9 : decode cX3_softBehind 9 = .ok (.istore 5, 2) := by decide +kernel
theorem dX3_softBehind_11 : decode cX3_softBehind 11 = .ok (.iload 5, 2) := by decide +kernel
theorem dX3_softBehind_13 : decode cX3_softBehind 13 = .ok (.aload_n 0, 1) := by decide +kernel
theorem dX3_softBehind_14 : decode cX3_softBehind 14 = .ok (.getfield 9, 3) := by decide +kernel
theorem dX3_softBehind_17 : decode cX3_softBehind 17 = .ok (.if_icmp .ge 42, 3) := by decide +kernel
theorem dX3_softBehind_20 : decode cX3_softBehind 20 = .ok (.iload_n 3, 1) := by decide +kernel
theorem dX3_softBehind_21 : decode cX3_softBehind 21 = .ok (.iload 5, 2) := by decide +kernel
theorem dX3_softBehind_23 : decode cX3_softBehind 23 = .ok (.invokestatic 138, 3) := by decide +kernel
theorem dX3_softBehind_26 : decode cX3_softBehind 26 = .ok (.ifCond .ne 27, 3) := by decide +kernel
theorem dX3_softBehind_29 : decode cX3_softBehind 29 = .ok (.aload_n 0, 1) := by decide +kernel
theorem dX3_softBehind_30 : decode cX3_softBehind 30 = .ok (.getfield 24, 3) := by decide +kernel
theorem dX3_softBehind_33 : decode cX3_softBehind 33 = .ok (.iload 5, 2) := by decide +kernel
theorem dX3_softBehind_35 : decode cX3_softBehind 35 = .ok (.invokestatic 118, 3) := by decide +kernel
theorem dX3_softBehind_38 : decode cX3_softBehind 38 = .ok (.iload_n 1, 1) := by decide +kernel
theorem dX3_softBehind_39 : decode cX3_softBehind 39 = .ok (.aload_n 0, 1) := by decide +kernel
theorem dX3_softBehind_40 : decode cX3_softBehind 40 = .ok (.iload 5, 2) := by decide +kernel
theorem dX3_softBehind_42 : decode cX3_softBehind 42 = .ok (.iload_n 2, 1) := by decide +kernel
theorem dX3_softBehind_43 : decode cX3_softBehind 43 = .ok (.invokevirtual 175, 3) := by decide +kernel
theorem dX3_softBehind_46 : decode cX3_softBehind 46 = .ok (.imul, 1) := by decide +kernel
theorem dX3_softBehind_47 : decode cX3_softBehind 47 = .ok (.if_icmp .gt 6, 3) := by decide +kernel
theorem dX3_softBehind_50 : decode cX3_softBehind 50 = .ok (.iinc 4 1, 3) := by decide +kernel
theorem dX3_softBehind_53 : decode cX3_softBehind 53 = .ok (.iinc 5 1, 3) := by decide +kernel
theorem dX3_softBehind_56 : decode cX3_softBehind 56 = .ok (.goto (-45), 3) := by decide +kernel
theorem dX3_softBehind_59 : decode cX3_softBehind 59 = .ok (.iload 4, 2) := by decide +kernel
theorem dX3_softBehind_61 : decode cX3_softBehind 61 = .ok (.ireturn, 1) := by decide +kernel
theorem dX3_daysUntilSoft_0 : decode cX3_daysUntilSoft 0 = .ok (.iconst 0, 1) := by decide +kernel
theorem dX3_daysUntilSoft_1 : decode cX3_daysUntilSoft 1 = .ok (.istore_n 3, 1) := by decide +kernel
theorem dX3_daysUntilSoft_2 : decode cX3_daysUntilSoft 2 = .ok (.iload_n 3, 1) := by decide +kernel
theorem dX3_daysUntilSoft_3 : decode cX3_daysUntilSoft 3 = .ok (.sipush 999, 3) := by decide +kernel
theorem dX3_daysUntilSoft_6 : decode cX3_daysUntilSoft 6 = .ok (.if_icmp .gt 21, 3) := by decide +kernel
theorem dX3_daysUntilSoft_9 : decode cX3_daysUntilSoft 9 = .ok (.aload_n 0, 1) := by decide +kernel
theorem dX3_daysUntilSoft_10 : decode cX3_daysUntilSoft 10 = .ok (.iload_n 3, 1) := by decide +kernel
theorem dX3_daysUntilSoft_11 : decode cX3_daysUntilSoft 11 = .ok (.iload_n 2, 1) := by decide +kernel
theorem dX3_daysUntilSoft_12 : decode cX3_daysUntilSoft 12 = .ok (.invokevirtual 191, 3) := by decide +kernel
theorem dX3_daysUntilSoft_15 : decode cX3_daysUntilSoft 15 = .ok (.iload_n 1, 1) := by decide +kernel
theorem dX3_daysUntilSoft_16 : decode cX3_daysUntilSoft 16 = .ok (.if_icmp .lt 5, 3) := by decide +kernel
theorem dX3_daysUntilSoft_19 : decode cX3_daysUntilSoft 19 = .ok (.iload_n 3, 1) := by decide +kernel
theorem dX3_daysUntilSoft_20 : decode cX3_daysUntilSoft 20 = .ok (.ireturn, 1) := by decide +kernel
theorem dX3_daysUntilSoft_21 : decode cX3_daysUntilSoft 21 = .ok (.iinc 3 1, 3) := by decide +kernel
theorem dX3_daysUntilSoft_24 : decode cX3_daysUntilSoft 24 = .ok (.goto (-22), 3) := by decide +kernel
theorem dX3_daysUntilSoft_27 : decode cX3_daysUntilSoft 27 = .ok (.iconst (-1), 1) := by decide +kernel
theorem dX3_daysUntilSoft_28 : decode cX3_daysUntilSoft 28 = .ok (.ireturn, 1) := by decide +kernel
theorem dX4_init_0 : decode cX4_init 0 = .ok (.aload_n 0, 1) := by decide +kernel
theorem dX4_init_1 : decode cX4_init 1 = .ok (.invokespecial 3, 3) := by decide +kernel
theorem dX4_init_4 : decode cX4_init 4 = .ok (.aload_n 0, 1) := by decide +kernel
theorem dX4_init_5 : decode cX4_init 5 = .ok (.bipush 7, 2) := by decide +kernel
theorem dX4_init_7 : decode cX4_init 7 = .ok (.newarray .int, 2) := by decide +kernel
theorem dX4_init_9 : decode cX4_init 9 = .ok (.putfield 9, 3) := by decide +kernel
theorem dX4_init_12 : decode cX4_init 12 = .ok (.aload_n 0, 1) := by decide +kernel
theorem dX4_init_13 : decode cX4_init 13 = .ok (.bipush 7, 2) := by decide +kernel
theorem dX4_init_15 : decode cX4_init 15 = .ok (.newarray .int, 2) := by decide +kernel
theorem dX4_init_17 : decode cX4_init 17 = .ok (.putfield 15, 3) := by decide +kernel
theorem dX4_init_20 : decode cX4_init 20 = .ok (.aload_n 0, 1) := by decide +kernel
theorem dX4_init_21 : decode cX4_init 21 = .ok (.bipush 7, 2) := by decide +kernel
theorem dX4_init_23 : decode cX4_init 23 = .ok (.newarray .int, 2) := by decide +kernel
theorem dX4_init_25 : decode cX4_init 25 = .ok (.putfield 18, 3) := by decide +kernel
theorem dX4_init_28 : decode cX4_init 28 = .ok (.aload_n 0, 1) := by decide +kernel
theorem dX4_init_29 : decode cX4_init 29 = .ok (.bipush 7, 2) := by decide +kernel
theorem dX4_init_31 : decode cX4_init 31 = .ok (.newarray .int, 2) := by decide +kernel
theorem dX4_init_33 : decode cX4_init 33 = .ok (.putfield 21, 3) := by decide +kernel
theorem dX4_init_36 : decode cX4_init 36 = .ok (.aload_n 0, 1) := by decide +kernel
theorem dX4_init_37 : decode cX4_init 37 = .ok (.iconst 0, 1) := by decide +kernel
theorem dX4_init_38 : decode cX4_init 38 = .ok (.putfield 24, 3) := by decide +kernel
theorem dX4_init_41 : decode cX4_init 41 = .ok (.aload_n 0, 1) := by decide +kernel
theorem dX4_init_42 : decode cX4_init 42 = .ok (.iconst 0, 1) := by decide +kernel
theorem dX4_init_43 : decode cX4_init 43 = .ok (.putfield 28, 3) := by decide +kernel
theorem dX4_init_46 : decode cX4_init 46 = .ok (.return_, 1) := by decide +kernel
theorem dX4_begin_0 : decode cX4_begin 0 = .ok (.iconst 0, 1) := by decide +kernel
theorem dX4_begin_1 : decode cX4_begin 1 = .ok (.istore_n 3, 1) := by decide +kernel
theorem dX4_begin_2 : decode cX4_begin 2 = .ok (.iload_n 3, 1) := by decide +kernel
theorem dX4_begin_3 : decode cX4_begin 3 = .ok (.bipush 7, 2) := by decide +kernel
theorem dX4_begin_5 : decode cX4_begin 5 = .ok (.if_icmp .ge 152, 3) := by decide +kernel
theorem dX4_begin_8 : decode cX4_begin 8 = .ok (.aload_n 0, 1) := by decide +kernel
theorem dX4_begin_9 : decode cX4_begin 9 = .ok (.getfield 9, 3) := by decide +kernel
theorem dX4_begin_12 : decode cX4_begin 12 = .ok (.iload_n 3, 1) := by decide +kernel
theorem dX4_begin_13 : decode cX4_begin 13 = .ok (.iconst 0, 1) := by decide +kernel
theorem dX4_begin_14 : decode cX4_begin 14 = .ok (.invokestatic 32, 3) := by decide +kernel
theorem dX4_begin_17 : decode cX4_begin 17 = .ok (.aload_n 0, 1) := by decide +kernel
theorem dX4_begin_18 : decode cX4_begin 18 = .ok (.getfield 15, 3) := by decide +kernel
theorem dX4_begin_21 : decode cX4_begin 21 = .ok (.iload_n 3, 1) := by decide +kernel
theorem dX4_begin_22 : decode cX4_begin 22 = .ok (.iconst 0, 1) := by decide +kernel
theorem dX4_begin_23 : decode cX4_begin 23 = .ok (.invokestatic 32, 3) := by decide +kernel
theorem dX4_begin_26 : decode cX4_begin 26 = .ok (.aload_n 0, 1) := by decide +kernel
theorem dX4_begin_27 : decode cX4_begin 27 = .ok (.getfield 18, 3) := by decide +kernel
theorem dX4_begin_30 : decode cX4_begin 30 = .ok (.iload_n 3, 1) := by decide +kernel
theorem dX4_begin_31 : decode cX4_begin 31 = .ok (.aload_n 1, 1) := by decide +kernel
theorem dX4_begin_32 : decode cX4_begin 32 = .ok (.iload_n 3, 1) := by decide +kernel
theorem dX4_begin_33 : decode cX4_begin 33 = .ok (.invokevirtual 36, 3) := by decide +kernel
theorem dX4_begin_36 : decode cX4_begin 36 = .ok (.ifCond .eq 14, 3) := by decide +kernel
theorem dX4_begin_39 : decode cX4_begin 39 = .ok (.aload_n 1, 1) := by decide +kernel
theorem dX4_begin_40 : decode cX4_begin 40 = .ok (.getfield 42, 3) := by decide +kernel
theorem dX4_begin_43 : decode cX4_begin 43 = .ok (.iload_n 3, 1) := by decide +kernel
theorem dX4_begin_44 : decode cX4_begin 44 = .ok (.invokestatic 45, 3) := by decide +kernel
theorem dX4_begin_47 : decode cX4_begin 47 = .ok (.goto 4, 3) := by decide +kernel
theorem dX4_begin_50 : decode cX4_begin 50 = .ok (.iconst (-1), 1) := by decide +kernel
theorem dX4_begin_51 : decode cX4_begin 51 = .ok (.invokestatic 32, 3) := by decide +kernel
theorem dX4_begin_54 : decode cX4_begin 54 = .ok (.iconst 0, 1) := by decide +kernel
theorem dX4_begin_55 : decode cX4_begin 55 = .ok (.istore 4, 2) := by decide +kernel
theorem dX4_begin_57 : decode cX4_begin 57 = .ok (.iload 4, 2) := by decide +kernel
theorem dX4_begin_59 : decode cX4_begin 59 = .ok (.bipush 7, 2) := by decide +kernel
theorem dX4_begin_61 : decode cX4_begin 61 = .ok (.if_icmp .ge 90, 3) := by decide +kernel
theorem dX4_begin_64 : decode cX4_begin 64 = .ok (.aload_n 1, 1) := by decide +kernel
theorem dX4_begin_65 : decode cX4_begin 65 = .ok (.aload_n 2, 1) := by decide +kernel
theorem dX4_begin_66 : decode cX4_begin 66 = .ok (.iload_n 3, 1) := by decide +kernel
theorem dX4_begin_67 : decode cX4_begin 67 = .ok (.invokevirtual 49, 3) := by decide +kernel
theorem dX4_begin_70 : decode cX4_begin 70 = .ok (.aload_n 1, 1) := by decide +kernel
theorem dX4_begin_71 : decode cX4_begin 71 = .ok (.aload_n 2, 1) := by decide +kernel
theorem dX4_begin_72 : decode cX4_begin 72 = .ok (.iload 4, 2) := by decide +kernel
theorem dX4_begin_74 : decode cX4_begin 74 = .ok (.invokevirtual 49, 3) := by decide +kernel
theorem dX4_begin_77 : decode cX4_begin 77 = .ok (.lcmp, 1) := by decide +kernel
theorem dX4_begin_78 : decode cX4_begin 78 = .ok (.ifCond .le 25, 3) := by decide +kernel
theorem dX4_begin_81 : decode cX4_begin 81 = .ok (.aload_n 0, 1) := by decide +kernel
theorem dX4_begin_82 : decode cX4_begin 82 = .ok (.getfield 9, 3) := by decide +kernel
theorem dX4_begin_85 : decode cX4_begin 85 = .ok (.iload_n 3, 1) := by decide +kernel
theorem dX4_begin_86 : decode cX4_begin 86 = .ok (.aload_n 0, 1) := by decide +kernel
theorem dX4_begin_87 : decode cX4_begin 87 = .ok (.getfield 9, 3) := by decide +kernel
theorem dX4_begin_90 : decode cX4_begin 90 = .ok (.iload_n 3, 1) := by decide +kernel
theorem dX4_begin_91 : decode cX4_begin 91 = .ok (.invokestatic 45, 3) := by decide +kernel
theorem dX4_begin_94 : decode cX4_begin 94 = .ok (.iload 4, 2) := by decide +kernel
theorem dX4_begin_96 : decode cX4_begin 96 = .ok (.invokestatic 53, 3) := by decide +kernel
theorem dX4_begin_99 : decode cX4_begin 99 = .ok (.ior, 1) := by decide +kernel
theorem dX4_begin_100 : decode cX4_begin 100 = .ok (.invokestatic 32, 3) := by decide +kernel
theorem dX4_begin_103 : decode cX4_begin 103 = .ok (.aload_n 1, 1) := by decide +kernel
theorem dX4_begin_104 : decode cX4_begin 104 = .ok (.getfield 57, 3) := by decide +kernel
theorem dX4_begin_107 : decode cX4_begin 107 = .ok (.iload_n 3, 1) := by decide +kernel
theorem dX4_begin_108 : decode cX4_begin 108 = .ok (.invokestatic 45, 3) := by decide +kernel
theorem dX4_begin_111 : decode cX4_begin 111 = .ok (.aload_n 1, 1) := by decide +kernel
theorem dX4_begin_112 : decode cX4_begin 112 = .ok (.getfield 57, 3) := by decide +kernel
theorem dX4_begin_115 : decode cX4_begin 115 = .ok (.iload 4, 2) := by decide +kernel
theorem dX4_begin_117 : decode cX4_begin 117 = .ok (.invokestatic 45, 3) := by decide +kernel
theorem dX4_begin_120 : decode cX4_begin 120 = .ok (.if_icmp .ne 25, 3) := by decide +kernel
theorem dX4_begin_123 : decode cX4_begin 123 = .ok (.aload_n 0, 1) := by decide +kernel
theorem dX4_begin_124 : decode cX4_begin 124 = .ok (.getfield 15, 3) := by decide +kernel
theorem dX4_begin_127 : decode cX4_begin 127 = .ok (.iload_n 3, 1) := by decide +kernel
theorem dX4_begin_128 : decode cX4_begin 128 = .ok (.aload_n 0, 1) := by decide +kernel
theorem dX4_begin_129 : decode cX4_begin 129 = .ok (.getfield 15, 3) := by decide +kernel
theorem dX4_begin_132 : decode cX4_begin 132 = .ok (.iload_n 3, 1) := by decide +kernel
theorem dX4_begin_133 : decode cX4_begin 133 = .ok (.invokestatic 45, 3) := by decide +kernel
theorem dX4_begin_136 : decode cX4_begin 136 = .ok (.iload 4, 2) := by decide +kernel
theorem dX4_begin_138 : decode cX4_begin 138 = .ok (.invokestatic 53, 3) := by decide +kernel
theorem dX4_begin_141 : decode cX4_begin 141 = .ok (.ior, 1) := by decide +kernel
theorem dX4_begin_142 : decode cX4_begin 142 = .ok (.invokestatic 32, 3) := by decide +kernel
theorem dX4_begin_145 : decode cX4_begin 145 = .ok (.iinc 4 1, 3) := by decide +kernel
theorem dX4_begin_148 : decode cX4_begin 148 = .ok (.goto (-91), 3) := by decide +kernel
theorem dX4_begin_151 : decode cX4_begin 151 = .ok (.iinc 3 1, 3) := by decide +kernel
theorem dX4_begin_154 : decode cX4_begin 154 = .ok (.goto (-152), 3) := by decide +kernel
theorem dX4_begin_157 : decode cX4_begin 157 = .ok (.return_, 1) := by decide +kernel
theorem dX4_offends_0 : decode cX4_offends 0 = .ok (.aload_n 0, 1) := by decide +kernel
theorem dX4_offends_1 : decode cX4_offends 1 = .ok (.getfield 9, 3) := by decide +kernel
theorem dX4_offends_4 : decode cX4_offends 4 = .ok (.iload_n 2, 1) := by decide +kernel
theorem dX4_offends_5 : decode cX4_offends 5 = .ok (.invokestatic 45, 3) := by decide +kernel
theorem dX4_offends_8 : decode cX4_offends 8 = .ok (.iload_n 1, 1) := by decide +kernel
theorem dX4_offends_9 : decode cX4_offends 9 = .ok (.invokestatic 60, 3) := by decide +kernel
theorem dX4_offends_12 : decode cX4_offends 12 = .ok (.ifCond .eq 26, 3) := by decide +kernel
theorem dX4_offends_15 : decode cX4_offends 15 = .ok (.aload_n 0, 1) := by decide +kernel
theorem dX4_offends_16 : decode cX4_offends 16 = .ok (.getfield 18, 3) := by decide +kernel
theorem dX4_offends_19 : decode cX4_offends 19 = .ok (.iload_n 1, 1) := by decide +kernel
theorem dX4_offends_20 : decode cX4_offends 20 = .ok (.invokestatic 45, 3) := by decide +kernel
theorem dX4_offends_23 : decode cX4_offends 23 = .ok (.aload_n 0, 1) := by decide +kernel
theorem dX4_offends_24 : decode cX4_offends 24 = .ok (.getfield 18, 3) := by decide +kernel
theorem dX4_offends_27 : decode cX4_offends 27 = .ok (.iload_n 2, 1) := by decide +kernel
theorem dX4_offends_28 : decode cX4_offends 28 = .ok (.invokestatic 45, 3) := by decide +kernel
theorem dX4_offends_31 : decode cX4_offends 31 = .ok (.if_icmp .ge 7, 3) := by decide +kernel
theorem dX4_offends_34 : decode cX4_offends 34 = .ok (.iconst 1, 1) := by decide +kernel
theorem dX4_offends_35 : decode cX4_offends 35 = .ok (.goto 4, 3) := by decide +kernel
theorem dX4_offends_38 : decode cX4_offends 38 = .ok (.iconst 0, 1) := by decide +kernel
theorem dX4_offends_39 : decode cX4_offends 39 = .ok (.ireturn, 1) := by decide +kernel
theorem dX4_whoOffends_0 : decode cX4_whoOffends 0 = .ok (.iconst 0, 1) := by decide +kernel
theorem dX4_whoOffends_1 : decode cX4_whoOffends 1 = .ok (.istore_n 2, 1) := by decide +kernel
theorem dX4_whoOffends_2 : decode cX4_whoOffends 2 = .ok (.iconst 0, 1) := by decide +kernel
theorem dX4_whoOffends_3 : decode cX4_whoOffends 3 = .ok (.istore_n 3, 1) := by decide +kernel
theorem dX4_whoOffends_4 : decode cX4_whoOffends 4 = .ok (.iload_n 3, 1) := by decide +kernel
theorem dX4_whoOffends_5 : decode cX4_whoOffends 5 = .ok (.bipush 7, 2) := by decide +kernel
theorem dX4_whoOffends_7 : decode cX4_whoOffends 7 = .ok (.if_icmp .ge 37, 3) := by decide +kernel
theorem dX4_whoOffends_10 : decode cX4_whoOffends 10 = .ok (.aload_n 0, 1) := by decide +kernel
theorem dX4_whoOffends_11 : decode cX4_whoOffends 11 = .ok (.getfield 18, 3) := by decide +kernel
theorem dX4_whoOffends_14 : decode cX4_whoOffends 14 = .ok (.iload_n 3, 1) := by decide +kernel
theorem dX4_whoOffends_15 : decode cX4_whoOffends 15 = .ok (.invokestatic 45, 3) := by decide +kernel
theorem dX4_whoOffends_18 : decode cX4_whoOffends 18 = .ok (.iconst (-1), 1) := by decide +kernel
theorem dX4_whoOffends_19 : decode cX4_whoOffends 19 = .ok (.if_icmp .eq 19, 3) := by decide +kernel
theorem dX4_whoOffends_22 : decode cX4_whoOffends 22 = .ok (.aload_n 0, 1) := by decide +kernel
theorem dX4_whoOffends_23 : decode cX4_whoOffends 23 = .ok (.iload_n 3, 1) := by decide +kernel
theorem dX4_whoOffends_24 : decode cX4_whoOffends 24 = .ok (.iload_n 1, 1) := by decide +kernel
theorem dX4_whoOffends_25 : decode cX4_whoOffends 25 = .ok (.invokevirtual 64, 3) := by decide +kernel
theorem dX4_whoOffends_28 : decode cX4_whoOffends 28 = .ok (.ifCond .eq 10, 3) := by decide +kernel
theorem dX4_whoOffends_31 : decode cX4_whoOffends 31 = .ok (.iload_n 2, 1) := by decide +kernel
theorem dX4_whoOffends_32 : decode cX4_whoOffends 32 = .ok (.iload_n 3, 1) := by decide +kernel
theorem dX4_whoOffends_33 : decode cX4_whoOffends 33 = .ok (.invokestatic 53, 3) := by decide +kernel
theorem dX4_whoOffends_36 : decode cX4_whoOffends 36 = .ok (.ior, 1) := by decide +kernel
theorem dX4_whoOffends_37 : decode cX4_whoOffends 37 = .ok (.istore_n 2, 1) := by decide +kernel
theorem dX4_whoOffends_38 : decode cX4_whoOffends 38 = .ok (.iinc 3 1, 3) := by decide +kernel
theorem dX4_whoOffends_41 : decode cX4_whoOffends 41 = .ok (.goto (-37), 3) := by decide +kernel
theorem dX4_whoOffends_44 : decode cX4_whoOffends 44 = .ok (.iload_n 2, 1) := by decide +kernel
theorem dX4_whoOffends_45 : decode cX4_whoOffends 45 = .ok (.ireturn, 1) := by decide +kernel
theorem dX4_quarrelsOf_0 : decode cX4_quarrelsOf 0 = .ok (.aload_n 0, 1) := by decide +kernel
theorem dX4_quarrelsOf_1 : decode cX4_quarrelsOf 1 = .ok (.iload_n 2, 1) := by decide +kernel
theorem dX4_quarrelsOf_2 : decode cX4_quarrelsOf 2 = .ok (.iload_n 1, 1) := by decide +kernel
theorem dX4_quarrelsOf_3 : decode cX4_quarrelsOf 3 = .ok (.invokevirtual 64, 3) := by decide +kernel
theorem dX4_quarrelsOf_6 : decode cX4_quarrelsOf 6 = .ok (.ifCond .ne 12, 3) := by decide +kernel
theorem dX4_quarrelsOf_9 : decode cX4_quarrelsOf 9 = .ok (.aload_n 0, 1) := by decide +kernel
theorem dX4_quarrelsOf_10 : decode cX4_quarrelsOf 10 = .ok (.iload_n 1, 1) := by decide +kernel
theorem dX4_quarrelsOf_11 : decode cX4_quarrelsOf 11 = .ok (.iload_n 2, 1) := by decide +kernel
theorem dX4_quarrelsOf_12 : decode cX4_quarrelsOf 12 = .ok (.invokevirtual 64, 3) := by decide +kernel
theorem dX4_quarrelsOf_15 : decode cX4_quarrelsOf 15 = .ok (.ifCond .eq 7, 3) := by decide +kernel
theorem dX4_quarrelsOf_18 : decode cX4_quarrelsOf 18 = .ok (.iconst 1, 1) := by decide +kernel
theorem dX4_quarrelsOf_19 : decode cX4_quarrelsOf 19 = .ok (.goto 4, 3) := by decide +kernel
theorem dX4_quarrelsOf_22 : decode cX4_quarrelsOf 22 = .ok (.iconst 0, 1) := by decide +kernel
theorem dX4_quarrelsOf_23 : decode cX4_quarrelsOf 23 = .ok (.istore_n 3, 1) := by decide +kernel
theorem dX4_quarrelsOf_24 : decode cX4_quarrelsOf 24 = .ok (.aload_n 0, 1) := by decide +kernel
theorem dX4_quarrelsOf_25 : decode cX4_quarrelsOf 25 = .ok (.getfield 18, 3) := by decide +kernel
theorem dX4_quarrelsOf_28 : decode cX4_quarrelsOf 28 = .ok (.iload_n 1, 1) := by decide +kernel
theorem dX4_quarrelsOf_29 : decode cX4_quarrelsOf 29 = .ok (.invokestatic 45, 3) := by decide +kernel
theorem dX4_quarrelsOf_32 : decode cX4_quarrelsOf 32 = .ok (.aload_n 0, 1) := by decide +kernel
theorem dX4_quarrelsOf_33 : decode cX4_quarrelsOf 33 = .ok (.getfield 18, 3) := by decide +kernel
theorem dX4_quarrelsOf_36 : decode cX4_quarrelsOf 36 = .ok (.iload_n 2, 1) := by decide +kernel
theorem dX4_quarrelsOf_37 : decode cX4_quarrelsOf 37 = .ok (.invokestatic 45, 3) := by decide +kernel
theorem dX4_quarrelsOf_40 : decode cX4_quarrelsOf 40 = .ok (.isub, 1) := by decide +kernel
theorem dX4_quarrelsOf_41 : decode cX4_quarrelsOf 41 = .ok (.invokestatic 67, 3) := by decide +kernel
theorem dX4_quarrelsOf_44 : decode cX4_quarrelsOf 44 = .ok (.iconst 1, 1) := by decide +kernel
theorem dX4_quarrelsOf_45 : decode cX4_quarrelsOf 45 = .ok (.if_icmp .ne 7, 3) := by decide +kernel
theorem dX4_quarrelsOf_48 : decode cX4_quarrelsOf 48 = .ok (.iconst 1, 1) := by decide +kernel
theorem dX4_quarrelsOf_49 : decode cX4_quarrelsOf 49 = .ok (.goto 4, 3) := by decide +kernel
theorem dX4_quarrelsOf_52 : decode cX4_quarrelsOf 52 = .ok (.iconst 0, 1) := by decide +kernel
theorem dX4_quarrelsOf_53 : decode cX4_quarrelsOf 53 = .ok (.istore 4, 2) := by decide +kernel
theorem dX4_quarrelsOf_55 : decode cX4_quarrelsOf 55 = .ok (.aload_n 0, 1) := by decide +kernel
theorem dX4_quarrelsOf_56 : decode cX4_quarrelsOf 56 = .ok (.getfield 15, 3) := by decide +kernel
theorem dX4_quarrelsOf_59 : decode cX4_quarrelsOf 59 = .ok (.iload_n 1, 1) := by decide +kernel
theorem dX4_quarrelsOf_60 : decode cX4_quarrelsOf 60 = .ok (.invokestatic 45, 3) := by decide +kernel
theorem dX4_quarrelsOf_63 : decode cX4_quarrelsOf 63 = .ok (.iload_n 2, 1) := by decide +kernel
theorem dX4_quarrelsOf_64 : decode cX4_quarrelsOf 64 = .ok (.invokestatic 60, 3) := by decide +kernel
theorem dX4_quarrelsOf_67 : decode cX4_quarrelsOf 67 = .ok (.ifCond .eq 14, 3) := by decide +kernel
theorem dX4_quarrelsOf_70 : decode cX4_quarrelsOf 70 = .ok (.iload 4, 2) := by decide +kernel
theorem dX4_quarrelsOf_72 : decode cX4_quarrelsOf 72 = .ok (.ifCond .ne 9, 3) := by decide +kernel
theorem dX4_quarrelsOf_75 : decode cX4_quarrelsOf 75 = .ok (.iload_n 3, 1) := by decide +kernel
theorem dX4_quarrelsOf_76 : decode cX4_quarrelsOf 76 = .ok (.iconst 1, 1) := by decide +kernel
theorem dX4_quarrelsOf_77 : decode cX4_quarrelsOf 77 = .ok (.iadd, 1) := by decide +kernel
theorem dX4_quarrelsOf_78 : decode cX4_quarrelsOf 78 = .ok (.goto 4, 3) := by decide +kernel
theorem dX4_quarrelsOf_81 : decode cX4_quarrelsOf 81 = .ok (.iload_n 3, 1) := by decide +kernel
theorem dX4_quarrelsOf_82 : decode cX4_quarrelsOf 82 = .ok (.ireturn, 1) := by decide +kernel
theorem dX4_quarrelsAmong_0 : decode cX4_quarrelsAmong 0 = .ok (.iconst 0, 1) := by decide +kernel
theorem dX4_quarrelsAmong_1 : decode cX4_quarrelsAmong 1 = .ok (.istore_n 3, 1) := by decide +kernel
theorem dX4_quarrelsAmong_2 : decode cX4_quarrelsAmong 2 = .ok (.iconst 0, 1) := by decide +kernel
theorem dX4_quarrelsAmong_3 : decode cX4_quarrelsAmong 3 = .ok (.istore 4, 2) := by decide +kernel
theorem dX4_quarrelsAmong_5 : decode cX4_quarrelsAmong 5 = .ok (.iload 4, 2) := by decide +kernel
theorem dX4_quarrelsAmong_7 : decode cX4_quarrelsAmong 7 = .ok (.iload_n 2, 1) := by decide +kernel
theorem dX4_quarrelsAmong_8 : decode cX4_quarrelsAmong 8 = .ok (.if_icmp .ge 38, 3) := by decide +kernel
theorem dX4_quarrelsAmong_11 : decode cX4_quarrelsAmong 11 = .ok (.iload 4, 2) := by decide +kernel
theorem dX4_quarrelsAmong_13 : decode cX4_quarrelsAmong 13 = .ok (.iload_n 1, 1) := by decide +kernel
theorem dX4_quarrelsAmong_14 : decode cX4_quarrelsAmong 14 = .ok (.if_icmp .eq 26, 3) := by decide +kernel
theorem dX4_quarrelsAmong_17 : decode cX4_quarrelsAmong 17 = .ok (.aload_n 0, 1) := by decide +kernel
theorem dX4_quarrelsAmong_18 : decode cX4_quarrelsAmong 18 = .ok (.getfield 18, 3) := by decide +kernel
theorem dX4_quarrelsAmong_21 : decode cX4_quarrelsAmong 21 = .ok (.iload 4, 2) := by decide +kernel
theorem dX4_quarrelsAmong_23 : decode cX4_quarrelsAmong 23 = .ok (.invokestatic 45, 3) := by decide +kernel
theorem dX4_quarrelsAmong_26 : decode cX4_quarrelsAmong 26 = .ok (.iconst (-1), 1) := by decide +kernel
theorem dX4_quarrelsAmong_27 : decode cX4_quarrelsAmong 27 = .ok (.if_icmp .eq 13, 3) := by decide +kernel
theorem dX4_quarrelsAmong_30 : decode cX4_quarrelsAmong 30 = .ok (.iload_n 3, 1) := by decide +kernel
theorem dX4_quarrelsAmong_31 : decode cX4_quarrelsAmong 31 = .ok (.aload_n 0, 1) := by decide +kernel
theorem dX4_quarrelsAmong_32 : decode cX4_quarrelsAmong 32 = .ok (.iload_n 1, 1) := by decide +kernel
theorem dX4_quarrelsAmong_33 : decode cX4_quarrelsAmong 33 = .ok (.iload 4, 2) := by decide +kernel
theorem dX4_quarrelsAmong_35 : decode cX4_quarrelsAmong 35 = .ok (.invokevirtual 72, 3) := by decide +kernel
theorem dX4_quarrelsAmong_38 : decode cX4_quarrelsAmong 38 = .ok (.iadd, 1) := by decide +kernel
theorem dX4_quarrelsAmong_39 : decode cX4_quarrelsAmong 39 = .ok (.istore_n 3, 1) := by decide +kernel
theorem dX4_quarrelsAmong_40 : decode cX4_quarrelsAmong 40 = .ok (.iinc 4 1, 3) := by decide +kernel
theorem dX4_quarrelsAmong_43 : decode cX4_quarrelsAmong 43 = .ok (.goto (-38), 3) := by decide +kernel
theorem dX4_quarrelsAmong_46 : decode cX4_quarrelsAmong 46 = .ok (.iload_n 3, 1) := by decide +kernel
theorem dX4_quarrelsAmong_47 : decode cX4_quarrelsAmong 47 = .ok (.ireturn, 1) := by decide +kernel
theorem dX4_quarrelsNow_0 : decode cX4_quarrelsNow 0 = .ok (.iconst 0, 1) := by decide +kernel
theorem dX4_quarrelsNow_1 : decode cX4_quarrelsNow 1 = .ok (.istore_n 1, 1) := by decide +kernel
theorem dX4_quarrelsNow_2 : decode cX4_quarrelsNow 2 = .ok (.iconst 0, 1) := by decide +kernel
theorem dX4_quarrelsNow_3 : decode cX4_quarrelsNow 3 = .ok (.istore_n 2, 1) := by decide +kernel
theorem dX4_quarrelsNow_4 : decode cX4_quarrelsNow 4 = .ok (.iload_n 2, 1) := by decide +kernel
theorem dX4_quarrelsNow_5 : decode cX4_quarrelsNow 5 = .ok (.bipush 7, 2) := by decide +kernel
theorem dX4_quarrelsNow_7 : decode cX4_quarrelsNow 7 = .ok (.if_icmp .ge 30, 3) := by decide +kernel
theorem dX4_quarrelsNow_10 : decode cX4_quarrelsNow 10 = .ok (.aload_n 0, 1) := by decide +kernel
theorem dX4_quarrelsNow_11 : decode cX4_quarrelsNow 11 = .ok (.getfield 18, 3) := by decide +kernel
theorem dX4_quarrelsNow_14 : decode cX4_quarrelsNow 14 = .ok (.iload_n 2, 1) := by decide +kernel
theorem dX4_quarrelsNow_15 : decode cX4_quarrelsNow 15 = .ok (.invokestatic 45, 3) := by decide +kernel
theorem dX4_quarrelsNow_18 : decode cX4_quarrelsNow 18 = .ok (.iconst (-1), 1) := by decide +kernel
theorem dX4_quarrelsNow_19 : decode cX4_quarrelsNow 19 = .ok (.if_icmp .eq 12, 3) := by decide +kernel
theorem dX4_quarrelsNow_22 : decode cX4_quarrelsNow 22 = .ok (.iload_n 1, 1) := by decide +kernel
theorem dX4_quarrelsNow_23 : decode cX4_quarrelsNow 23 = .ok (.aload_n 0, 1) := by decide +kernel
theorem dX4_quarrelsNow_24 : decode cX4_quarrelsNow 24 = .ok (.iload_n 2, 1) := by decide +kernel
theorem dX4_quarrelsNow_25 : decode cX4_quarrelsNow 25 = .ok (.iload_n 2, 1) := by decide +kernel
theorem dX4_quarrelsNow_26 : decode cX4_quarrelsNow 26 = .ok (.invokevirtual 76, 3) := by decide +kernel
theorem dX4_quarrelsNow_29 : decode cX4_quarrelsNow 29 = .ok (.iadd, 1) := by decide +kernel
theorem dX4_quarrelsNow_30 : decode cX4_quarrelsNow 30 = .ok (.istore_n 1, 1) := by decide +kernel
theorem dX4_quarrelsNow_31 : decode cX4_quarrelsNow 31 = .ok (.iinc 2 1, 3) := by decide +kernel
theorem dX4_quarrelsNow_34 : decode cX4_quarrelsNow 34 = .ok (.goto (-30), 3) := by decide +kernel
theorem dX4_quarrelsNow_37 : decode cX4_quarrelsNow 37 = .ok (.iload_n 1, 1) := by decide +kernel
theorem dX4_quarrelsNow_38 : decode cX4_quarrelsNow 38 = .ok (.ireturn, 1) := by decide +kernel
theorem dX4_find_0 : decode cX4_find 0 = .ok (.aload_n 0, 1) := by decide +kernel
theorem dX4_find_1 : decode cX4_find 1 = .ok (.iconst 0, 1) := by decide +kernel
theorem dX4_find_2 : decode cX4_find 2 = .ok (.putfield 28, 3) := by decide +kernel
theorem dX4_find_5 : decode cX4_find 5 = .ok (.iload_n 1, 1) := by decide +kernel
theorem dX4_find_6 : decode cX4_find 6 = .ok (.invokestatic 79, 3) := by decide +kernel
theorem dX4_find_9 : decode cX4_find 9 = .ok (.iload_n 2, 1) := by decide +kernel
theorem dX4_find_10 : decode cX4_find 10 = .ok (.invokestatic 79, 3) := by decide +kernel
theorem dX4_find_13 : decode cX4_find 13 = .ok (.if_icmp .gt 14, 3) := by decide +kernel
theorem dX4_find_16 : decode cX4_find 16 = .ok (.aload_n 0, 1) := by decide +kernel
theorem dX4_find_17 : decode cX4_find 17 = .ok (.iconst 0, 1) := by decide +kernel
theorem dX4_find_18 : decode cX4_find 18 = .ok (.iload_n 1, 1) := by decide +kernel
theorem dX4_find_19 : decode cX4_find 19 = .ok (.iload_n 2, 1) := by decide +kernel
theorem dX4_find_20 : decode cX4_find 20 = .ok (.aload_n 0, 1) := by decide +kernel
theorem dX4_find_21 : decode cX4_find 21 = .ok (.invokevirtual 84, 3) := by decide +kernel
theorem dX4_find_24 : decode cX4_find 24 = .ok (.invokestatic 88, 3) := by decide +kernel
theorem dX4_find_27 : decode cX4_find 27 = .ok (.return_, 1) := by decide +kernel
theorem dX4_search_0 : decode cX4_search 0 = .ok (.aload_n 0, 1) := by decide +kernel
theorem dX4_search_1 : decode cX4_search 1 = .ok (.getfield 28, 3) := by decide +kernel
theorem dX4_search_4 : decode cX4_search 4 = .ok (.ifCond .eq 13, 3) := by decide +kernel
theorem dX4_search_7 : decode cX4_search 7 = .ok (.iload 4, 2) := by decide +kernel
theorem dX4_search_9 : decode cX4_search 9 = .ok (.aload_n 0, 1) := by decide +kernel
theorem dX4_search_10 : decode cX4_search 10 = .ok (.getfield 24, 3) := by decide +kernel
theorem dX4_search_13 : decode cX4_search 13 = .ok (.if_icmp .lt 4, 3) := by decide +kernel
theorem dX4_search_16 : decode cX4_search 16 = .ok (.return_, 1) := by decide +kernel
theorem dX4_search_17 : decode cX4_search 17 = .ok (.iload_n 1, 1) := by decide +kernel
theorem dX4_search_18 : decode cX4_search 18 = .ok (.bipush 7, 2) := by decide +kernel
theorem dX4_search_20 : decode cX4_search 20 = .ok (.if_icmp .lt 26, 3) := by decide +kernel
theorem dX4_search_23 : decode cX4_search 23 = .ok (.aload_n 0, 1) := by decide +kernel
theorem dX4_search_24 : decode cX4_search 24 = .ok (.iconst 1, 1) := by decide +kernel
theorem dX4_search_25 : decode cX4_search 25 = .ok (.putfield 28, 3) := by decide +kernel
theorem dX4_search_28 : decode cX4_search 28 = .ok (.aload_n 0, 1) := by decide +kernel
theorem dX4_search_29 : decode cX4_search 29 = .ok (.iload 4, 2) := by decide +kernel
theorem dX4_search_31 : decode cX4_search 31 = .ok (.putfield 24, 3) := by decide +kernel
theorem dX4_search_34 : decode cX4_search 34 = .ok (.aload_n 0, 1) := by decide +kernel
theorem dX4_search_35 : decode cX4_search 35 = .ok (.getfield 18, 3) := by decide +kernel
theorem dX4_search_38 : decode cX4_search 38 = .ok (.aload_n 0, 1) := by decide +kernel
theorem dX4_search_39 : decode cX4_search 39 = .ok (.getfield 21, 3) := by decide +kernel
theorem dX4_search_42 : decode cX4_search 42 = .ok (.invokestatic 92, 3) := by decide +kernel
theorem dX4_search_45 : decode cX4_search 45 = .ok (.return_, 1) := by decide +kernel
theorem dX4_search_46 : decode cX4_search 46 = .ok (.iload_n 2, 1) := by decide +kernel
theorem dX4_search_47 : decode cX4_search 47 = .ok (.iload_n 1, 1) := by decide +kernel
theorem dX4_search_48 : decode cX4_search 48 = .ok (.invokestatic 60, 3) := by decide +kernel
theorem dX4_search_51 : decode cX4_search 51 = .ok (.ifCond .ne 15, 3) := by decide +kernel
theorem dX4_search_54 : decode cX4_search 54 = .ok (.aload_n 0, 1) := by decide +kernel
theorem dX4_search_55 : decode cX4_search 55 = .ok (.iload_n 1, 1) := by decide +kernel
theorem dX4_search_56 : decode cX4_search 56 = .ok (.iconst 1, 1) := by decide +kernel
theorem dX4_search_57 : decode cX4_search 57 = .ok (.iadd, 1) := by decide +kernel
theorem dX4_search_58 : decode cX4_search 58 = .ok (.iload_n 2, 1) := by decide +kernel
theorem dX4_search_59 : decode cX4_search 59 = .ok (.iload_n 3, 1) := by decide +kernel
theorem dX4_search_60 : decode cX4_search 60 = .ok (.iload 4, 2) := by decide +kernel
theorem dX4_search_62 : decode cX4_search 62 = .ok (.invokestatic 88, 3) := by decide +kernel
theorem dX4_search_65 : decode cX4_search 65 = .ok (.return_, 1) := by decide +kernel
theorem dX4_search_66 : decode cX4_search 66 = .ok (.iconst 0, 1) := by decide +kernel
theorem dX4_search_67 : decode cX4_search 67 = .ok (.istore 5, 2) := by decide +kernel
theorem dX4_search_69 : decode cX4_search 69 = .ok (.iload 5, 2) := by decide +kernel
theorem dX4_search_71 : decode cX4_search 71 = .ok (.bipush 8, 2) := by decide +kernel
theorem dX4_search_73 : decode cX4_search 73 = .ok (.if_icmp .ge 58, 3) := by decide +kernel
theorem dX4_search_76 : decode cX4_search 76 = .ok (.iload_n 3, 1) := by decide +kernel
theorem dX4_search_77 : decode cX4_search 77 = .ok (.iload 5, 2) := by decide +kernel
theorem dX4_search_79 : decode cX4_search 79 = .ok (.invokestatic 60, 3) := by decide +kernel
theorem dX4_search_82 : decode cX4_search 82 = .ok (.ifCond .ne 6, 3) := by decide +kernel
theorem dX4_search_85 : decode cX4_search 85 = .ok (.goto 40, 3) := by decide +kernel
theorem dX4_search_88 : decode cX4_search 88 = .ok (.aload_n 0, 1) := by decide +kernel
theorem dX4_search_89 : decode cX4_search 89 = .ok (.getfield 18, 3) := by decide +kernel
theorem dX4_search_92 : decode cX4_search 92 = .ok (.iload_n 1, 1) := by decide +kernel
theorem dX4_search_93 : decode cX4_search 93 = .ok (.iload 5, 2) := by decide +kernel
theorem dX4_search_95 : decode cX4_search 95 = .ok (.invokestatic 32, 3) := by decide +kernel
theorem dX4_search_98 : decode cX4_search 98 = .ok (.aload_n 0, 1) := by decide +kernel
theorem dX4_search_99 : decode cX4_search 99 = .ok (.iload_n 1, 1) := by decide +kernel
theorem dX4_search_100 : decode cX4_search 100 = .ok (.iconst 1, 1) := by decide +kernel
theorem dX4_search_101 : decode cX4_search 101 = .ok (.iadd, 1) := by decide +kernel
theorem dX4_search_102 : decode cX4_search 102 = .ok (.iload_n 2, 1) := by decide +kernel
theorem dX4_search_103 : decode cX4_search 103 = .ok (.iload_n 3, 1) := by decide +kernel
theorem dX4_search_104 : decode cX4_search 104 = .ok (.iload 5, 2) := by decide +kernel
theorem dX4_search_106 : decode cX4_search 106 = .ok (.invokestatic 53, 3) := by decide +kernel
theorem dX4_search_109 : decode cX4_search 109 = .ok (.iconst (-1), 1) := by decide +kernel
theorem dX4_search_110 : decode cX4_search 110 = .ok (.ixor, 1) := by decide +kernel
theorem dX4_search_111 : decode cX4_search 111 = .ok (.iand, 1) := by decide +kernel
theorem dX4_search_112 : decode cX4_search 112 = .ok (.iload 4, 2) := by decide +kernel
theorem dX4_search_114 : decode cX4_search 114 = .ok (.aload_n 0, 1) := by decide +kernel
theorem dX4_search_115 : decode cX4_search 115 = .ok (.iload_n 1, 1) := by decide +kernel
theorem dX4_search_116 : decode cX4_search 116 = .ok (.bipush 7, 2) := by decide +kernel
theorem dX4_search_118 : decode cX4_search 118 = .ok (.invokevirtual 76, 3) := by decide +kernel
theorem dX4_search_121 : decode cX4_search 121 = .ok (.iadd, 1) := by decide +kernel
theorem dX4_search_122 : decode cX4_search 122 = .ok (.invokestatic 88, 3) := by decide +kernel
theorem dX4_search_125 : decode cX4_search 125 = .ok (.iinc 5 1, 3) := by decide +kernel
theorem dX4_search_128 : decode cX4_search 128 = .ok (.goto (-59), 3) := by decide +kernel
theorem dX4_search_131 : decode cX4_search 131 = .ok (.aload_n 0, 1) := by decide +kernel
theorem dX4_search_132 : decode cX4_search 132 = .ok (.getfield 18, 3) := by decide +kernel
theorem dX4_search_135 : decode cX4_search 135 = .ok (.iload_n 1, 1) := by decide +kernel
theorem dX4_search_136 : decode cX4_search 136 = .ok (.iconst (-1), 1) := by decide +kernel
theorem dX4_search_137 : decode cX4_search 137 = .ok (.invokestatic 32, 3) := by decide +kernel
theorem dX4_search_140 : decode cX4_search 140 = .ok (.return_, 1) := by decide +kernel
theorem dX5_init_0 : decode cX5_init 0 = .ok (.aload_n 0, 1) := by decide +kernel
theorem dX5_init_1 : decode cX5_init 1 = .ok (.invokespecial 3, 3) := by decide +kernel
theorem dX5_init_4 : decode cX5_init 4 = .ok (.aload_n 0, 1) := by decide +kernel
theorem dX5_init_5 : decode cX5_init 5 = .ok (.sipush 400, 3) := by decide +kernel
theorem dX5_init_8 : decode cX5_init 8 = .ok (.newarray .byte, 2) := by decide +kernel
theorem dX5_init_10 : decode cX5_init 10 = .ok (.putfield 9, 3) := by decide +kernel
theorem dX5_init_13 : decode cX5_init 13 = .ok (.aload_n 0, 1) := by decide +kernel
theorem dX5_init_14 : decode cX5_init 14 = .ok (.iconst 0, 1) := by decide +kernel
theorem dX5_init_15 : decode cX5_init 15 = .ok (.putfield 15, 3) := by decide +kernel
theorem dX5_init_18 : decode cX5_init 18 = .ok (.aload_n 0, 1) := by decide +kernel
theorem dX5_init_19 : decode cX5_init 19 = .ok (.iconst 0, 1) := by decide +kernel
theorem dX5_init_20 : decode cX5_init 20 = .ok (.putfield 19, 3) := by decide +kernel
theorem dX5_init_23 : decode cX5_init 23 = .ok (.aload_n 0, 1) := by decide +kernel
theorem dX5_init_24 : decode cX5_init 24 = .ok (.iconst 0, 1) := by decide +kernel
theorem dX5_init_25 : decode cX5_init 25 = .ok (.putfield 22, 3) := by decide +kernel
theorem dX5_init_28 : decode cX5_init 28 = .ok (.aload_n 0, 1) := by decide +kernel
theorem dX5_init_29 : decode cX5_init 29 = .ok (.iconst (-1), 1) := by decide +kernel
theorem dX5_init_30 : decode cX5_init 30 = .ok (.putfield 25, 3) := by decide +kernel
theorem dX5_init_33 : decode cX5_init 33 = .ok (.return_, 1) := by decide +kernel
theorem dX5_append_0 : decode cX5_append 0 = .ok (.aload_n 0, 1) := by decide +kernel
theorem dX5_append_1 : decode cX5_append 1 = .ok (.getfield 15, 3) := by decide +kernel
theorem dX5_append_4 : decode cX5_append 4 = .ok (.ifCond .lt 15, 3) := by decide +kernel
theorem dX5_append_7 : decode cX5_append 7 = .ok (.aload_n 0, 1) := by decide +kernel
theorem dX5_append_8 : decode cX5_append 8 = .ok (.getfield 15, 3) := by decide +kernel
theorem dX5_append_11 : decode cX5_append 11 = .ok (.aload_n 0, 1) := by decide +kernel
theorem dX5_append_12 : decode cX5_append 12 = .ok (.getfield 9, 3) := by decide +kernel
theorem dX5_append_15 : decode cX5_append 15 = .ok (.arraylength, 1) := by decide +kernel
theorem dX5_append_16 : decode cX5_append 16 = .ok (.if_icmp .lt 4, 3) := by decide +kernel
theorem dX5_append_19 : decode cX5_append 19 = .ok (.return_, 1) := by decide +kernel
theorem dX5_append_20 : decode cX5_append 20 = .ok (.aload_n 0, 1) := by decide +kernel
theorem dX5_append_21 : decode cX5_append 21 = .ok (.getfield 9, 3) := by decide +kernel
theorem dX5_append_24 : decode cX5_append 24 = .ok (.aload_n 0, 1) := by decide +kernel
theorem dX5_append_25 : decode cX5_append 25 = .ok (.getfield 15, 3) := by decide +kernel
theorem dX5_append_28 : decode cX5_append 28 = .ok (.iload_n 1, 1) := by decide +kernel
theorem dX5_append_29 : decode cX5_append 29 = .ok (.i2b, 1) := by decide +kernel
theorem dX5_append_30 : decode cX5_append 30 = .ok (.bastore, 1) := by decide +kernel
theorem dX5_append_31 : decode cX5_append 31 = .ok (.aload_n 0, 1) := by decide +kernel
theorem dX5_append_32 : decode cX5_append 32 = .ok (.dup, 1) := by decide +kernel
theorem dX5_append_33 : decode cX5_append 33 = .ok (.getfield 15, 3) := by decide +kernel
theorem dX5_append_36 : decode cX5_append 36 = .ok (.iconst 1, 1) := by decide +kernel
theorem dX5_append_37 : decode cX5_append 37 = .ok (.iadd, 1) := by decide +kernel
theorem dX5_append_38 : decode cX5_append 38 = .ok (.putfield 15, 3) := by decide +kernel
theorem dX5_append_41 : decode cX5_append 41 = .ok (.return_, 1) := by decide +kernel
theorem dX5_begin_0 : decode cX5_begin 0 = .ok (.aload_n 0, 1) := by decide +kernel
theorem dX5_begin_1 : decode cX5_begin 1 = .ok (.iconst 0, 1) := by decide +kernel
theorem dX5_begin_2 : decode cX5_begin 2 = .ok (.putfield 19, 3) := by decide +kernel
theorem dX5_begin_5 : decode cX5_begin 5 = .ok (.aload_n 0, 1) := by decide +kernel
theorem dX5_begin_6 : decode cX5_begin 6 = .ok (.iconst 0, 1) := by decide +kernel
theorem dX5_begin_7 : decode cX5_begin 7 = .ok (.putfield 22, 3) := by decide +kernel
theorem dX5_begin_10 : decode cX5_begin 10 = .ok (.aload_n 0, 1) := by decide +kernel
theorem dX5_begin_11 : decode cX5_begin 11 = .ok (.iconst (-1), 1) := by decide +kernel
theorem dX5_begin_12 : decode cX5_begin 12 = .ok (.putfield 25, 3) := by decide +kernel
theorem dX5_begin_15 : decode cX5_begin 15 = .ok (.return_, 1) := by decide +kernel
theorem dX5_blame_0 : decode cX5_blame 0 = .ok (.aload_n 0, 1) := by decide +kernel
theorem dX5_blame_1 : decode cX5_blame 1 = .ok (.getfield 22, 3) := by decide +kernel
theorem dX5_blame_4 : decode cX5_blame 4 = .ok (.ifCond .eq 4, 3) := by decide +kernel
theorem dX5_blame_7 : decode cX5_blame 7 = .ok (.return_, 1) := by decide +kernel
theorem dX5_blame_8 : decode cX5_blame 8 = .ok (.aload_n 0, 1) := by decide +kernel
theorem dX5_blame_9 : decode cX5_blame 9 = .ok (.iload_n 1, 1) := by decide +kernel
theorem dX5_blame_10 : decode cX5_blame 10 = .ok (.putfield 22, 3) := by decide +kernel
theorem dX5_blame_13 : decode cX5_blame 13 = .ok (.aload_n 0, 1) := by decide +kernel
theorem dX5_blame_14 : decode cX5_blame 14 = .ok (.iload_n 2, 1) := by decide +kernel
theorem dX5_blame_15 : decode cX5_blame 15 = .ok (.putfield 25, 3) := by decide +kernel
theorem dX5_blame_18 : decode cX5_blame 18 = .ok (.return_, 1) := by decide +kernel
theorem dX5_byteAt_0 : decode cX5_byteAt 0 = .ok (.iload_n 1, 1) := by decide +kernel
theorem dX5_byteAt_1 : decode cX5_byteAt 1 = .ok (.ifCond .lt 33, 3) := by decide +kernel
theorem dX5_byteAt_4 : decode cX5_byteAt 4 = .ok (.iload_n 1, 1) := by decide +kernel
theorem dX5_byteAt_5 : decode cX5_byteAt 5 = .ok (.aload_n 0, 1) := by decide +kernel
theorem dX5_byteAt_6 : decode cX5_byteAt 6 = .ok (.getfield 15, 3) := by decide +kernel
theorem dX5_byteAt_9 : decode cX5_byteAt 9 = .ok (.if_icmp .ge 25, 3) := by decide +kernel
theorem dX5_byteAt_12 : decode cX5_byteAt 12 = .ok (.iload_n 1, 1) := by decide +kernel
theorem dX5_byteAt_13 : decode cX5_byteAt 13 = .ok (.aload_n 0, 1) := by decide +kernel
theorem dX5_byteAt_14 : decode cX5_byteAt 14 = .ok (.getfield 9, 3) := by decide +kernel
theorem dX5_byteAt_17 : decode cX5_byteAt 17 = .ok (.arraylength, 1) := by decide +kernel
theorem dX5_byteAt_18 : decode cX5_byteAt 18 = .ok (.if_icmp .ge 16, 3) := by decide +kernel
theorem dX5_byteAt_21 : decode cX5_byteAt 21 = .ok (.aload_n 0, 1) := by decide +kernel
theorem dX5_byteAt_22 : decode cX5_byteAt 22 = .ok (.getfield 9, 3) := by decide +kernel
theorem dX5_byteAt_25 : decode cX5_byteAt 25 = .ok (.iload_n 1, 1) := by decide +kernel
theorem dX5_byteAt_26 : decode cX5_byteAt 26 = .ok (.baload, 1) := by decide +kernel
theorem dX5_byteAt_27 : decode cX5_byteAt 27 = .ok (.sipush 255, 3) := by decide +kernel
theorem dX5_byteAt_30 : decode cX5_byteAt 30 = .ok (.iand, 1) := by decide +kernel
theorem dX5_byteAt_31 : decode cX5_byteAt 31 = .ok (.goto 4, 3) := by decide +kernel
theorem dX5_byteAt_34 : decode cX5_byteAt 34 = .ok (.iconst (-1), 1) := by decide +kernel
theorem dX5_byteAt_35 : decode cX5_byteAt 35 = .ok (.ireturn, 1) := by decide +kernel
theorem dX5_skipBlanks_0 : decode cX5_skipBlanks 0 = .ok (.aload_n 0, 1) := by decide +kernel
theorem dX5_skipBlanks_1 : decode cX5_skipBlanks 1 = .ok (.getfield 19, 3) := by decide +kernel
theorem dX5_skipBlanks_4 : decode cX5_skipBlanks 4 = .ok (.aload_n 0, 1) := by decide +kernel
theorem dX5_skipBlanks_5 : decode cX5_skipBlanks 5 = .ok (.getfield 15, 3) := by decide +kernel
theorem dX5_skipBlanks_8 : decode cX5_skipBlanks 8 = .ok (.if_icmp .ge 29, 3) := by decide +kernel
theorem dX5_skipBlanks_11 : decode cX5_skipBlanks 11 = .ok (.aload_n 0, 1) := by decide +kernel
theorem dX5_skipBlanks_12 : decode cX5_skipBlanks 12 = .ok (.aload_n 0, 1) := by decide +kernel
theorem dX5_skipBlanks_13 : decode cX5_skipBlanks 13 = .ok (.getfield 19, 3) := by decide +kernel
theorem dX5_skipBlanks_16 : decode cX5_skipBlanks 16 = .ok (.invokevirtual 28, 3) := by decide +kernel
theorem dX5_skipBlanks_19 : decode cX5_skipBlanks 19 = .ok (.bipush 32, 2) := by decide +kernel
theorem dX5_skipBlanks_21 : decode cX5_skipBlanks 21 = .ok (.if_icmp .ne 16, 3) := by decide +kernel
theorem dX5_skipBlanks_24 : decode cX5_skipBlanks 24 = .ok (.aload_n 0, 1) := by decide +kernel
theorem dX5_skipBlanks_25 : decode cX5_skipBlanks 25 = .ok (.dup, 1) := by decide +kernel
theorem dX5_skipBlanks_26 : decode cX5_skipBlanks 26 = .ok (.getfield 19, 3) := by decide +kernel
theorem dX5_skipBlanks_29 : decode cX5_skipBlanks 29 = .ok (.iconst 1, 1) := by decide +kernel
theorem dX5_skipBlanks_30 : decode cX5_skipBlanks 30 = .ok (.iadd, 1) := by decide +kernel
theorem dX5_skipBlanks_31 : decode cX5_skipBlanks 31 = .ok (.putfield 19, 3) := by decide +kernel
theorem dX5_skipBlanks_34 : decode cX5_skipBlanks 34 = .ok (.goto (-34), 3) := by decide +kernel
theorem dX5_skipBlanks_37 : decode cX5_skipBlanks 37 = .ok (.return_, 1) := by decide +kernel
theorem dX5_goesOn_0 : decode cX5_goesOn 0 = .ok (.aload_n 0, 1) := by decide +kernel
theorem dX5_goesOn_1 : decode cX5_goesOn 1 = .ok (.invokevirtual 32, 3) := by decide +kernel
theorem dX5_goesOn_4 : decode cX5_goesOn 4 = .ok (.aload_n 0, 1) := by decide +kernel
theorem dX5_goesOn_5 : decode cX5_goesOn 5 = .ok (.getfield 22, 3) := by decide +kernel
theorem dX5_goesOn_8 : decode cX5_goesOn 8 = .ok (.ifCond .ne 18, 3) := by decide +kernel
theorem dX5_goesOn_11 : decode cX5_goesOn 11 = .ok (.aload_n 0, 1) := by decide +kernel
theorem dX5_goesOn_12 : decode cX5_goesOn 12 = .ok (.getfield 19, 3) := by decide +kernel
theorem dX5_goesOn_15 : decode cX5_goesOn 15 = .ok (.aload_n 0, 1) := by decide +kernel
theorem dX5_goesOn_16 : decode cX5_goesOn 16 = .ok (.getfield 15, 3) := by decide +kernel
theorem dX5_goesOn_19 : decode cX5_goesOn 19 = .ok (.if_icmp .ge 7, 3) := by decide +kernel
theorem dX5_goesOn_22 : decode cX5_goesOn 22 = .ok (.iconst 1, 1) := by decide +kernel
theorem dX5_goesOn_23 : decode cX5_goesOn 23 = .ok (.goto 4, 3) := by decide +kernel
theorem dX5_goesOn_26 : decode cX5_goesOn 26 = .ok (.iconst 0, 1) := by decide +kernel
theorem dX5_goesOn_27 : decode cX5_goesOn 27 = .ok (.ireturn, 1) := by decide +kernel
theorem dX5_takeWord_0 : decode cX5_takeWord 0 = .ok (.aload_n 0, 1) := by decide +kernel
theorem dX5_takeWord_1 : decode cX5_takeWord 1 = .ok (.getfield 19, 3) := by decide +kernel
theorem dX5_takeWord_4 : decode cX5_takeWord 4 = .ok (.istore_n 2, 1) := by decide +kernel
theorem dX5_takeWord_5 : decode cX5_takeWord 5 = .ok (.iload_n 2, 1) := by decide +kernel
theorem dX5_takeWord_6 : decode cX5_takeWord 6 = .ok (.aload_n 0, 1) := by decide +kernel
theorem dX5_takeWord_7 : decode cX5_takeWord 7 = .ok (.getfield 15, 3) := by decide +kernel
theorem dX5_takeWord_10 : decode cX5_takeWord 10 = .ok (.if_icmp .ge 29, 3) := by decide +kernel
theorem dX5_takeWord_13 : decode cX5_takeWord 13 = .ok (.aload_n 0, 1) := by decide +kernel
theorem dX5_takeWord_14 : decode cX5_takeWord 14 = .ok (.iload_n 2, 1) := by decide +kernel
theorem dX5_takeWord_15 : decode cX5_takeWord 15 = .ok (.invokevirtual 28, 3) := by decide +kernel
theorem dX5_takeWord_18 : decode cX5_takeWord 18 = .ok (.bipush 97, 2) := by decide +kernel
theorem dX5_takeWord_20 : decode cX5_takeWord 20 = .ok (.if_icmp .lt 19, 3) := by decide +kernel
theorem dX5_takeWord_23 : decode cX5_takeWord 23 = .ok (.aload_n 0, 1) := by decide +kernel
theorem dX5_takeWord_24 : decode cX5_takeWord 24 = .ok (.iload_n 2, 1) := by decide +kernel
theorem dX5_takeWord_25 : decode cX5_takeWord 25 = .ok (.invokevirtual 28, 3) := by decide +kernel
theorem dX5_takeWord_28 : decode cX5_takeWord 28 = .ok (.bipush 122, 2) := by decide +kernel
theorem dX5_takeWord_30 : decode cX5_takeWord 30 = .ok (.if_icmp .gt 9, 3) := by decide +kernel
theorem dX5_takeWord_33 : decode cX5_takeWord 33 = .ok (.iinc 2 1, 3) := by decide +kernel
theorem dX5_takeWord_36 : decode cX5_takeWord 36 = .ok (.goto (-31), 3) := by decide +kernel
theorem dX5_takeWord_39 : decode cX5_takeWord 39 = .ok (.iload_n 2, 1) := by decide +kernel
theorem dX5_takeWord_40 : decode cX5_takeWord 40 = .ok (.aload_n 0, 1) := by decide +kernel
theorem dX5_takeWord_41 : decode cX5_takeWord 41 = .ok (.getfield 19, 3) := by decide +kernel
theorem dX5_takeWord_44 : decode cX5_takeWord 44 = .ok (.isub, 1) := by decide +kernel
theorem dX5_takeWord_45 : decode cX5_takeWord 45 = .ok (.aload_n 1, 1) := by decide +kernel
theorem dX5_takeWord_46 : decode cX5_takeWord 46 = .ok (.invokevirtual 35, 3) := by decide +kernel
theorem dX5_takeWord_49 : decode cX5_takeWord 49 = .ok (.if_icmp .eq 5, 3) := by decide +kernel
theorem dX5_takeWord_52 : decode cX5_takeWord 52 = .ok (.iconst 0, 1) := by decide +kernel
theorem dX5_takeWord_53 : decode cX5_takeWord 53 = .ok (.ireturn, 1) := by decide +kernel
theorem dX5_takeWord_54 : decode cX5_takeWord 54 = .ok (.iconst 0, 1) := by decide +kernel
theorem dX5_takeWord_55 : decode cX5_takeWord 55 = .ok (.istore_n 3, 1) := by decide +kernel
theorem dX5_takeWord_56 : decode cX5_takeWord 56 = .ok (.iload_n 3, 1) := by decide +kernel
theorem dX5_takeWord_57 : decode cX5_takeWord 57 = .ok (.aload_n 1, 1) := by decide +kernel
theorem dX5_takeWord_58 : decode cX5_takeWord 58 = .ok (.invokevirtual 35, 3) := by decide +kernel
theorem dX5_takeWord_61 : decode cX5_takeWord 61 = .ok (.if_icmp .ge 29, 3) := by decide +kernel
theorem dX5_takeWord_64 : decode cX5_takeWord 64 = .ok (.aload_n 0, 1) := by decide +kernel
theorem dX5_takeWord_65 : decode cX5_takeWord 65 = .ok (.aload_n 0, 1) := by decide +kernel
theorem dX5_takeWord_66 : decode cX5_takeWord 66 = .ok (.getfield 19, 3) := by decide +kernel
theorem dX5_takeWord_69 : decode cX5_takeWord 69 = .ok (.iload_n 3, 1) := by decide +kernel
theorem dX5_takeWord_70 : decode cX5_takeWord 70 = .ok (.iadd, 1) := by decide +kernel
theorem dX5_takeWord_71 : decode cX5_takeWord 71 = .ok (.invokevirtual 28, 3) := by decide +kernel
theorem dX5_takeWord_74 : decode cX5_takeWord 74 = .ok (.aload_n 1, 1) := by decide +kernel
theorem dX5_takeWord_75 : decode cX5_takeWord 75 = .ok (.iload_n 3, 1) := by decide +kernel
theorem dX5_takeWord_76 : decode cX5_takeWord 76 = .ok (.invokevirtual 40, 3) := by decide +kernel
theorem dX5_takeWord_79 : decode cX5_takeWord 79 = .ok (.if_icmp .eq 5, 3) := by decide +kernel
theorem dX5_takeWord_82 : decode cX5_takeWord 82 = .ok (.iconst 0, 1) := by decide +kernel
theorem dX5_takeWord_83 : decode cX5_takeWord 83 = .ok (.ireturn, 1) := by decide +kernel
theorem dX5_takeWord_84 : decode cX5_takeWord 84 = .ok (.iinc 3 1, 3) := by decide +kernel
theorem dX5_takeWord_87 : decode cX5_takeWord 87 = .ok (.goto (-31), 3) := by decide +kernel
theorem dX5_takeWord_90 : decode cX5_takeWord 90 = .ok (.aload_n 0, 1) := by decide +kernel
theorem dX5_takeWord_91 : decode cX5_takeWord 91 = .ok (.iload_n 2, 1) := by decide +kernel
theorem dX5_takeWord_92 : decode cX5_takeWord 92 = .ok (.putfield 19, 3) := by decide +kernel
theorem dX5_takeWord_95 : decode cX5_takeWord 95 = .ok (.iconst 1, 1) := by decide +kernel
theorem dX5_takeWord_96 : decode cX5_takeWord 96 = .ok (.ireturn, 1) := by decide +kernel
theorem dX5_takeNumber_0 : decode cX5_takeNumber 0 = .ok (.aload_n 0, 1) := by decide +kernel
theorem dX5_takeNumber_1 : decode cX5_takeNumber 1 = .ok (.invokevirtual 32, 3) := by decide +kernel
theorem dX5_takeNumber_4 : decode cX5_takeNumber 4 = .ok (.aload_n 0, 1) := by decide +kernel
theorem dX5_takeNumber_5 : decode cX5_takeNumber 5 = .ok (.getfield 19, 3) := by decide +kernel
theorem dX5_takeNumber_8 : decode cX5_takeNumber 8 = .ok (.istore_n 3, 1) := by decide +kernel
theorem dX5_takeNumber_9 : decode cX5_takeNumber 9 = .ok (.iconst 0, 1) := by decide +kernel
theorem dX5_takeNumber_10 : decode cX5_takeNumber 10 = .ok (.istore 4, 2) := by decide +kernel
theorem dX5_takeNumber_12 : decode cX5_takeNumber 12 = .ok (.aload_n 0, 1) := by decide +kernel
theorem dX5_takeNumber_13 : decode cX5_takeNumber 13 = .ok (.getfield 19, 3) := by decide +kernel
theorem dX5_takeNumber_16 : decode cX5_takeNumber 16 = .ok (.aload_n 0, 1) := by decide +kernel
theorem dX5_takeNumber_17 : decode cX5_takeNumber 17 = .ok (.getfield 15, 3) := by decide +kernel
theorem dX5_takeNumber_20 : decode cX5_takeNumber 20 = .ok (.if_icmp .ge 71, 3) := by decide +kernel
theorem dX5_takeNumber_23 : decode cX5_takeNumber 23 = .ok (.aload_n 0, 1) := by decide +kernel
theorem dX5_takeNumber_24 : decode cX5_takeNumber 24 = .ok (.aload_n 0, 1) := by decide +kernel
theorem dX5_takeNumber_25 : decode cX5_takeNumber 25 = .ok (.getfield 19, 3) := by decide +kernel
theorem dX5_takeNumber_28 : decode cX5_takeNumber 28 = .ok (.invokevirtual 28, 3) := by decide +kernel
theorem dX5_takeNumber_31 : decode cX5_takeNumber 31 = .ok (.bipush 48, 2) := by decide +kernel
theorem dX5_takeNumber_33 : decode cX5_takeNumber 33 = .ok (.if_icmp .lt 58, 3) := by decide +kernel
theorem dX5_takeNumber_36 : decode cX5_takeNumber 36 = .ok (.aload_n 0, 1) := by decide +kernel
theorem dX5_takeNumber_37 : decode cX5_takeNumber 37 = .ok (.aload_n 0, 1) := by decide +kernel
theorem dX5_takeNumber_38 : decode cX5_takeNumber 38 = .ok (.getfield 19, 3) := by decide +kernel
theorem dX5_takeNumber_41 : decode cX5_takeNumber 41 = .ok (.invokevirtual 28, 3) := by decide +kernel
theorem dX5_takeNumber_44 : decode cX5_takeNumber 44 = .ok (.bipush 57, 2) := by decide +kernel
theorem dX5_takeNumber_46 : decode cX5_takeNumber 46 = .ok (.if_icmp .gt 45, 3) := by decide +kernel
theorem dX5_takeNumber_49 : decode cX5_takeNumber 49 = .ok (.aload_n 0, 1) := by decide +kernel
theorem dX5_takeNumber_50 : decode cX5_takeNumber 50 = .ok (.getfield 19, 3) := by decide +kernel
theorem dX5_takeNumber_53 : decode cX5_takeNumber 53 = .ok (.iload_n 3, 1) := by decide +kernel
theorem dX5_takeNumber_54 : decode cX5_takeNumber 54 = .ok (.isub, 1) := by decide +kernel
theorem dX5_takeNumber_55 : decode cX5_takeNumber 55 = .ok (.iconst 3, 1) := by decide +kernel
theorem dX5_takeNumber_56 : decode cX5_takeNumber 56 = .ok (.if_icmp .ge 22, 3) := by decide +kernel
theorem dX5_takeNumber_59 : decode cX5_takeNumber 59 = .ok (.iload 4, 2) := by decide +kernel
theorem dX5_takeNumber_61 : decode cX5_takeNumber 61 = .ok (.bipush 10, 2) := by decide +kernel
theorem dX5_takeNumber_63 : decode cX5_takeNumber 63 = .ok (.imul, 1) := by decide +kernel
theorem dX5_takeNumber_64 : decode cX5_takeNumber 64 = .ok (.aload_n 0, 1) := by decide +kernel
theorem dX5_takeNumber_65 : decode cX5_takeNumber 65 = .ok (.aload_n 0, 1) := by decide +kernel
theorem dX5_takeNumber_66 : decode cX5_takeNumber 66 = .ok (.getfield 19, 3) := by decide +kernel
theorem dX5_takeNumber_69 : decode cX5_takeNumber 69 = .ok (.invokevirtual 28, 3) := by decide +kernel
theorem dX5_takeNumber_72 : decode cX5_takeNumber 72 = .ok (.iadd, 1) := by decide +kernel
theorem dX5_takeNumber_73 : decode cX5_takeNumber 73 = .ok (.bipush 48, 2) := by decide +kernel
theorem dX5_takeNumber_75 : decode cX5_takeNumber 75 = .ok (.isub, 1) := by decide +kernel
theorem dX5_takeNumber_76 : decode cX5_takeNumber 76 = .ok (.istore 4, 2) := by decide +kernel
theorem dX5_takeNumber_78 : decode cX5_takeNumber 78 = .ok (.aload_n 0, 1) := by decide +kernel
theorem dX5_takeNumber_79 : decode cX5_takeNumber 79 = .ok (.dup, 1) := by decide +kernel
theorem dX5_takeNumber_80 : decode cX5_takeNumber 80 = .ok (.getfield 19, 3) := by decide +kernel
theorem dX5_takeNumber_83 : decode cX5_takeNumber 83 = .ok (.iconst 1, 1) := by decide +kernel
theorem dX5_takeNumber_84 : decode cX5_takeNumber 84 = .ok (.iadd, 1) := by decide +kernel
theorem dX5_takeNumber_85 : decode cX5_takeNumber 85 = .ok (.putfield 19, 3) := by decide +kernel
theorem dX5_takeNumber_88 : decode cX5_takeNumber 88 = .ok (.goto (-76), 3) := by decide +kernel
theorem dX5_takeNumber_91 : decode cX5_takeNumber 91 = .ok (.aload_n 0, 1) := by decide +kernel
theorem dX5_takeNumber_92 : decode cX5_takeNumber 92 = .ok (.getfield 19, 3) := by decide +kernel
theorem dX5_takeNumber_95 : decode cX5_takeNumber 95 = .ok (.iload_n 3, 1) := by decide +kernel
theorem dX5_takeNumber_96 : decode cX5_takeNumber 96 = .ok (.if_icmp .ne 12, 3) := by decide +kernel
theorem dX5_takeNumber_99 : decode cX5_takeNumber 99 = .ok (.aload_n 0, 1) := by decide +kernel
theorem dX5_takeNumber_100 : decode cX5_takeNumber 100 = .ok (.iconst 1, 1) := by decide +kernel
theorem dX5_takeNumber_101 : decode cX5_takeNumber 101 = .ok (.iload_n 3, 1) := by decide +kernel
theorem dX5_takeNumber_102 : decode cX5_takeNumber 102 = .ok (.invokevirtual 44, 3) := by decide +kernel
theorem dX5_takeNumber_105 : decode cX5_takeNumber 105 = .ok (.goto 31, 3) := by decide +kernel
theorem dX5_takeNumber_108 : decode cX5_takeNumber 108 = .ok (.aload_n 0, 1) := by decide +kernel
theorem dX5_takeNumber_109 : decode cX5_takeNumber 109 = .ok (.getfield 19, 3) := by decide +kernel
theorem dX5_takeNumber_112 : decode cX5_takeNumber 112 = .ok (.iload_n 3, 1) := by decide +kernel
theorem dX5_takeNumber_113 : decode cX5_takeNumber 113 = .ok (.isub, 1) := by decide +kernel
theorem dX5_takeNumber_114 : decode cX5_takeNumber 114 = .ok (.iconst 3, 1) := by decide +kernel
theorem dX5_takeNumber_115 : decode cX5_takeNumber 115 = .ok (.if_icmp .gt 15, 3) := by decide +kernel
theorem dX5_takeNumber_118 : decode cX5_takeNumber 118 = .ok (.iload 4, 2) := by decide +kernel
theorem dX5_takeNumber_120 : decode cX5_takeNumber 120 = .ok (.iload_n 1, 1) := by decide +kernel
theorem dX5_takeNumber_121 : decode cX5_takeNumber 121 = .ok (.if_icmp .lt 9, 3) := by decide +kernel
theorem dX5_takeNumber_124 : decode cX5_takeNumber 124 = .ok (.iload 4, 2) := by decide +kernel
theorem dX5_takeNumber_126 : decode cX5_takeNumber 126 = .ok (.iload_n 2, 1) := by decide +kernel
theorem dX5_takeNumber_127 : decode cX5_takeNumber 127 = .ok (.if_icmp .le 9, 3) := by decide +kernel
theorem dX5_takeNumber_130 : decode cX5_takeNumber 130 = .ok (.aload_n 0, 1) := by decide +kernel
theorem dX5_takeNumber_131 : decode cX5_takeNumber 131 = .ok (.iconst 2, 1) := by decide +kernel
theorem dX5_takeNumber_132 : decode cX5_takeNumber 132 = .ok (.iload_n 3, 1) := by decide +kernel
theorem dX5_takeNumber_133 : decode cX5_takeNumber 133 = .ok (.invokevirtual 44, 3) := by decide +kernel
theorem dX5_takeNumber_136 : decode cX5_takeNumber 136 = .ok (.iload 4, 2) := by decide +kernel
