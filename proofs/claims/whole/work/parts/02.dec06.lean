theorem dX7_gift_10 : decode cX7_gift 10 = .ok (.ireturn, 1) := by decide +kernel
theorem dX7_gift_11 : decode cX7_gift 11 = .ok (.iload_n 2, 1) := by decide +kernel
theorem dX7_gift_12 : decode cX7_gift 12 = .ok (.i2l, 1) := by decide +kernel
theorem dX7_gift_13 : decode cX7_gift 13 = .ok (.lconst 1, 1) := by decide +kernel
theorem dX7_gift_14 : decode cX7_gift 14 = .ok (.ldc2_w 198, 3) := by decide +kernel
theorem dX7_gift_17 : decode cX7_gift 17 = .ok (.invokestatic 77, 3) := by decide +kernel
theorem dX7_gift_20 : decode cX7_gift 20 = .ok (.ifCond .ne 6, 3) := by decide +kernel
theorem dX7_gift_23 : decode cX7_gift 23 = .ok (.ldc 81, 2) := by decide +kernel
theorem dX7_gift_25 : decode cX7_gift 25 = .ok (.ireturn, 1) := by decide +kernel
theorem dX7_gift_26 : decode cX7_gift 26 = .ok (.aload_n 0, 1) := by decide +kernel
theorem dX7_gift_27 : decode cX7_gift 27 = .ok (.iconst 0, 1) := by decide +kernel
theorem dX7_gift_28 : decode cX7_gift 28 = .ok (.iload_n 1, 1) := by decide +kernel
theorem dX7_gift_29 : decode cX7_gift 29 = .ok (.invokevirtual 154, 3) := by decide +kernel
theorem dX7_gift_32 : decode cX7_gift 32 = .ok (.ifCond .ne 6, 3) := by decide +kernel
theorem dX7_gift_35 : decode cX7_gift 35 = .ok (.ldc 200, 2) := by decide +kernel
theorem dX7_gift_37 : decode cX7_gift 37 = .ok (.ireturn, 1) := by decide +kernel
theorem dX7_gift_38 : decode cX7_gift 38 = .ok (.aload_n 0, 1) := by decide +kernel
theorem dX7_gift_39 : decode cX7_gift 39 = .ok (.getfield 7, 3) := by decide +kernel
theorem dX7_gift_42 : decode cX7_gift 42 = .ok (.bipush 24, 2) := by decide +kernel
theorem dX7_gift_44 : decode cX7_gift 44 = .ok (.iload_n 1, 1) := by decide +kernel
theorem dX7_gift_45 : decode cX7_gift 45 = .ok (.iadd, 1) := by decide +kernel
theorem dX7_gift_46 : decode cX7_gift 46 = .ok (.aload_n 0, 1) := by decide +kernel
theorem dX7_gift_47 : decode cX7_gift 47 = .ok (.getfield 7, 3) := by decide +kernel
theorem dX7_gift_50 : decode cX7_gift 50 = .ok (.bipush 24, 2) := by decide +kernel
theorem dX7_gift_52 : decode cX7_gift 52 = .ok (.iload_n 1, 1) := by decide +kernel
theorem dX7_gift_53 : decode cX7_gift 53 = .ok (.iadd, 1) := by decide +kernel
theorem dX7_gift_54 : decode cX7_gift 54 = .ok (.iaload, 1) := by decide +kernel
theorem dX7_gift_55 : decode cX7_gift 55 = .ok (.iload_n 2, 1) := by decide +kernel
theorem dX7_gift_56 : decode cX7_gift 56 = .ok (.iadd, 1) := by decide +kernel
theorem dX7_gift_57 : decode cX7_gift 57 = .ok (.sipush 9999, 3) := by decide +kernel
theorem dX7_gift_60 : decode cX7_gift 60 = .ok (.if_icmp .le 9, 3) := by decide +kernel
theorem dX7_gift_63 : decode cX7_gift 63 = .ok (.sipush 9999, 3) := by decide +kernel
theorem dX7_gift_66 : decode cX7_gift 66 = .ok (.goto 14, 3) := by decide +kernel
theorem dX7_gift_69 : decode cX7_gift 69 = .ok (.aload_n 0, 1) := by decide +kernel
theorem dX7_gift_70 : decode cX7_gift 70 = .ok (.getfield 7, 3) := by decide +kernel
theorem dX7_gift_73 : decode cX7_gift 73 = .ok (.bipush 24, 2) := by decide +kernel
theorem dX7_gift_75 : decode cX7_gift 75 = .ok (.iload_n 1, 1) := by decide +kernel
theorem dX7_gift_76 : decode cX7_gift 76 = .ok (.iadd, 1) := by decide +kernel
theorem dX7_gift_77 : decode cX7_gift 77 = .ok (.iaload, 1) := by decide +kernel
theorem dX7_gift_78 : decode cX7_gift 78 = .ok (.iload_n 2, 1) := by decide +kernel
theorem dX7_gift_79 : decode cX7_gift 79 = .ok (.iadd, 1) := by decide +kernel
theorem dX7_gift_80 : decode cX7_gift 80 = .ok (.iastore, 1) := by decide +kernel
theorem dX7_gift_81 : decode cX7_gift 81 = .ok (.aload_n 0, 1) := by decide +kernel
theorem dX7_gift_82 : decode cX7_gift 82 = .ok (.getfield 7, 3) := by decide +kernel
theorem dX7_gift_85 : decode cX7_gift 85 = .ok (.bipush 24, 2) := by decide +kernel
theorem dX7_gift_87 : decode cX7_gift 87 = .ok (.iload_n 1, 1) := by decide +kernel
theorem dX7_gift_88 : decode cX7_gift 88 = .ok (.iadd, 1) := by decide +kernel
theorem dX7_gift_89 : decode cX7_gift 89 = .ok (.iaload, 1) := by decide +kernel
theorem dX7_gift_90 : decode cX7_gift 90 = .ok (.ireturn, 1) := by decide +kernel
theorem dX7_knock_0 : decode cX7_knock 0 = .ok (.aload_n 0, 1) := by decide +kernel
theorem dX7_knock_1 : decode cX7_knock 1 = .ok (.iload_n 1, 1) := by decide +kernel
theorem dX7_knock_2 : decode cX7_knock 2 = .ok (.invokevirtual 190, 3) := by decide +kernel
theorem dX7_knock_5 : decode cX7_knock 5 = .ok (.ifCond .ne 6, 3) := by decide +kernel
theorem dX7_knock_8 : decode cX7_knock 8 = .ok (.ldc 186, 2) := by decide +kernel
theorem dX7_knock_10 : decode cX7_knock 10 = .ok (.ireturn, 1) := by decide +kernel
theorem dX7_knock_11 : decode cX7_knock 11 = .ok (.aload_n 0, 1) := by decide +kernel
theorem dX7_knock_12 : decode cX7_knock 12 = .ok (.iconst 0, 1) := by decide +kernel
theorem dX7_knock_13 : decode cX7_knock 13 = .ok (.iload_n 1, 1) := by decide +kernel
theorem dX7_knock_14 : decode cX7_knock 14 = .ok (.invokevirtual 154, 3) := by decide +kernel
theorem dX7_knock_17 : decode cX7_knock 17 = .ok (.ifCond .ne 6, 3) := by decide +kernel
theorem dX7_knock_20 : decode cX7_knock 20 = .ok (.ldc 200, 2) := by decide +kernel
theorem dX7_knock_22 : decode cX7_knock 22 = .ok (.ireturn, 1) := by decide +kernel
theorem dX7_knock_23 : decode cX7_knock 23 = .ok (.aload_n 0, 1) := by decide +kernel
theorem dX7_knock_24 : decode cX7_knock 24 = .ok (.iconst 0, 1) := by decide +kernel
theorem dX7_knock_25 : decode cX7_knock 25 = .ok (.iload_n 1, 1) := by decide +kernel
theorem dX7_knock_26 : decode cX7_knock 26 = .ok (.invokevirtual 172, 3) := by decide +kernel
theorem dX7_knock_29 : decode cX7_knock 29 = .ok (.istore_n 2, 1) := by decide +kernel
theorem dX7_knock_30 : decode cX7_knock 30 = .ok (.aload_n 0, 1) := by decide +kernel
theorem dX7_knock_31 : decode cX7_knock 31 = .ok (.getfield 7, 3) := by decide +kernel
theorem dX7_knock_34 : decode cX7_knock 34 = .ok (.bipush 48, 2) := by decide +kernel
theorem dX7_knock_36 : decode cX7_knock 36 = .ok (.iload_n 1, 1) := by decide +kernel
theorem dX7_knock_37 : decode cX7_knock 37 = .ok (.iadd, 1) := by decide +kernel
theorem dX7_knock_38 : decode cX7_knock 38 = .ok (.iconst 1, 1) := by decide +kernel
theorem dX7_knock_39 : decode cX7_knock 39 = .ok (.iastore, 1) := by decide +kernel
theorem dX7_knock_40 : decode cX7_knock 40 = .ok (.iload_n 2, 1) := by decide +kernel
theorem dX7_knock_41 : decode cX7_knock 41 = .ok (.ireturn, 1) := by decide +kernel
theorem dX7_rate_0 : decode cX7_rate 0 = .ok (.iload_n 1, 1) := by decide +kernel
theorem dX7_rate_1 : decode cX7_rate 1 = .ok (.aload_n 0, 1) := by decide +kernel
theorem dX7_rate_2 : decode cX7_rate 2 = .ok (.getfield 17, 3) := by decide +kernel
theorem dX7_rate_5 : decode cX7_rate 5 = .ok (.imul, 1) := by decide +kernel
theorem dX7_rate_6 : decode cX7_rate 6 = .ok (.aload_n 0, 1) := by decide +kernel
theorem dX7_rate_7 : decode cX7_rate 7 = .ok (.getfield 21, 3) := by decide +kernel
theorem dX7_rate_10 : decode cX7_rate 10 = .ok (.iload_n 2, 1) := by decide +kernel
theorem dX7_rate_11 : decode cX7_rate 11 = .ok (.imul, 1) := by decide +kernel
theorem dX7_rate_12 : decode cX7_rate 12 = .ok (.isub, 1) := by decide +kernel
theorem dX7_rate_13 : decode cX7_rate 13 = .ok (.istore_n 3, 1) := by decide +kernel
theorem dX7_rate_14 : decode cX7_rate 14 = .ok (.iload_n 3, 1) := by decide +kernel
theorem dX7_rate_15 : decode cX7_rate 15 = .ok (.ifCond .le 7, 3) := by decide +kernel
theorem dX7_rate_18 : decode cX7_rate 18 = .ok (.iload_n 3, 1) := by decide +kernel
theorem dX7_rate_19 : decode cX7_rate 19 = .ok (.goto 4, 3) := by decide +kernel
theorem dX7_rate_22 : decode cX7_rate 22 = .ok (.iconst 0, 1) := by decide +kernel
theorem dX7_rate_23 : decode cX7_rate 23 = .ok (.ireturn, 1) := by decide +kernel
theorem dX7_pass_0 : decode cX7_pass 0 = .ok (.iconst 0, 1) := by decide +kernel
theorem dX7_pass_1 : decode cX7_pass 1 = .ok (.istore_n 2, 1) := by decide +kernel
theorem dX7_pass_2 : decode cX7_pass 2 = .ok (.iload_n 2, 1) := by decide +kernel
theorem dX7_pass_3 : decode cX7_pass 3 = .ok (.aload_n 0, 1) := by decide +kernel
theorem dX7_pass_4 : decode cX7_pass 4 = .ok (.getfield 36, 3) := by decide +kernel
theorem dX7_pass_7 : decode cX7_pass 7 = .ok (.iconst 0, 1) := by decide +kernel
theorem dX7_pass_8 : decode cX7_pass 8 = .ok (.iaload, 1) := by decide +kernel
theorem dX7_pass_9 : decode cX7_pass 9 = .ok (.if_icmp .ge 95, 3) := by decide +kernel
theorem dX7_pass_12 : decode cX7_pass 12 = .ok (.iload_n 1, 1) := by decide +kernel
theorem dX7_pass_13 : decode cX7_pass 13 = .ok (.ifCond .le 44, 3) := by decide +kernel
theorem dX7_pass_16 : decode cX7_pass 16 = .ok (.aload_n 0, 1) := by decide +kernel
theorem dX7_pass_17 : decode cX7_pass 17 = .ok (.getfield 7, 3) := by decide +kernel
theorem dX7_pass_20 : decode cX7_pass 20 = .ok (.iload_n 2, 1) := by decide +kernel
theorem dX7_pass_21 : decode cX7_pass 21 = .ok (.aload_n 0, 1) := by decide +kernel
theorem dX7_pass_22 : decode cX7_pass 22 = .ok (.getfield 7, 3) := by decide +kernel
theorem dX7_pass_25 : decode cX7_pass 25 = .ok (.iload_n 2, 1) := by decide +kernel
theorem dX7_pass_26 : decode cX7_pass 26 = .ok (.iaload, 1) := by decide +kernel
theorem dX7_pass_27 : decode cX7_pass 27 = .ok (.aload_n 0, 1) := by decide +kernel
theorem dX7_pass_28 : decode cX7_pass 28 = .ok (.iload_n 1, 1) := by decide +kernel
theorem dX7_pass_29 : decode cX7_pass 29 = .ok (.iload_n 2, 1) := by decide +kernel
theorem dX7_pass_30 : decode cX7_pass 30 = .ok (.invokevirtual 201, 3) := by decide +kernel
theorem dX7_pass_33 : decode cX7_pass 33 = .ok (.if_icmp .le 19, 3) := by decide +kernel
theorem dX7_pass_36 : decode cX7_pass 36 = .ok (.aload_n 0, 1) := by decide +kernel
theorem dX7_pass_37 : decode cX7_pass 37 = .ok (.getfield 7, 3) := by decide +kernel
theorem dX7_pass_40 : decode cX7_pass 40 = .ok (.iload_n 2, 1) := by decide +kernel
theorem dX7_pass_41 : decode cX7_pass 41 = .ok (.iaload, 1) := by decide +kernel
theorem dX7_pass_42 : decode cX7_pass 42 = .ok (.aload_n 0, 1) := by decide +kernel
theorem dX7_pass_43 : decode cX7_pass 43 = .ok (.iload_n 1, 1) := by decide +kernel
theorem dX7_pass_44 : decode cX7_pass 44 = .ok (.iload_n 2, 1) := by decide +kernel
theorem dX7_pass_45 : decode cX7_pass 45 = .ok (.invokevirtual 201, 3) := by decide +kernel
theorem dX7_pass_48 : decode cX7_pass 48 = .ok (.isub, 1) := by decide +kernel
theorem dX7_pass_49 : decode cX7_pass 49 = .ok (.goto 4, 3) := by decide +kernel
theorem dX7_pass_52 : decode cX7_pass 52 = .ok (.iconst 0, 1) := by decide +kernel
theorem dX7_pass_53 : decode cX7_pass 53 = .ok (.iastore, 1) := by decide +kernel
theorem dX7_pass_54 : decode cX7_pass 54 = .ok (.goto 44, 3) := by decide +kernel
theorem dX7_pass_57 : decode cX7_pass 57 = .ok (.aload_n 0, 1) := by decide +kernel
theorem dX7_pass_58 : decode cX7_pass 58 = .ok (.iconst 0, 1) := by decide +kernel
theorem dX7_pass_59 : decode cX7_pass 59 = .ok (.iload_n 2, 1) := by decide +kernel
theorem dX7_pass_60 : decode cX7_pass 60 = .ok (.invokevirtual 187, 3) := by decide +kernel
theorem dX7_pass_63 : decode cX7_pass 63 = .ok (.ifCond .ge 35, 3) := by decide +kernel
theorem dX7_pass_66 : decode cX7_pass 66 = .ok (.aload_n 0, 1) := by decide +kernel
theorem dX7_pass_67 : decode cX7_pass 67 = .ok (.getfield 7, 3) := by decide +kernel
theorem dX7_pass_70 : decode cX7_pass 70 = .ok (.iload_n 2, 1) := by decide +kernel
theorem dX7_pass_71 : decode cX7_pass 71 = .ok (.aload_n 0, 1) := by decide +kernel
theorem dX7_pass_72 : decode cX7_pass 72 = .ok (.getfield 7, 3) := by decide +kernel
theorem dX7_pass_75 : decode cX7_pass 75 = .ok (.iload_n 2, 1) := by decide +kernel
theorem dX7_pass_76 : decode cX7_pass 76 = .ok (.iaload, 1) := by decide +kernel
theorem dX7_pass_77 : decode cX7_pass 77 = .ok (.iload_n 1, 1) := by decide +kernel
theorem dX7_pass_78 : decode cX7_pass 78 = .ok (.isub, 1) := by decide +kernel
theorem dX7_pass_79 : decode cX7_pass 79 = .ok (.bipush 99, 2) := by decide +kernel
theorem dX7_pass_81 : decode cX7_pass 81 = .ok (.if_icmp .le 8, 3) := by decide +kernel
theorem dX7_pass_84 : decode cX7_pass 84 = .ok (.bipush 99, 2) := by decide +kernel
theorem dX7_pass_86 : decode cX7_pass 86 = .ok (.goto 11, 3) := by decide +kernel
theorem dX7_pass_89 : decode cX7_pass 89 = .ok (.aload_n 0, 1) := by decide +kernel
theorem dX7_pass_90 : decode cX7_pass 90 = .ok (.getfield 7, 3) := by decide +kernel
theorem dX7_pass_93 : decode cX7_pass 93 = .ok (.iload_n 2, 1) := by decide +kernel
theorem dX7_pass_94 : decode cX7_pass 94 = .ok (.iaload, 1) := by decide +kernel
theorem dX7_pass_95 : decode cX7_pass 95 = .ok (.iload_n 1, 1) := by decide +kernel
theorem dX7_pass_96 : decode cX7_pass 96 = .ok (.isub, 1) := by decide +kernel
theorem dX7_pass_97 : decode cX7_pass 97 = .ok (.iastore, 1) := by decide +kernel
theorem dX7_pass_98 : decode cX7_pass 98 = .ok (.iinc 2 1, 3) := by decide +kernel
theorem dX7_pass_101 : decode cX7_pass 101 = .ok (.goto (-99), 3) := by decide +kernel
theorem dX7_pass_104 : decode cX7_pass 104 = .ok (.iconst 0, 1) := by decide +kernel
theorem dX7_pass_105 : decode cX7_pass 105 = .ok (.istore_n 2, 1) := by decide +kernel
theorem dX7_pass_106 : decode cX7_pass 106 = .ok (.iload_n 2, 1) := by decide +kernel
theorem dX7_pass_107 : decode cX7_pass 107 = .ok (.aload_n 0, 1) := by decide +kernel
theorem dX7_pass_108 : decode cX7_pass 108 = .ok (.getfield 36, 3) := by decide +kernel
theorem dX7_pass_111 : decode cX7_pass 111 = .ok (.iconst 1, 1) := by decide +kernel
theorem dX7_pass_112 : decode cX7_pass 112 = .ok (.iaload, 1) := by decide +kernel
theorem dX7_pass_113 : decode cX7_pass 113 = .ok (.if_icmp .ge 53, 3) := by decide +kernel
theorem dX7_pass_116 : decode cX7_pass 116 = .ok (.aload_n 0, 1) := by decide +kernel
theorem dX7_pass_117 : decode cX7_pass 117 = .ok (.getfield 7, 3) := by decide +kernel
theorem dX7_pass_120 : decode cX7_pass 120 = .ok (.bipush 16, 2) := by decide +kernel
theorem dX7_pass_122 : decode cX7_pass 122 = .ok (.iload_n 2, 1) := by decide +kernel
theorem dX7_pass_123 : decode cX7_pass 123 = .ok (.iadd, 1) := by decide +kernel
theorem dX7_pass_124 : decode cX7_pass 124 = .ok (.dup2, 1) := by decide +kernel
theorem dX7_pass_125 : decode cX7_pass 125 = .ok (.iaload, 1) := by decide +kernel
theorem dX7_pass_126 : decode cX7_pass 126 = .ok (.aload_n 0, 1) := by decide +kernel
theorem dX7_pass_127 : decode cX7_pass 127 = .ok (.iconst 0, 1) := by decide +kernel
theorem dX7_pass_128 : decode cX7_pass 128 = .ok (.iload_n 2, 1) := by decide +kernel
theorem dX7_pass_129 : decode cX7_pass 129 = .ok (.invokevirtual 154, 3) := by decide +kernel
theorem dX7_pass_132 : decode cX7_pass 132 = .ok (.ifCond .eq 22, 3) := by decide +kernel
theorem dX7_pass_135 : decode cX7_pass 135 = .ok (.aload_n 0, 1) := by decide +kernel
theorem dX7_pass_136 : decode cX7_pass 136 = .ok (.getfield 7, 3) := by decide +kernel
theorem dX7_pass_139 : decode cX7_pass 139 = .ok (.bipush 16, 2) := by decide +kernel
theorem dX7_pass_141 : decode cX7_pass 141 = .ok (.iload_n 2, 1) := by decide +kernel
theorem dX7_pass_142 : decode cX7_pass 142 = .ok (.iadd, 1) := by decide +kernel
theorem dX7_pass_143 : decode cX7_pass 143 = .ok (.iaload, 1) := by decide +kernel
theorem dX7_pass_144 : decode cX7_pass 144 = .ok (.sipush 9999, 3) := by decide +kernel
theorem dX7_pass_147 : decode cX7_pass 147 = .ok (.if_icmp .ge 7, 3) := by decide +kernel
theorem dX7_pass_150 : decode cX7_pass 150 = .ok (.iconst 1, 1) := by decide +kernel
theorem dX7_pass_151 : decode cX7_pass 151 = .ok (.goto 4, 3) := by decide +kernel
theorem dX7_pass_154 : decode cX7_pass 154 = .ok (.iconst 0, 1) := by decide +kernel
theorem dX7_pass_155 : decode cX7_pass 155 = .ok (.invokestatic 157, 3) := by decide +kernel
theorem dX7_pass_158 : decode cX7_pass 158 = .ok (.iadd, 1) := by decide +kernel
theorem dX7_pass_159 : decode cX7_pass 159 = .ok (.iastore, 1) := by decide +kernel
theorem dX7_pass_160 : decode cX7_pass 160 = .ok (.iinc 2 1, 3) := by decide +kernel
theorem dX7_pass_163 : decode cX7_pass 163 = .ok (.goto (-57), 3) := by decide +kernel
theorem dX7_pass_166 : decode cX7_pass 166 = .ok (.return_, 1) := by decide +kernel
theorem dX7_softYards_0 : decode cX7_softYards 0 = .ok (.iconst 0, 1) := by decide +kernel
theorem dX7_softYards_1 : decode cX7_softYards 1 = .ok (.istore_n 1, 1) := by decide +kernel
theorem dX7_softYards_2 : decode cX7_softYards 2 = .ok (.iconst 0, 1) := by decide +kernel
theorem dX7_softYards_3 : decode cX7_softYards 3 = .ok (.istore_n 2, 1) := by decide +kernel
theorem dX7_softYards_4 : decode cX7_softYards 4 = .ok (.iload_n 2, 1) := by decide +kernel
theorem dX7_softYards_5 : decode cX7_softYards 5 = .ok (.aload_n 0, 1) := by decide +kernel
theorem dX7_softYards_6 : decode cX7_softYards 6 = .ok (.getfield 36, 3) := by decide +kernel
theorem dX7_softYards_9 : decode cX7_softYards 9 = .ok (.iconst 0, 1) := by decide +kernel
theorem dX7_softYards_10 : decode cX7_softYards 10 = .ok (.iaload, 1) := by decide +kernel
theorem dX7_softYards_11 : decode cX7_softYards 11 = .ok (.if_icmp .ge 31, 3) := by decide +kernel
theorem dX7_softYards_14 : decode cX7_softYards 14 = .ok (.iload_n 1, 1) := by decide +kernel
theorem dX7_softYards_15 : decode cX7_softYards 15 = .ok (.aload_n 0, 1) := by decide +kernel
theorem dX7_softYards_16 : decode cX7_softYards 16 = .ok (.getfield 7, 3) := by decide +kernel
theorem dX7_softYards_19 : decode cX7_softYards 19 = .ok (.iload_n 2, 1) := by decide +kernel
theorem dX7_softYards_20 : decode cX7_softYards 20 = .ok (.iaload, 1) := by decide +kernel
theorem dX7_softYards_21 : decode cX7_softYards 21 = .ok (.ifCond .ne 7, 3) := by decide +kernel
theorem dX7_softYards_24 : decode cX7_softYards 24 = .ok (.iconst 1, 1) := by decide +kernel
theorem dX7_softYards_25 : decode cX7_softYards 25 = .ok (.goto 4, 3) := by decide +kernel
theorem dX7_softYards_28 : decode cX7_softYards 28 = .ok (.iconst 0, 1) := by decide +kernel
theorem dX7_softYards_29 : decode cX7_softYards 29 = .ok (.invokestatic 157, 3) := by decide +kernel
theorem dX7_softYards_32 : decode cX7_softYards 32 = .ok (.iload_n 2, 1) := by decide +kernel
theorem dX7_softYards_33 : decode cX7_softYards 33 = .ok (.ishl, 1) := by decide +kernel
theorem dX7_softYards_34 : decode cX7_softYards 34 = .ok (.ior, 1) := by decide +kernel
theorem dX7_softYards_35 : decode cX7_softYards 35 = .ok (.istore_n 1, 1) := by decide +kernel
theorem dX7_softYards_36 : decode cX7_softYards 36 = .ok (.iinc 2 1, 3) := by decide +kernel
theorem dX7_softYards_39 : decode cX7_softYards 39 = .ok (.goto (-35), 3) := by decide +kernel
theorem dX7_softYards_42 : decode cX7_softYards 42 = .ok (.iload_n 1, 1) := by decide +kernel
theorem dX7_softYards_43 : decode cX7_softYards 43 = .ok (.ireturn, 1) := by decide +kernel
theorem dX7_day_0 : decode cX7_day 0 = .ok (.iload_n 1, 1) := by decide +kernel
theorem dX7_day_1 : decode cX7_day 1 = .ok (.i2l, 1) := by decide +kernel
theorem dX7_day_2 : decode cX7_day 2 = .ok (.ldc2_w 204, 3) := by decide +kernel
theorem dX7_day_5 : decode cX7_day 5 = .ok (.ldc2_w 206, 3) := by decide +kernel
theorem dX7_day_8 : decode cX7_day 8 = .ok (.invokestatic 77, 3) := by decide +kernel
theorem dX7_day_11 : decode cX7_day 11 = .ok (.ifCond .ne 6, 3) := by decide +kernel
theorem dX7_day_14 : decode cX7_day 14 = .ok (.ldc 81, 2) := by decide +kernel
theorem dX7_day_16 : decode cX7_day 16 = .ok (.ireturn, 1) := by decide +kernel
theorem dX7_day_17 : decode cX7_day 17 = .ok (.aload_n 0, 1) := by decide +kernel
theorem dX7_day_18 : decode cX7_day 18 = .ok (.iload_n 1, 1) := by decide +kernel
theorem dX7_day_19 : decode cX7_day 19 = .ok (.invokevirtual 208, 3) := by decide +kernel
theorem dX7_day_22 : decode cX7_day 22 = .ok (.aload_n 0, 1) := by decide +kernel
theorem dX7_day_23 : decode cX7_day 23 = .ok (.invokevirtual 212, 3) := by decide +kernel
theorem dX7_day_26 : decode cX7_day 26 = .ok (.ireturn, 1) := by decide +kernel
theorem dX7_draw_0 : decode cX7_draw 0 = .ok (.aload_n 0, 1) := by decide +kernel
theorem dX7_draw_1 : decode cX7_draw 1 = .ok (.getfield 7, 3) := by decide +kernel
theorem dX7_draw_4 : decode cX7_draw 4 = .ok (.bipush 73, 2) := by decide +kernel
theorem dX7_draw_6 : decode cX7_draw 6 = .ok (.aload_n 0, 1) := by decide +kernel
theorem dX7_draw_7 : decode cX7_draw 7 = .ok (.getfield 7, 3) := by decide +kernel
theorem dX7_draw_10 : decode cX7_draw 10 = .ok (.bipush 73, 2) := by decide +kernel
theorem dX7_draw_12 : decode cX7_draw 12 = .ok (.iaload, 1) := by decide +kernel
theorem dX7_draw_13 : decode cX7_draw 13 = .ok (.i2l, 1) := by decide +kernel
theorem dX7_draw_14 : decode cX7_draw 14 = .ok (.ldc2_w 215, 3) := by decide +kernel
theorem dX7_draw_17 : decode cX7_draw 17 = .ok (.lmul, 1) := by decide +kernel
theorem dX7_draw_18 : decode cX7_draw 18 = .ok (.ldc2_w 217, 3) := by decide +kernel
theorem dX7_draw_21 : decode cX7_draw 21 = .ok (.ladd, 1) := by decide +kernel
theorem dX7_draw_22 : decode cX7_draw 22 = .ok (.ldc2_w 219, 3) := by decide +kernel
theorem dX7_draw_25 : decode cX7_draw 25 = .ok (.lrem, 1) := by decide +kernel
theorem dX7_draw_26 : decode cX7_draw 26 = .ok (.l2i, 1) := by decide +kernel
theorem dX7_draw_27 : decode cX7_draw 27 = .ok (.iastore, 1) := by decide +kernel
theorem dX7_draw_28 : decode cX7_draw 28 = .ok (.aload_n 0, 1) := by decide +kernel
theorem dX7_draw_29 : decode cX7_draw 29 = .ok (.getfield 7, 3) := by decide +kernel
theorem dX7_draw_32 : decode cX7_draw 32 = .ok (.bipush 73, 2) := by decide +kernel
theorem dX7_draw_34 : decode cX7_draw 34 = .ok (.iaload, 1) := by decide +kernel
theorem dX7_draw_35 : decode cX7_draw 35 = .ok (.ldc 221, 2) := by decide +kernel
theorem dX7_draw_37 : decode cX7_draw 37 = .ok (.idiv, 1) := by decide +kernel
theorem dX7_draw_38 : decode cX7_draw 38 = .ok (.iload_n 1, 1) := by decide +kernel
theorem dX7_draw_39 : decode cX7_draw 39 = .ok (.irem, 1) := by decide +kernel
theorem dX7_draw_40 : decode cX7_draw 40 = .ok (.ireturn, 1) := by decide +kernel
theorem dX7_gnaw_0 : decode cX7_gnaw 0 = .ok (.iconst 0, 1) := by decide +kernel
theorem dX7_gnaw_1 : decode cX7_gnaw 1 = .ok (.istore_n 2, 1) := by decide +kernel
theorem dX7_gnaw_2 : decode cX7_gnaw 2 = .ok (.iload_n 2, 1) := by decide +kernel
theorem dX7_gnaw_3 : decode cX7_gnaw 3 = .ok (.aload_n 0, 1) := by decide +kernel
theorem dX7_gnaw_4 : decode cX7_gnaw 4 = .ok (.getfield 36, 3) := by decide +kernel
theorem dX7_gnaw_7 : decode cX7_gnaw 7 = .ok (.iconst 1, 1) := by decide +kernel
theorem dX7_gnaw_8 : decode cX7_gnaw 8 = .ok (.iaload, 1) := by decide +kernel
theorem dX7_gnaw_9 : decode cX7_gnaw 9 = .ok (.if_icmp .ge 53, 3) := by decide +kernel
theorem dX7_gnaw_12 : decode cX7_gnaw 12 = .ok (.aload_n 0, 1) := by decide +kernel
theorem dX7_gnaw_13 : decode cX7_gnaw 13 = .ok (.iconst 0, 1) := by decide +kernel
theorem dX7_gnaw_14 : decode cX7_gnaw 14 = .ok (.iload_n 2, 1) := by decide +kernel
theorem dX7_gnaw_15 : decode cX7_gnaw 15 = .ok (.invokevirtual 154, 3) := by decide +kernel
theorem dX7_gnaw_18 : decode cX7_gnaw 18 = .ok (.ifCond .eq 38, 3) := by decide +kernel
theorem dX7_gnaw_21 : decode cX7_gnaw 21 = .ok (.aload_n 0, 1) := by decide +kernel
theorem dX7_gnaw_22 : decode cX7_gnaw 22 = .ok (.bipush 10, 2) := by decide +kernel
theorem dX7_gnaw_24 : decode cX7_gnaw 24 = .ok (.invokevirtual 222, 3) := by decide +kernel
theorem dX7_gnaw_27 : decode cX7_gnaw 27 = .ok (.iload_n 1, 1) := by decide +kernel
theorem dX7_gnaw_28 : decode cX7_gnaw 28 = .ok (.if_icmp .ge 28, 3) := by decide +kernel
theorem dX7_gnaw_31 : decode cX7_gnaw 31 = .ok (.aload_n 0, 1) := by decide +kernel
theorem dX7_gnaw_32 : decode cX7_gnaw 32 = .ok (.getfield 7, 3) := by decide +kernel
theorem dX7_gnaw_35 : decode cX7_gnaw 35 = .ok (.bipush 32, 2) := by decide +kernel
theorem dX7_gnaw_37 : decode cX7_gnaw 37 = .ok (.iload_n 2, 1) := by decide +kernel
theorem dX7_gnaw_38 : decode cX7_gnaw 38 = .ok (.iadd, 1) := by decide +kernel
theorem dX7_gnaw_39 : decode cX7_gnaw 39 = .ok (.iaload, 1) := by decide +kernel
theorem dX7_gnaw_40 : decode cX7_gnaw 40 = .ok (.ifCond .le 16, 3) := by decide +kernel
theorem dX7_gnaw_43 : decode cX7_gnaw 43 = .ok (.aload_n 0, 1) := by decide +kernel
theorem dX7_gnaw_44 : decode cX7_gnaw 44 = .ok (.getfield 7, 3) := by decide +kernel
theorem dX7_gnaw_47 : decode cX7_gnaw 47 = .ok (.bipush 32, 2) := by decide +kernel
theorem dX7_gnaw_49 : decode cX7_gnaw 49 = .ok (.iload_n 2, 1) := by decide +kernel
theorem dX7_gnaw_50 : decode cX7_gnaw 50 = .ok (.iadd, 1) := by decide +kernel
theorem dX7_gnaw_51 : decode cX7_gnaw 51 = .ok (.dup2, 1) := by decide +kernel
theorem dX7_gnaw_52 : decode cX7_gnaw 52 = .ok (.iaload, 1) := by decide +kernel
theorem dX7_gnaw_53 : decode cX7_gnaw 53 = .ok (.iconst 1, 1) := by decide +kernel
theorem dX7_gnaw_54 : decode cX7_gnaw 54 = .ok (.isub, 1) := by decide +kernel
theorem dX7_gnaw_55 : decode cX7_gnaw 55 = .ok (.iastore, 1) := by decide +kernel
theorem dX7_gnaw_56 : decode cX7_gnaw 56 = .ok (.iinc 2 1, 3) := by decide +kernel
theorem dX7_gnaw_59 : decode cX7_gnaw 59 = .ok (.goto (-57), 3) := by decide +kernel
theorem dX7_gnaw_62 : decode cX7_gnaw 62 = .ok (.return_, 1) := by decide +kernel
theorem dX7_rats_0 : decode cX7_rats 0 = .ok (.iload_n 1, 1) := by decide +kernel
theorem dX7_rats_1 : decode cX7_rats 1 = .ok (.i2l, 1) := by decide +kernel
theorem dX7_rats_2 : decode cX7_rats 2 = .ok (.lconst 1, 1) := by decide +kernel
theorem dX7_rats_3 : decode cX7_rats 3 = .ok (.ldc2_w 196, 3) := by decide +kernel
theorem dX7_rats_6 : decode cX7_rats 6 = .ok (.invokestatic 77, 3) := by decide +kernel
theorem dX7_rats_9 : decode cX7_rats 9 = .ok (.ifCond .eq 15, 3) := by decide +kernel
theorem dX7_rats_12 : decode cX7_rats 12 = .ok (.iload_n 2, 1) := by decide +kernel
theorem dX7_rats_13 : decode cX7_rats 13 = .ok (.i2l, 1) := by decide +kernel
theorem dX7_rats_14 : decode cX7_rats 14 = .ok (.lconst 0, 1) := by decide +kernel
theorem dX7_rats_15 : decode cX7_rats 15 = .ok (.ldc2_w 225, 3) := by decide +kernel
theorem dX7_rats_18 : decode cX7_rats 18 = .ok (.invokestatic 77, 3) := by decide +kernel
theorem dX7_rats_21 : decode cX7_rats 21 = .ok (.ifCond .ne 6, 3) := by decide +kernel
theorem dX7_rats_24 : decode cX7_rats 24 = .ok (.ldc 81, 2) := by decide +kernel
theorem dX7_rats_26 : decode cX7_rats 26 = .ok (.ireturn, 1) := by decide +kernel
theorem dX7_rats_27 : decode cX7_rats 27 = .ok (.iconst 0, 1) := by decide +kernel
theorem dX7_rats_28 : decode cX7_rats 28 = .ok (.istore_n 3, 1) := by decide +kernel
theorem dX7_rats_29 : decode cX7_rats 29 = .ok (.iload_n 3, 1) := by decide +kernel
theorem dX7_rats_30 : decode cX7_rats 30 = .ok (.iload_n 1, 1) := by decide +kernel
theorem dX7_rats_31 : decode cX7_rats 31 = .ok (.if_icmp .ge 14, 3) := by decide +kernel
theorem dX7_rats_34 : decode cX7_rats 34 = .ok (.aload_n 0, 1) := by decide +kernel
theorem dX7_rats_35 : decode cX7_rats 35 = .ok (.iload_n 2, 1) := by decide +kernel
theorem dX7_rats_36 : decode cX7_rats 36 = .ok (.invokevirtual 227, 3) := by decide +kernel
theorem dX7_rats_39 : decode cX7_rats 39 = .ok (.iinc 3 1, 3) := by decide +kernel
theorem dX7_rats_42 : decode cX7_rats 42 = .ok (.goto (-13), 3) := by decide +kernel
theorem dX7_rats_45 : decode cX7_rats 45 = .ok (.iconst 0, 1) := by decide +kernel
theorem dX7_rats_46 : decode cX7_rats 46 = .ok (.istore_n 3, 1) := by decide +kernel
theorem dX7_rats_47 : decode cX7_rats 47 = .ok (.iconst 0, 1) := by decide +kernel
theorem dX7_rats_48 : decode cX7_rats 48 = .ok (.istore 4, 2) := by decide +kernel
theorem dX7_rats_50 : decode cX7_rats 50 = .ok (.iload 4, 2) := by decide +kernel
theorem dX7_rats_52 : decode cX7_rats 52 = .ok (.aload_n 0, 1) := by decide +kernel
theorem dX7_rats_53 : decode cX7_rats 53 = .ok (.getfield 36, 3) := by decide +kernel
theorem dX7_rats_56 : decode cX7_rats 56 = .ok (.iconst 1, 1) := by decide +kernel
theorem dX7_rats_57 : decode cX7_rats 57 = .ok (.iaload, 1) := by decide +kernel
theorem dX7_rats_58 : decode cX7_rats 58 = .ok (.if_icmp .ge 46, 3) := by decide +kernel
theorem dX7_rats_61 : decode cX7_rats 61 = .ok (.iload_n 3, 1) := by decide +kernel
theorem dX7_rats_62 : decode cX7_rats 62 = .ok (.aload_n 0, 1) := by decide +kernel
theorem dX7_rats_63 : decode cX7_rats 63 = .ok (.iconst 0, 1) := by decide +kernel
theorem dX7_rats_64 : decode cX7_rats 64 = .ok (.iload 4, 2) := by decide +kernel
theorem dX7_rats_66 : decode cX7_rats 66 = .ok (.invokevirtual 154, 3) := by decide +kernel
theorem dX7_rats_69 : decode cX7_rats 69 = .ok (.ifCond .eq 20, 3) := by decide +kernel
theorem dX7_rats_72 : decode cX7_rats 72 = .ok (.aload_n 0, 1) := by decide +kernel
theorem dX7_rats_73 : decode cX7_rats 73 = .ok (.getfield 7, 3) := by decide +kernel
theorem dX7_rats_76 : decode cX7_rats 76 = .ok (.bipush 32, 2) := by decide +kernel
theorem dX7_rats_78 : decode cX7_rats 78 = .ok (.iload 4, 2) := by decide +kernel
theorem dX7_rats_80 : decode cX7_rats 80 = .ok (.iadd, 1) := by decide +kernel
theorem dX7_rats_81 : decode cX7_rats 81 = .ok (.iaload, 1) := by decide +kernel
theorem dX7_rats_82 : decode cX7_rats 82 = .ok (.ifCond .ne 7, 3) := by decide +kernel
theorem dX7_rats_85 : decode cX7_rats 85 = .ok (.iconst 1, 1) := by decide +kernel
theorem dX7_rats_86 : decode cX7_rats 86 = .ok (.goto 4, 3) := by decide +kernel
theorem dX7_rats_89 : decode cX7_rats 89 = .ok (.iconst 0, 1) := by decide +kernel
theorem dX7_rats_90 : decode cX7_rats 90 = .ok (.invokestatic 157, 3) := by decide +kernel
theorem dX7_rats_93 : decode cX7_rats 93 = .ok (.iload 4, 2) := by decide +kernel
theorem dX7_rats_95 : decode cX7_rats 95 = .ok (.ishl, 1) := by decide +kernel
theorem dX7_rats_96 : decode cX7_rats 96 = .ok (.ior, 1) := by decide +kernel
theorem dX7_rats_97 : decode cX7_rats 97 = .ok (.istore_n 3, 1) := by decide +kernel
theorem dX7_rats_98 : decode cX7_rats 98 = .ok (.iinc 4 1, 3) := by decide +kernel
theorem dX7_rats_101 : decode cX7_rats 101 = .ok (.goto (-51), 3) := by decide +kernel
theorem dX7_rats_104 : decode cX7_rats 104 = .ok (.iload_n 3, 1) := by decide +kernel
theorem dX7_rats_105 : decode cX7_rats 105 = .ok (.ireturn, 1) := by decide +kernel
theorem dX7_layIn_0 : decode cX7_layIn 0 = .ok (.aload_n 0, 1) := by decide +kernel
theorem dX7_layIn_1 : decode cX7_layIn 1 = .ok (.getfield 7, 3) := by decide +kernel
theorem dX7_layIn_4 : decode cX7_layIn 4 = .ok (.iload_n 1, 1) := by decide +kernel
theorem dX7_layIn_5 : decode cX7_layIn 5 = .ok (.iload_n 3, 1) := by decide +kernel
theorem dX7_layIn_6 : decode cX7_layIn 6 = .ok (.iadd, 1) := by decide +kernel
theorem dX7_layIn_7 : decode cX7_layIn 7 = .ok (.iaload, 1) := by decide +kernel
theorem dX7_layIn_8 : decode cX7_layIn 8 = .ok (.iconst 4, 1) := by decide +kernel
theorem dX7_layIn_9 : decode cX7_layIn 9 = .ok (.iadd, 1) := by decide +kernel
theorem dX7_layIn_10 : decode cX7_layIn 10 = .ok (.istore 4, 2) := by decide +kernel
theorem dX7_layIn_12 : decode cX7_layIn 12 = .ok (.aload_n 0, 1) := by decide +kernel
theorem dX7_layIn_13 : decode cX7_layIn 13 = .ok (.getfield 7, 3) := by decide +kernel
theorem dX7_layIn_16 : decode cX7_layIn 16 = .ok (.iload_n 1, 1) := by decide +kernel
theorem dX7_layIn_17 : decode cX7_layIn 17 = .ok (.iload_n 3, 1) := by decide +kernel
theorem dX7_layIn_18 : decode cX7_layIn 18 = .ok (.iadd, 1) := by decide +kernel
theorem dX7_layIn_19 : decode cX7_layIn 19 = .ok (.iconst 0, 1) := by decide +kernel
theorem dX7_layIn_20 : decode cX7_layIn 20 = .ok (.iastore, 1) := by decide +kernel
theorem dX7_layIn_21 : decode cX7_layIn 21 = .ok (.aload_n 0, 1) := by decide +kernel
theorem dX7_layIn_22 : decode cX7_layIn 22 = .ok (.getfield 7, 3) := by decide +kernel
theorem dX7_layIn_25 : decode cX7_layIn 25 = .ok (.iload_n 1, 1) := by decide +kernel
theorem dX7_layIn_26 : decode cX7_layIn 26 = .ok (.bipush 40, 2) := by decide +kernel
theorem dX7_layIn_28 : decode cX7_layIn 28 = .ok (.iadd, 1) := by decide +kernel
theorem dX7_layIn_29 : decode cX7_layIn 29 = .ok (.iload_n 2, 1) := by decide +kernel
theorem dX7_layIn_30 : decode cX7_layIn 30 = .ok (.iadd, 1) := by decide +kernel
theorem dX7_layIn_31 : decode cX7_layIn 31 = .ok (.iload_n 3, 1) := by decide +kernel
theorem dX7_layIn_32 : decode cX7_layIn 32 = .ok (.iastore, 1) := by decide +kernel
theorem dX7_layIn_33 : decode cX7_layIn 33 = .ok (.aload_n 0, 1) := by decide +kernel
theorem dX7_layIn_34 : decode cX7_layIn 34 = .ok (.getfield 7, 3) := by decide +kernel
theorem dX7_layIn_37 : decode cX7_layIn 37 = .ok (.iload_n 1, 1) := by decide +kernel
theorem dX7_layIn_38 : decode cX7_layIn 38 = .ok (.bipush 72, 2) := by decide +kernel
theorem dX7_layIn_40 : decode cX7_layIn 40 = .ok (.iadd, 1) := by decide +kernel
theorem dX7_layIn_41 : decode cX7_layIn 41 = .ok (.dup2, 1) := by decide +kernel
theorem dX7_layIn_42 : decode cX7_layIn 42 = .ok (.iaload, 1) := by decide +kernel
theorem dX7_layIn_43 : decode cX7_layIn 43 = .ok (.iload 4, 2) := by decide +kernel
theorem dX7_layIn_45 : decode cX7_layIn 45 = .ok (.iadd, 1) := by decide +kernel
theorem dX7_layIn_46 : decode cX7_layIn 46 = .ok (.iastore, 1) := by decide +kernel
theorem dX7_layIn_47 : decode cX7_layIn 47 = .ok (.iload 4, 2) := by decide +kernel
theorem dX7_layIn_49 : decode cX7_layIn 49 = .ok (.ireturn, 1) := by decide +kernel
theorem dX7_lay_0 : decode cX7_lay 0 = .ok (.aload_n 0, 1) := by decide +kernel
theorem dX7_lay_1 : decode cX7_lay 1 = .ok (.iload_n 1, 1) := by decide +kernel
theorem dX7_lay_2 : decode cX7_lay 2 = .ok (.invokevirtual 190, 3) := by decide +kernel
theorem dX7_lay_5 : decode cX7_lay 5 = .ok (.ifCond .eq 11, 3) := by decide +kernel
theorem dX7_lay_8 : decode cX7_lay 8 = .ok (.aload_n 0, 1) := by decide +kernel
theorem dX7_lay_9 : decode cX7_lay 9 = .ok (.iload_n 2, 1) := by decide +kernel
theorem dX7_lay_10 : decode cX7_lay 10 = .ok (.invokevirtual 182, 3) := by decide +kernel
theorem dX7_lay_13 : decode cX7_lay 13 = .ok (.ifCond .ne 6, 3) := by decide +kernel
theorem dX7_lay_16 : decode cX7_lay 16 = .ok (.ldc 186, 2) := by decide +kernel
theorem dX7_lay_18 : decode cX7_lay 18 = .ok (.ireturn, 1) := by decide +kernel
theorem dX7_lay_19 : decode cX7_lay 19 = .ok (.aload_n 0, 1) := by decide +kernel
theorem dX7_lay_20 : decode cX7_lay 20 = .ok (.iconst 0, 1) := by decide +kernel
theorem dX7_lay_21 : decode cX7_lay 21 = .ok (.iload_n 1, 1) := by decide +kernel
theorem dX7_lay_22 : decode cX7_lay 22 = .ok (.invokevirtual 154, 3) := by decide +kernel
theorem dX7_lay_25 : decode cX7_lay 25 = .ok (.ifCond .eq 22, 3) := by decide +kernel
theorem dX7_lay_28 : decode cX7_lay 28 = .ok (.aload_n 0, 1) := by decide +kernel
theorem dX7_lay_29 : decode cX7_lay 29 = .ok (.iconst 0, 1) := by decide +kernel
theorem dX7_lay_30 : decode cX7_lay 30 = .ok (.iload_n 2, 1) := by decide +kernel
theorem dX7_lay_31 : decode cX7_lay 31 = .ok (.invokevirtual 187, 3) := by decide +kernel
theorem dX7_lay_34 : decode cX7_lay 34 = .ok (.ifCond .ge 13, 3) := by decide +kernel
theorem dX7_lay_37 : decode cX7_lay 37 = .ok (.aload_n 0, 1) := by decide +kernel
theorem dX7_lay_38 : decode cX7_lay 38 = .ok (.iconst 0, 1) := by decide +kernel
theorem dX7_lay_39 : decode cX7_lay 39 = .ok (.iload_n 1, 1) := by decide +kernel
theorem dX7_lay_40 : decode cX7_lay 40 = .ok (.iload_n 2, 1) := by decide +kernel
theorem dX7_lay_41 : decode cX7_lay 41 = .ok (.invokevirtual 230, 3) := by decide +kernel
theorem dX7_lay_44 : decode cX7_lay 44 = .ok (.goto 5, 3) := by decide +kernel
theorem dX7_lay_47 : decode cX7_lay 47 = .ok (.ldc 200, 2) := by decide +kernel
theorem dX7_lay_49 : decode cX7_lay 49 = .ok (.ireturn, 1) := by decide +kernel
theorem dX7_leastSoft_0 : decode cX7_leastSoft 0 = .ok (.iconst 0, 1) := by decide +kernel
theorem dX7_leastSoft_1 : decode cX7_leastSoft 1 = .ok (.istore_n 1, 1) := by decide +kernel
theorem dX7_leastSoft_2 : decode cX7_leastSoft 2 = .ok (.iload_n 1, 1) := by decide +kernel
theorem dX7_leastSoft_3 : decode cX7_leastSoft 3 = .ok (.aload_n 0, 1) := by decide +kernel
theorem dX7_leastSoft_4 : decode cX7_leastSoft 4 = .ok (.getfield 36, 3) := by decide +kernel
theorem dX7_leastSoft_7 : decode cX7_leastSoft 7 = .ok (.iconst 0, 1) := by decide +kernel
theorem dX7_leastSoft_8 : decode cX7_leastSoft 8 = .ok (.iaload, 1) := by decide +kernel
theorem dX7_leastSoft_9 : decode cX7_leastSoft 9 = .ok (.if_icmp .ge 29, 3) := by decide +kernel
theorem dX7_leastSoft_12 : decode cX7_leastSoft 12 = .ok (.aload_n 0, 1) := by decide +kernel
theorem dX7_leastSoft_13 : decode cX7_leastSoft 13 = .ok (.getfield 7, 3) := by decide +kernel
theorem dX7_leastSoft_16 : decode cX7_leastSoft 16 = .ok (.iload_n 1, 1) := by decide +kernel
theorem dX7_leastSoft_17 : decode cX7_leastSoft 17 = .ok (.iaload, 1) := by decide +kernel
theorem dX7_leastSoft_18 : decode cX7_leastSoft 18 = .ok (.ifCond .ne 14, 3) := by decide +kernel
theorem dX7_leastSoft_21 : decode cX7_leastSoft 21 = .ok (.aload_n 0, 1) := by decide +kernel
theorem dX7_leastSoft_22 : decode cX7_leastSoft 22 = .ok (.iconst 0, 1) := by decide +kernel
theorem dX7_leastSoft_23 : decode cX7_leastSoft 23 = .ok (.iload_n 1, 1) := by decide +kernel
theorem dX7_leastSoft_24 : decode cX7_leastSoft 24 = .ok (.invokevirtual 187, 3) := by decide +kernel
theorem dX7_leastSoft_27 : decode cX7_leastSoft 27 = .ok (.ifCond .ge 5, 3) := by decide +kernel
theorem dX7_leastSoft_30 : decode cX7_leastSoft 30 = .ok (.iload_n 1, 1) := by decide +kernel
theorem dX7_leastSoft_31 : decode cX7_leastSoft 31 = .ok (.ireturn, 1) := by decide +kernel
theorem dX7_leastSoft_32 : decode cX7_leastSoft 32 = .ok (.iinc 1 1, 3) := by decide +kernel
theorem dX7_leastSoft_35 : decode cX7_leastSoft 35 = .ok (.goto (-33), 3) := by decide +kernel
theorem dX7_leastSoft_38 : decode cX7_leastSoft 38 = .ok (.iconst (-1), 1) := by decide +kernel
theorem dX7_leastSoft_39 : decode cX7_leastSoft 39 = .ok (.ireturn, 1) := by decide +kernel
theorem dX7_spring_0 : decode cX7_spring 0 = .ok (.iload_n 1, 1) := by decide +kernel
theorem dX7_spring_1 : decode cX7_spring 1 = .ok (.i2l, 1) := by decide +kernel
theorem dX7_spring_2 : decode cX7_spring 2 = .ok (.lconst 1, 1) := by decide +kernel
theorem dX7_spring_3 : decode cX7_spring 3 = .ok (.ldc2_w 196, 3) := by decide +kernel
theorem dX7_spring_6 : decode cX7_spring 6 = .ok (.invokestatic 77, 3) := by decide +kernel
theorem dX7_spring_9 : decode cX7_spring 9 = .ok (.ifCond .eq 15, 3) := by decide +kernel
theorem dX7_spring_12 : decode cX7_spring 12 = .ok (.iload_n 2, 1) := by decide +kernel
theorem dX7_spring_13 : decode cX7_spring 13 = .ok (.i2l, 1) := by decide +kernel
theorem dX7_spring_14 : decode cX7_spring 14 = .ok (.lconst 0, 1) := by decide +kernel
theorem dX7_spring_15 : decode cX7_spring 15 = .ok (.ldc2_w 206, 3) := by decide +kernel
theorem dX7_spring_18 : decode cX7_spring 18 = .ok (.invokestatic 77, 3) := by decide +kernel
theorem dX7_spring_21 : decode cX7_spring 21 = .ok (.ifCond .ne 6, 3) := by decide +kernel
theorem dX7_spring_24 : decode cX7_spring 24 = .ok (.ldc 81, 2) := by decide +kernel
theorem dX7_spring_26 : decode cX7_spring 26 = .ok (.ireturn, 1) := by decide +kernel
theorem dX7_spring_27 : decode cX7_spring 27 = .ok (.iconst 0, 1) := by decide +kernel
theorem dX7_spring_28 : decode cX7_spring 28 = .ok (.istore_n 3, 1) := by decide +kernel
theorem dX7_spring_29 : decode cX7_spring 29 = .ok (.iload_n 3, 1) := by decide +kernel
theorem dX7_spring_30 : decode cX7_spring 30 = .ok (.iload_n 1, 1) := by decide +kernel
theorem dX7_spring_31 : decode cX7_spring 31 = .ok (.if_icmp .ge 84, 3) := by decide +kernel
theorem dX7_spring_34 : decode cX7_spring 34 = .ok (.aload_n 0, 1) := by decide +kernel
theorem dX7_spring_35 : decode cX7_spring 35 = .ok (.bipush 12, 2) := by decide +kernel
theorem dX7_spring_37 : decode cX7_spring 37 = .ok (.invokevirtual 222, 3) := by decide +kernel
theorem dX7_spring_40 : decode cX7_spring 40 = .ok (.iconst 3, 1) := by decide +kernel
theorem dX7_spring_41 : decode cX7_spring 41 = .ok (.isub, 1) := by decide +kernel
theorem dX7_spring_42 : decode cX7_spring 42 = .ok (.istore 4, 2) := by decide +kernel
theorem dX7_spring_44 : decode cX7_spring 44 = .ok (.aload_n 0, 1) := by decide +kernel
theorem dX7_spring_45 : decode cX7_spring 45 = .ok (.iload 4, 2) := by decide +kernel
theorem dX7_spring_47 : decode cX7_spring 47 = .ok (.invokevirtual 208, 3) := by decide +kernel
theorem dX7_spring_50 : decode cX7_spring 50 = .ok (.aload_n 0, 1) := by decide +kernel
theorem dX7_spring_51 : decode cX7_spring 51 = .ok (.iconst 2, 1) := by decide +kernel
theorem dX7_spring_52 : decode cX7_spring 52 = .ok (.invokevirtual 227, 3) := by decide +kernel
theorem dX7_spring_55 : decode cX7_spring 55 = .ok (.iconst 0, 1) := by decide +kernel
theorem dX7_spring_56 : decode cX7_spring 56 = .ok (.istore 5, 2) := by decide +kernel
theorem dX7_spring_58 : decode cX7_spring 58 = .ok (.iload 5, 2) := by decide +kernel
theorem dX7_spring_60 : decode cX7_spring 60 = .ok (.iload_n 2, 1) := by decide +kernel
theorem dX7_spring_61 : decode cX7_spring 61 = .ok (.if_icmp .ge 48, 3) := by decide +kernel
theorem dX7_spring_64 : decode cX7_spring 64 = .ok (.aload_n 0, 1) := by decide +kernel
theorem dX7_spring_65 : decode cX7_spring 65 = .ok (.iconst 0, 1) := by decide +kernel
theorem dX7_spring_66 : decode cX7_spring 66 = .ok (.iconst 0, 1) := by decide +kernel
theorem dX7_spring_67 : decode cX7_spring 67 = .ok (.invokevirtual 193, 3) := by decide +kernel
theorem dX7_spring_70 : decode cX7_spring 70 = .ok (.istore 6, 2) := by decide +kernel
theorem dX7_spring_72 : decode cX7_spring 72 = .ok (.aload_n 0, 1) := by decide +kernel
theorem dX7_spring_73 : decode cX7_spring 73 = .ok (.invokevirtual 233, 3) := by decide +kernel
theorem dX7_spring_76 : decode cX7_spring 76 = .ok (.istore 7, 2) := by decide +kernel
theorem dX7_spring_78 : decode cX7_spring 78 = .ok (.iload 6, 2) := by decide +kernel
theorem dX7_spring_80 : decode cX7_spring 80 = .ok (.ifCond .lt 8, 3) := by decide +kernel
theorem dX7_spring_83 : decode cX7_spring 83 = .ok (.iload 7, 2) := by decide +kernel
theorem dX7_spring_85 : decode cX7_spring 85 = .ok (.ifCond .ge 7, 3) := by decide +kernel
theorem dX7_spring_88 : decode cX7_spring 88 = .ok (.iconst 0, 1) := by decide +kernel
theorem dX7_spring_89 : decode cX7_spring 89 = .ok (.goto 12, 3) := by decide +kernel
theorem dX7_spring_92 : decode cX7_spring 92 = .ok (.aload_n 0, 1) := by decide +kernel
theorem dX7_spring_93 : decode cX7_spring 93 = .ok (.iconst 0, 1) := by decide +kernel
theorem dX7_spring_94 : decode cX7_spring 94 = .ok (.iload 6, 2) := by decide +kernel
theorem dX7_spring_96 : decode cX7_spring 96 = .ok (.iload 7, 2) := by decide +kernel
theorem dX7_spring_98 : decode cX7_spring 98 = .ok (.invokevirtual 230, 3) := by decide +kernel
theorem dX7_spring_101 : decode cX7_spring 101 = .ok (.istore 8, 2) := by decide +kernel
theorem dX7_spring_103 : decode cX7_spring 103 = .ok (.iinc 5 1, 3) := by decide +kernel
theorem dX7_spring_106 : decode cX7_spring 106 = .ok (.goto (-48), 3) := by decide +kernel
theorem dX7_spring_109 : decode cX7_spring 109 = .ok (.iinc 3 1, 3) := by decide +kernel
theorem dX7_spring_112 : decode cX7_spring 112 = .ok (.goto (-83), 3) := by decide +kernel
theorem dX7_spring_115 : decode cX7_spring 115 = .ok (.aload_n 0, 1) := by decide +kernel
theorem dX7_spring_116 : decode cX7_spring 116 = .ok (.iconst 0, 1) := by decide +kernel
theorem dX7_spring_117 : decode cX7_spring 117 = .ok (.invokevirtual 179, 3) := by decide +kernel
theorem dX7_spring_120 : decode cX7_spring 120 = .ok (.invokestatic 236, 3) := by decide +kernel
theorem dX7_spring_123 : decode cX7_spring 123 = .ok (.ireturn, 1) := by decide +kernel
theorem dX7_offends_0 : decode cX7_offends 0 = .ok (.iload_n 3, 1) := by decide +kernel
theorem dX7_offends_1 : decode cX7_offends 1 = .ok (.iload_n 2, 1) := by decide +kernel
theorem dX7_offends_2 : decode cX7_offends 2 = .ok (.if_icmp .eq 70, 3) := by decide +kernel
theorem dX7_offends_5 : decode cX7_offends 5 = .ok (.aload_n 0, 1) := by decide +kernel
theorem dX7_offends_6 : decode cX7_offends 6 = .ok (.getfield 7, 3) := by decide +kernel
theorem dX7_offends_9 : decode cX7_offends 9 = .ok (.iload_n 1, 1) := by decide +kernel
theorem dX7_offends_10 : decode cX7_offends 10 = .ok (.bipush 40, 2) := by decide +kernel
theorem dX7_offends_12 : decode cX7_offends 12 = .ok (.iadd, 1) := by decide +kernel
theorem dX7_offends_13 : decode cX7_offends 13 = .ok (.iload_n 3, 1) := by decide +kernel
theorem dX7_offends_14 : decode cX7_offends 14 = .ok (.iadd, 1) := by decide +kernel
theorem dX7_offends_15 : decode cX7_offends 15 = .ok (.iaload, 1) := by decide +kernel
theorem dX7_offends_16 : decode cX7_offends 16 = .ok (.ifCond .lt 56, 3) := by decide +kernel
theorem dX7_offends_19 : decode cX7_offends 19 = .ok (.aload_n 0, 1) := by decide +kernel
theorem dX7_offends_20 : decode cX7_offends 20 = .ok (.getfield 7, 3) := by decide +kernel
theorem dX7_offends_23 : decode cX7_offends 23 = .ok (.iload_n 1, 1) := by decide +kernel
theorem dX7_offends_24 : decode cX7_offends 24 = .ok (.bipush 40, 2) := by decide +kernel
theorem dX7_offends_26 : decode cX7_offends 26 = .ok (.iadd, 1) := by decide +kernel
theorem dX7_offends_27 : decode cX7_offends 27 = .ok (.iload_n 2, 1) := by decide +kernel
theorem dX7_offends_28 : decode cX7_offends 28 = .ok (.iadd, 1) := by decide +kernel
theorem dX7_offends_29 : decode cX7_offends 29 = .ok (.iaload, 1) := by decide +kernel
theorem dX7_offends_30 : decode cX7_offends 30 = .ok (.ifCond .lt 42, 3) := by decide +kernel
theorem dX7_offends_33 : decode cX7_offends 33 = .ok (.aload_n 0, 1) := by decide +kernel
theorem dX7_offends_34 : decode cX7_offends 34 = .ok (.iload_n 1, 1) := by decide +kernel
theorem dX7_offends_35 : decode cX7_offends 35 = .ok (.iload_n 3, 1) := by decide +kernel
theorem dX7_offends_36 : decode cX7_offends 36 = .ok (.iload_n 2, 1) := by decide +kernel
theorem dX7_offends_37 : decode cX7_offends 37 = .ok (.invokevirtual 165, 3) := by decide +kernel
theorem dX7_offends_40 : decode cX7_offends 40 = .ok (.ifCond .eq 32, 3) := by decide +kernel
theorem dX7_offends_43 : decode cX7_offends 43 = .ok (.aload_n 0, 1) := by decide +kernel
theorem dX7_offends_44 : decode cX7_offends 44 = .ok (.getfield 7, 3) := by decide +kernel
theorem dX7_offends_47 : decode cX7_offends 47 = .ok (.iload_n 1, 1) := by decide +kernel
theorem dX7_offends_48 : decode cX7_offends 48 = .ok (.bipush 40, 2) := by decide +kernel
theorem dX7_offends_50 : decode cX7_offends 50 = .ok (.iadd, 1) := by decide +kernel
theorem dX7_offends_51 : decode cX7_offends 51 = .ok (.iload_n 2, 1) := by decide +kernel
theorem dX7_offends_52 : decode cX7_offends 52 = .ok (.iadd, 1) := by decide +kernel
theorem dX7_offends_53 : decode cX7_offends 53 = .ok (.iaload, 1) := by decide +kernel
theorem dX7_offends_54 : decode cX7_offends 54 = .ok (.aload_n 0, 1) := by decide +kernel
theorem dX7_offends_55 : decode cX7_offends 55 = .ok (.getfield 7, 3) := by decide +kernel
theorem dX7_offends_58 : decode cX7_offends 58 = .ok (.iload_n 1, 1) := by decide +kernel
theorem dX7_offends_59 : decode cX7_offends 59 = .ok (.bipush 40, 2) := by decide +kernel
theorem dX7_offends_61 : decode cX7_offends 61 = .ok (.iadd, 1) := by decide +kernel
theorem dX7_offends_62 : decode cX7_offends 62 = .ok (.iload_n 3, 1) := by decide +kernel
theorem dX7_offends_63 : decode cX7_offends 63 = .ok (.iadd, 1) := by decide +kernel
theorem dX7_offends_64 : decode cX7_offends 64 = .ok (.iaload, 1) := by decide +kernel
theorem dX7_offends_65 : decode cX7_offends 65 = .ok (.if_icmp .ge 7, 3) := by decide +kernel
theorem dX7_offends_68 : decode cX7_offends 68 = .ok (.iconst 1, 1) := by decide +kernel
theorem dX7_offends_69 : decode cX7_offends 69 = .ok (.goto 4, 3) := by decide +kernel
theorem dX7_offends_72 : decode cX7_offends 72 = .ok (.iconst 0, 1) := by decide +kernel
theorem dX7_offends_73 : decode cX7_offends 73 = .ok (.ireturn, 1) := by decide +kernel
theorem dX7_offended_0 : decode cX7_offended 0 = .ok (.aload_n 0, 1) := by decide +kernel
theorem dX7_offended_1 : decode cX7_offended 1 = .ok (.iload_n 1, 1) := by decide +kernel
theorem dX7_offended_2 : decode cX7_offended 2 = .ok (.invokevirtual 190, 3) := by decide +kernel
theorem dX7_offended_5 : decode cX7_offended 5 = .ok (.ifCond .ne 6, 3) := by decide +kernel
theorem dX7_offended_8 : decode cX7_offended 8 = .ok (.ldc 186, 2) := by decide +kernel
theorem dX7_offended_10 : decode cX7_offended 10 = .ok (.ireturn, 1) := by decide +kernel
theorem dX7_offended_11 : decode cX7_offended 11 = .ok (.aload_n 0, 1) := by decide +kernel
theorem dX7_offended_12 : decode cX7_offended 12 = .ok (.getfield 7, 3) := by decide +kernel
theorem dX7_offended_15 : decode cX7_offended 15 = .ok (.bipush 40, 2) := by decide +kernel
theorem dX7_offended_17 : decode cX7_offended 17 = .ok (.iload_n 1, 1) := by decide +kernel
theorem dX7_offended_18 : decode cX7_offended 18 = .ok (.iadd, 1) := by decide +kernel
theorem dX7_offended_19 : decode cX7_offended 19 = .ok (.iaload, 1) := by decide +kernel
theorem dX7_offended_20 : decode cX7_offended 20 = .ok (.ifCond .ge 6, 3) := by decide +kernel
theorem dX7_offended_23 : decode cX7_offended 23 = .ok (.ldc 200, 2) := by decide +kernel
theorem dX7_offended_25 : decode cX7_offended 25 = .ok (.ireturn, 1) := by decide +kernel
theorem dX7_offended_26 : decode cX7_offended 26 = .ok (.iconst 0, 1) := by decide +kernel
theorem dX7_offended_27 : decode cX7_offended 27 = .ok (.istore_n 2, 1) := by decide +kernel
theorem dX7_offended_28 : decode cX7_offended 28 = .ok (.iconst 0, 1) := by decide +kernel
theorem dX7_offended_29 : decode cX7_offended 29 = .ok (.istore_n 3, 1) := by decide +kernel
theorem dX7_offended_30 : decode cX7_offended 30 = .ok (.iload_n 3, 1) := by decide +kernel
theorem dX7_offended_31 : decode cX7_offended 31 = .ok (.aload_n 0, 1) := by decide +kernel
theorem dX7_offended_32 : decode cX7_offended 32 = .ok (.getfield 36, 3) := by decide +kernel
theorem dX7_offended_35 : decode cX7_offended 35 = .ok (.iconst 1, 1) := by decide +kernel
theorem dX7_offended_36 : decode cX7_offended 36 = .ok (.iaload, 1) := by decide +kernel
theorem dX7_offended_37 : decode cX7_offended 37 = .ok (.if_icmp .ge 24, 3) := by decide +kernel
theorem dX7_offended_40 : decode cX7_offended 40 = .ok (.iload_n 2, 1) := by decide +kernel
theorem dX7_offended_41 : decode cX7_offended 41 = .ok (.aload_n 0, 1) := by decide +kernel
theorem dX7_offended_42 : decode cX7_offended 42 = .ok (.iconst 0, 1) := by decide +kernel
theorem dX7_offended_43 : decode cX7_offended 43 = .ok (.iload_n 3, 1) := by decide +kernel
theorem dX7_offended_44 : decode cX7_offended 44 = .ok (.iload_n 1, 1) := by decide +kernel
theorem dX7_offended_45 : decode cX7_offended 45 = .ok (.invokevirtual 239, 3) := by decide +kernel
theorem dX7_offended_48 : decode cX7_offended 48 = .ok (.invokestatic 157, 3) := by decide +kernel
theorem dX7_offended_51 : decode cX7_offended 51 = .ok (.iload_n 3, 1) := by decide +kernel
theorem dX7_offended_52 : decode cX7_offended 52 = .ok (.ishl, 1) := by decide +kernel
theorem dX7_offended_53 : decode cX7_offended 53 = .ok (.ior, 1) := by decide +kernel
theorem dX7_offended_54 : decode cX7_offended 54 = .ok (.istore_n 2, 1) := by decide +kernel
theorem dX7_offended_55 : decode cX7_offended 55 = .ok (.iinc 3 1, 3) := by decide +kernel
theorem dX7_offended_58 : decode cX7_offended 58 = .ok (.goto (-28), 3) := by decide +kernel
theorem dX7_offended_61 : decode cX7_offended 61 = .ok (.iload_n 2, 1) := by decide +kernel
theorem dX7_offended_62 : decode cX7_offended 62 = .ok (.ireturn, 1) := by decide +kernel
theorem dX7_quarrelsIn_0 : decode cX7_quarrelsIn 0 = .ok (.iconst 0, 1) := by decide +kernel
theorem dX7_quarrelsIn_1 : decode cX7_quarrelsIn 1 = .ok (.istore_n 2, 1) := by decide +kernel
theorem dX7_quarrelsIn_2 : decode cX7_quarrelsIn 2 = .ok (.iconst 0, 1) := by decide +kernel
theorem dX7_quarrelsIn_3 : decode cX7_quarrelsIn 3 = .ok (.istore_n 3, 1) := by decide +kernel
theorem dX7_quarrelsIn_4 : decode cX7_quarrelsIn 4 = .ok (.iload_n 3, 1) := by decide +kernel
theorem dX7_quarrelsIn_5 : decode cX7_quarrelsIn 5 = .ok (.aload_n 0, 1) := by decide +kernel
theorem dX7_quarrelsIn_6 : decode cX7_quarrelsIn 6 = .ok (.getfield 36, 3) := by decide +kernel
theorem dX7_quarrelsIn_9 : decode cX7_quarrelsIn 9 = .ok (.iconst 1, 1) := by decide +kernel
theorem dX7_quarrelsIn_10 : decode cX7_quarrelsIn 10 = .ok (.iaload, 1) := by decide +kernel
theorem dX7_quarrelsIn_11 : decode cX7_quarrelsIn 11 = .ok (.if_icmp .ge 146, 3) := by decide +kernel
theorem dX7_quarrelsIn_14 : decode cX7_quarrelsIn 14 = .ok (.iconst 0, 1) := by decide +kernel
theorem dX7_quarrelsIn_15 : decode cX7_quarrelsIn 15 = .ok (.istore 4, 2) := by decide +kernel
theorem dX7_quarrelsIn_17 : decode cX7_quarrelsIn 17 = .ok (.iload 4, 2) := by decide +kernel
theorem dX7_quarrelsIn_19 : decode cX7_quarrelsIn 19 = .ok (.aload_n 0, 1) := by decide +kernel
theorem dX7_quarrelsIn_20 : decode cX7_quarrelsIn 20 = .ok (.getfield 36, 3) := by decide +kernel
theorem dX7_quarrelsIn_23 : decode cX7_quarrelsIn 23 = .ok (.iconst 1, 1) := by decide +kernel
theorem dX7_quarrelsIn_24 : decode cX7_quarrelsIn 24 = .ok (.iaload, 1) := by decide +kernel
theorem dX7_quarrelsIn_25 : decode cX7_quarrelsIn 25 = .ok (.if_icmp .ge 126, 3) := by decide +kernel
theorem dX7_quarrelsIn_28 : decode cX7_quarrelsIn 28 = .ok (.iload_n 3, 1) := by decide +kernel
theorem dX7_quarrelsIn_29 : decode cX7_quarrelsIn 29 = .ok (.iload 4, 2) := by decide +kernel
theorem dX7_quarrelsIn_31 : decode cX7_quarrelsIn 31 = .ok (.if_icmp .ge 67, 3) := by decide +kernel
theorem dX7_quarrelsIn_34 : decode cX7_quarrelsIn 34 = .ok (.aload_n 0, 1) := by decide +kernel
theorem dX7_quarrelsIn_35 : decode cX7_quarrelsIn 35 = .ok (.getfield 7, 3) := by decide +kernel
theorem dX7_quarrelsIn_38 : decode cX7_quarrelsIn 38 = .ok (.iload_n 1, 1) := by decide +kernel
theorem dX7_quarrelsIn_39 : decode cX7_quarrelsIn 39 = .ok (.bipush 40, 2) := by decide +kernel
theorem dX7_quarrelsIn_41 : decode cX7_quarrelsIn 41 = .ok (.iadd, 1) := by decide +kernel
theorem dX7_quarrelsIn_42 : decode cX7_quarrelsIn 42 = .ok (.iload_n 3, 1) := by decide +kernel
theorem dX7_quarrelsIn_43 : decode cX7_quarrelsIn 43 = .ok (.iadd, 1) := by decide +kernel
theorem dX7_quarrelsIn_44 : decode cX7_quarrelsIn 44 = .ok (.iaload, 1) := by decide +kernel
theorem dX7_quarrelsIn_45 : decode cX7_quarrelsIn 45 = .ok (.ifCond .lt 53, 3) := by decide +kernel
theorem dX7_quarrelsIn_48 : decode cX7_quarrelsIn 48 = .ok (.aload_n 0, 1) := by decide +kernel
theorem dX7_quarrelsIn_49 : decode cX7_quarrelsIn 49 = .ok (.getfield 7, 3) := by decide +kernel
theorem dX7_quarrelsIn_52 : decode cX7_quarrelsIn 52 = .ok (.iload_n 1, 1) := by decide +kernel
theorem dX7_quarrelsIn_53 : decode cX7_quarrelsIn 53 = .ok (.bipush 40, 2) := by decide +kernel
theorem dX7_quarrelsIn_55 : decode cX7_quarrelsIn 55 = .ok (.iadd, 1) := by decide +kernel
theorem dX7_quarrelsIn_56 : decode cX7_quarrelsIn 56 = .ok (.iload 4, 2) := by decide +kernel
theorem dX7_quarrelsIn_58 : decode cX7_quarrelsIn 58 = .ok (.iadd, 1) := by decide +kernel
theorem dX7_quarrelsIn_59 : decode cX7_quarrelsIn 59 = .ok (.iaload, 1) := by decide +kernel
theorem dX7_quarrelsIn_60 : decode cX7_quarrelsIn 60 = .ok (.ifCond .lt 38, 3) := by decide +kernel
theorem dX7_quarrelsIn_63 : decode cX7_quarrelsIn 63 = .ok (.aload_n 0, 1) := by decide +kernel
theorem dX7_quarrelsIn_64 : decode cX7_quarrelsIn 64 = .ok (.getfield 7, 3) := by decide +kernel
theorem dX7_quarrelsIn_67 : decode cX7_quarrelsIn 67 = .ok (.iload_n 1, 1) := by decide +kernel
theorem dX7_quarrelsIn_68 : decode cX7_quarrelsIn 68 = .ok (.bipush 40, 2) := by decide +kernel
theorem dX7_quarrelsIn_70 : decode cX7_quarrelsIn 70 = .ok (.iadd, 1) := by decide +kernel
theorem dX7_quarrelsIn_71 : decode cX7_quarrelsIn 71 = .ok (.iload_n 3, 1) := by decide +kernel
theorem dX7_quarrelsIn_72 : decode cX7_quarrelsIn 72 = .ok (.iadd, 1) := by decide +kernel
theorem dX7_quarrelsIn_73 : decode cX7_quarrelsIn 73 = .ok (.iaload, 1) := by decide +kernel
theorem dX7_quarrelsIn_74 : decode cX7_quarrelsIn 74 = .ok (.aload_n 0, 1) := by decide +kernel
theorem dX7_quarrelsIn_75 : decode cX7_quarrelsIn 75 = .ok (.getfield 7, 3) := by decide +kernel
theorem dX7_quarrelsIn_78 : decode cX7_quarrelsIn 78 = .ok (.iload_n 1, 1) := by decide +kernel
theorem dX7_quarrelsIn_79 : decode cX7_quarrelsIn 79 = .ok (.bipush 40, 2) := by decide +kernel
theorem dX7_quarrelsIn_81 : decode cX7_quarrelsIn 81 = .ok (.iadd, 1) := by decide +kernel
theorem dX7_quarrelsIn_82 : decode cX7_quarrelsIn 82 = .ok (.iload 4, 2) := by decide +kernel
theorem dX7_quarrelsIn_84 : decode cX7_quarrelsIn 84 = .ok (.iadd, 1) := by decide +kernel
theorem dX7_quarrelsIn_85 : decode cX7_quarrelsIn 85 = .ok (.iaload, 1) := by decide +kernel
theorem dX7_quarrelsIn_86 : decode cX7_quarrelsIn 86 = .ok (.isub, 1) := by decide +kernel
theorem dX7_quarrelsIn_87 : decode cX7_quarrelsIn 87 = .ok (.invokestatic 242, 3) := by decide +kernel
theorem dX7_quarrelsIn_90 : decode cX7_quarrelsIn 90 = .ok (.iconst 1, 1) := by decide +kernel
theorem dX7_quarrelsIn_91 : decode cX7_quarrelsIn 91 = .ok (.if_icmp .eq 7, 3) := by decide +kernel
theorem dX7_quarrelsIn_94 : decode cX7_quarrelsIn 94 = .ok (.iconst 1, 1) := by decide +kernel
theorem dX7_quarrelsIn_95 : decode cX7_quarrelsIn 95 = .ok (.goto 4, 3) := by decide +kernel
theorem dX7_quarrelsIn_98 : decode cX7_quarrelsIn 98 = .ok (.iconst 0, 1) := by decide +kernel
theorem dX7_quarrelsIn_99 : decode cX7_quarrelsIn 99 = .ok (.istore 5, 2) := by decide +kernel
theorem dX7_quarrelsIn_101 : decode cX7_quarrelsIn 101 = .ok (.iload_n 2, 1) := by decide +kernel
theorem dX7_quarrelsIn_102 : decode cX7_quarrelsIn 102 = .ok (.aload_n 0, 1) := by decide +kernel
theorem dX7_quarrelsIn_103 : decode cX7_quarrelsIn 103 = .ok (.iload_n 1, 1) := by decide +kernel
theorem dX7_quarrelsIn_104 : decode cX7_quarrelsIn 104 = .ok (.iload 4, 2) := by decide +kernel
theorem dX7_quarrelsIn_106 : decode cX7_quarrelsIn 106 = .ok (.iload_n 3, 1) := by decide +kernel
theorem dX7_quarrelsIn_107 : decode cX7_quarrelsIn 107 = .ok (.invokevirtual 239, 3) := by decide +kernel
theorem dX7_quarrelsIn_110 : decode cX7_quarrelsIn 110 = .ok (.invokestatic 157, 3) := by decide +kernel
theorem dX7_quarrelsIn_113 : decode cX7_quarrelsIn 113 = .ok (.iload 5, 2) := by decide +kernel
theorem dX7_quarrelsIn_115 : decode cX7_quarrelsIn 115 = .ok (.ifCond .eq 23, 3) := by decide +kernel
theorem dX7_quarrelsIn_118 : decode cX7_quarrelsIn 118 = .ok (.aload_n 0, 1) := by decide +kernel
theorem dX7_quarrelsIn_119 : decode cX7_quarrelsIn 119 = .ok (.getfield 33, 3) := by decide +kernel
theorem dX7_quarrelsIn_122 : decode cX7_quarrelsIn 122 = .ok (.iload_n 3, 1) := by decide +kernel
theorem dX7_quarrelsIn_123 : decode cX7_quarrelsIn 123 = .ok (.iaload, 1) := by decide +kernel
theorem dX7_quarrelsIn_124 : decode cX7_quarrelsIn 124 = .ok (.aload_n 0, 1) := by decide +kernel
theorem dX7_quarrelsIn_125 : decode cX7_quarrelsIn 125 = .ok (.getfield 33, 3) := by decide +kernel
theorem dX7_quarrelsIn_128 : decode cX7_quarrelsIn 128 = .ok (.iload 4, 2) := by decide +kernel
theorem dX7_quarrelsIn_130 : decode cX7_quarrelsIn 130 = .ok (.iaload, 1) := by decide +kernel
theorem dX7_quarrelsIn_131 : decode cX7_quarrelsIn 131 = .ok (.if_icmp .ne 7, 3) := by decide +kernel
theorem dX7_quarrelsIn_134 : decode cX7_quarrelsIn 134 = .ok (.iconst 1, 1) := by decide +kernel
theorem dX7_quarrelsIn_135 : decode cX7_quarrelsIn 135 = .ok (.goto 4, 3) := by decide +kernel
theorem dX7_quarrelsIn_138 : decode cX7_quarrelsIn 138 = .ok (.iconst 0, 1) := by decide +kernel
theorem dX7_quarrelsIn_139 : decode cX7_quarrelsIn 139 = .ok (.invokestatic 157, 3) := by decide +kernel
theorem dX7_quarrelsIn_142 : decode cX7_quarrelsIn 142 = .ok (.iadd, 1) := by decide +kernel
theorem dX7_quarrelsIn_143 : decode cX7_quarrelsIn 143 = .ok (.iadd, 1) := by decide +kernel
theorem dX7_quarrelsIn_144 : decode cX7_quarrelsIn 144 = .ok (.istore_n 2, 1) := by decide +kernel
theorem dX7_quarrelsIn_145 : decode cX7_quarrelsIn 145 = .ok (.iinc 4 1, 3) := by decide +kernel
theorem dX7_quarrelsIn_148 : decode cX7_quarrelsIn 148 = .ok (.goto (-131), 3) := by decide +kernel
theorem dX7_quarrelsIn_151 : decode cX7_quarrelsIn 151 = .ok (.iinc 3 1, 3) := by decide +kernel
theorem dX7_quarrelsIn_154 : decode cX7_quarrelsIn 154 = .ok (.goto (-150), 3) := by decide +kernel
theorem dX7_quarrelsIn_157 : decode cX7_quarrelsIn 157 = .ok (.iload_n 2, 1) := by decide +kernel
theorem dX7_quarrelsIn_158 : decode cX7_quarrelsIn 158 = .ok (.ireturn, 1) := by decide +kernel
theorem dX7_quarrels_0 : decode cX7_quarrels 0 = .ok (.aload_n 0, 1) := by decide +kernel
theorem dX7_quarrels_1 : decode cX7_quarrels 1 = .ok (.iconst 0, 1) := by decide +kernel
theorem dX7_quarrels_2 : decode cX7_quarrels 2 = .ok (.invokevirtual 245, 3) := by decide +kernel
theorem dX7_quarrels_5 : decode cX7_quarrels 5 = .ok (.ireturn, 1) := by decide +kernel
theorem dX7_copy_0 : decode cX7_copy 0 = .ok (.iconst 0, 1) := by decide +kernel
theorem dX7_copy_1 : decode cX7_copy 1 = .ok (.istore_n 3, 1) := by decide +kernel
theorem dX7_copy_2 : decode cX7_copy 2 = .ok (.iload_n 3, 1) := by decide +kernel
theorem dX7_copy_3 : decode cX7_copy 3 = .ok (.bipush 100, 2) := by decide +kernel
theorem dX7_copy_5 : decode cX7_copy 5 = .ok (.if_icmp .ge 25, 3) := by decide +kernel
theorem dX7_copy_8 : decode cX7_copy 8 = .ok (.aload_n 0, 1) := by decide +kernel
theorem dX7_copy_9 : decode cX7_copy 9 = .ok (.getfield 7, 3) := by decide +kernel
theorem dX7_copy_12 : decode cX7_copy 12 = .ok (.iload_n 2, 1) := by decide +kernel
theorem dX7_copy_13 : decode cX7_copy 13 = .ok (.iload_n 3, 1) := by decide +kernel
theorem dX7_copy_14 : decode cX7_copy 14 = .ok (.iadd, 1) := by decide +kernel
theorem dX7_copy_15 : decode cX7_copy 15 = .ok (.aload_n 0, 1) := by decide +kernel
theorem dX7_copy_16 : decode cX7_copy 16 = .ok (.getfield 7, 3) := by decide +kernel
theorem dX7_copy_19 : decode cX7_copy 19 = .ok (.iload_n 1, 1) := by decide +kernel
theorem dX7_copy_20 : decode cX7_copy 20 = .ok (.iload_n 3, 1) := by decide +kernel
theorem dX7_copy_21 : decode cX7_copy 21 = .ok (.iadd, 1) := by decide +kernel
theorem dX7_copy_22 : decode cX7_copy 22 = .ok (.iaload, 1) := by decide +kernel
theorem dX7_copy_23 : decode cX7_copy 23 = .ok (.iastore, 1) := by decide +kernel
theorem dX7_copy_24 : decode cX7_copy 24 = .ok (.iinc 3 1, 3) := by decide +kernel
theorem dX7_copy_27 : decode cX7_copy 27 = .ok (.goto (-25), 3) := by decide +kernel
theorem dX7_copy_30 : decode cX7_copy 30 = .ok (.return_, 1) := by decide +kernel
theorem dX7_isFree_0 : decode cX7_isFree 0 = .ok (.aload_n 0, 1) := by decide +kernel
theorem dX7_isFree_1 : decode cX7_isFree 1 = .ok (.getfield 7, 3) := by decide +kernel
theorem dX7_isFree_4 : decode cX7_isFree 4 = .ok (.iload_n 1, 1) := by decide +kernel
theorem dX7_isFree_5 : decode cX7_isFree 5 = .ok (.iaload, 1) := by decide +kernel
theorem dX7_isFree_6 : decode cX7_isFree 6 = .ok (.ifCond .ne 16, 3) := by decide +kernel
theorem dX7_isFree_9 : decode cX7_isFree 9 = .ok (.aload_n 0, 1) := by decide +kernel
theorem dX7_isFree_10 : decode cX7_isFree 10 = .ok (.iconst 0, 1) := by decide +kernel
theorem dX7_isFree_11 : decode cX7_isFree 11 = .ok (.iload_n 1, 1) := by decide +kernel
theorem dX7_isFree_12 : decode cX7_isFree 12 = .ok (.invokevirtual 187, 3) := by decide +kernel
theorem dX7_isFree_15 : decode cX7_isFree 15 = .ok (.ifCond .ge 7, 3) := by decide +kernel
theorem dX7_isFree_18 : decode cX7_isFree 18 = .ok (.iconst 1, 1) := by decide +kernel
theorem dX7_isFree_19 : decode cX7_isFree 19 = .ok (.goto 4, 3) := by decide +kernel
theorem dX7_isFree_22 : decode cX7_isFree 22 = .ok (.iconst 0, 1) := by decide +kernel
theorem dX7_isFree_23 : decode cX7_isFree 23 = .ok (.ireturn, 1) := by decide +kernel
theorem dX7_goOn_0 : decode cX7_goOn 0 = .ok (.iload_n 1, 1) := by decide +kernel
theorem dX7_goOn_1 : decode cX7_goOn 1 = .ok (.iconst 1, 1) := by decide +kernel
theorem dX7_goOn_2 : decode cX7_goOn 2 = .ok (.isub, 1) := by decide +kernel
theorem dX7_goOn_3 : decode cX7_goOn 3 = .ok (.istore_n 2, 1) := by decide +kernel
theorem dX7_goOn_4 : decode cX7_goOn 4 = .ok (.iconst 0, 1) := by decide +kernel
theorem dX7_goOn_5 : decode cX7_goOn 5 = .ok (.istore_n 3, 1) := by decide +kernel
theorem dX7_goOn_6 : decode cX7_goOn 6 = .ok (.iload_n 2, 1) := by decide +kernel
theorem dX7_goOn_7 : decode cX7_goOn 7 = .ok (.ifCond .lt 92, 3) := by decide +kernel
theorem dX7_goOn_10 : decode cX7_goOn 10 = .ok (.iload_n 3, 1) := by decide +kernel
theorem dX7_goOn_11 : decode cX7_goOn 11 = .ok (.ifCond .ne 88, 3) := by decide +kernel
theorem dX7_goOn_14 : decode cX7_goOn 14 = .ok (.aload_n 0, 1) := by decide +kernel
theorem dX7_goOn_15 : decode cX7_goOn 15 = .ok (.getfield 54, 3) := by decide +kernel
theorem dX7_goOn_18 : decode cX7_goOn 18 = .ok (.iload_n 2, 1) := by decide +kernel
theorem dX7_goOn_19 : decode cX7_goOn 19 = .ok (.dup2, 1) := by decide +kernel
theorem dX7_goOn_20 : decode cX7_goOn 20 = .ok (.iaload, 1) := by decide +kernel
theorem dX7_goOn_21 : decode cX7_goOn 21 = .ok (.iconst 1, 1) := by decide +kernel
theorem dX7_goOn_22 : decode cX7_goOn 22 = .ok (.iadd, 1) := by decide +kernel
theorem dX7_goOn_23 : decode cX7_goOn 23 = .ok (.iastore, 1) := by decide +kernel
theorem dX7_goOn_24 : decode cX7_goOn 24 = .ok (.aload_n 0, 1) := by decide +kernel
theorem dX7_goOn_25 : decode cX7_goOn 25 = .ok (.getfield 54, 3) := by decide +kernel
theorem dX7_goOn_28 : decode cX7_goOn 28 = .ok (.iload_n 2, 1) := by decide +kernel
theorem dX7_goOn_29 : decode cX7_goOn 29 = .ok (.iaload, 1) := by decide +kernel
theorem dX7_goOn_30 : decode cX7_goOn 30 = .ok (.aload_n 0, 1) := by decide +kernel
theorem dX7_goOn_31 : decode cX7_goOn 31 = .ok (.getfield 36, 3) := by decide +kernel
theorem dX7_goOn_34 : decode cX7_goOn 34 = .ok (.iconst 0, 1) := by decide +kernel
theorem dX7_goOn_35 : decode cX7_goOn 35 = .ok (.iaload, 1) := by decide +kernel
theorem dX7_goOn_36 : decode cX7_goOn 36 = .ok (.if_icmp .ge 24, 3) := by decide +kernel
theorem dX7_goOn_39 : decode cX7_goOn 39 = .ok (.aload_n 0, 1) := by decide +kernel
theorem dX7_goOn_40 : decode cX7_goOn 40 = .ok (.iload_n 2, 1) := by decide +kernel
theorem dX7_goOn_41 : decode cX7_goOn 41 = .ok (.invokevirtual 248, 3) := by decide +kernel
theorem dX7_goOn_44 : decode cX7_goOn 44 = .ok (.ifCond .ne 16, 3) := by decide +kernel
theorem dX7_goOn_47 : decode cX7_goOn 47 = .ok (.aload_n 0, 1) := by decide +kernel
theorem dX7_goOn_48 : decode cX7_goOn 48 = .ok (.getfield 54, 3) := by decide +kernel
theorem dX7_goOn_51 : decode cX7_goOn 51 = .ok (.iload_n 2, 1) := by decide +kernel
theorem dX7_goOn_52 : decode cX7_goOn 52 = .ok (.dup2, 1) := by decide +kernel
theorem dX7_goOn_53 : decode cX7_goOn 53 = .ok (.iaload, 1) := by decide +kernel
theorem dX7_goOn_54 : decode cX7_goOn 54 = .ok (.iconst 1, 1) := by decide +kernel
theorem dX7_goOn_55 : decode cX7_goOn 55 = .ok (.iadd, 1) := by decide +kernel
theorem dX7_goOn_56 : decode cX7_goOn 56 = .ok (.iastore, 1) := by decide +kernel
theorem dX7_goOn_57 : decode cX7_goOn 57 = .ok (.goto (-33), 3) := by decide +kernel
theorem dX7_goOn_60 : decode cX7_goOn 60 = .ok (.aload_n 0, 1) := by decide +kernel
theorem dX7_goOn_61 : decode cX7_goOn 61 = .ok (.getfield 54, 3) := by decide +kernel
theorem dX7_goOn_64 : decode cX7_goOn 64 = .ok (.iload_n 2, 1) := by decide +kernel
theorem dX7_goOn_65 : decode cX7_goOn 65 = .ok (.iaload, 1) := by decide +kernel
theorem dX7_goOn_66 : decode cX7_goOn 66 = .ok (.aload_n 0, 1) := by decide +kernel
theorem dX7_goOn_67 : decode cX7_goOn 67 = .ok (.getfield 36, 3) := by decide +kernel
theorem dX7_goOn_70 : decode cX7_goOn 70 = .ok (.iconst 0, 1) := by decide +kernel
theorem dX7_goOn_71 : decode cX7_goOn 71 = .ok (.iaload, 1) := by decide +kernel
theorem dX7_goOn_72 : decode cX7_goOn 72 = .ok (.if_icmp .ge 7, 3) := by decide +kernel
theorem dX7_goOn_75 : decode cX7_goOn 75 = .ok (.iconst 1, 1) := by decide +kernel
theorem dX7_goOn_76 : decode cX7_goOn 76 = .ok (.goto 4, 3) := by decide +kernel
theorem dX7_goOn_79 : decode cX7_goOn 79 = .ok (.iconst 0, 1) := by decide +kernel
theorem dX7_goOn_80 : decode cX7_goOn 80 = .ok (.istore_n 3, 1) := by decide +kernel
theorem dX7_goOn_81 : decode cX7_goOn 81 = .ok (.iload_n 2, 1) := by decide +kernel
theorem dX7_goOn_82 : decode cX7_goOn 82 = .ok (.iload_n 3, 1) := by decide +kernel
theorem dX7_goOn_83 : decode cX7_goOn 83 = .ok (.ifCond .ne 7, 3) := by decide +kernel
theorem dX7_goOn_86 : decode cX7_goOn 86 = .ok (.iconst 1, 1) := by decide +kernel
theorem dX7_goOn_87 : decode cX7_goOn 87 = .ok (.goto 4, 3) := by decide +kernel
theorem dX7_goOn_90 : decode cX7_goOn 90 = .ok (.iconst 0, 1) := by decide +kernel
theorem dX7_goOn_91 : decode cX7_goOn 91 = .ok (.invokestatic 157, 3) := by decide +kernel
theorem dX7_goOn_94 : decode cX7_goOn 94 = .ok (.isub, 1) := by decide +kernel
theorem dX7_goOn_95 : decode cX7_goOn 95 = .ok (.istore_n 2, 1) := by decide +kernel
theorem dX7_goOn_96 : decode cX7_goOn 96 = .ok (.goto (-90), 3) := by decide +kernel
theorem dX7_goOn_99 : decode cX7_goOn 99 = .ok (.iload_n 3, 1) := by decide +kernel
theorem dX7_goOn_100 : decode cX7_goOn 100 = .ok (.ifCond .eq 18, 3) := by decide +kernel
theorem dX7_goOn_103 : decode cX7_goOn 103 = .ok (.aload_n 0, 1) := by decide +kernel
theorem dX7_goOn_104 : decode cX7_goOn 104 = .ok (.iload_n 2, 1) := by decide +kernel
theorem dX7_goOn_105 : decode cX7_goOn 105 = .ok (.iconst 1, 1) := by decide +kernel
theorem dX7_goOn_106 : decode cX7_goOn 106 = .ok (.iadd, 1) := by decide +kernel
theorem dX7_goOn_107 : decode cX7_goOn 107 = .ok (.iload_n 1, 1) := by decide +kernel
theorem dX7_goOn_108 : decode cX7_goOn 108 = .ok (.invokevirtual 251, 3) := by decide +kernel
theorem dX7_goOn_111 : decode cX7_goOn 111 = .ok (.ifCond .eq 7, 3) := by decide +kernel
theorem dX7_goOn_114 : decode cX7_goOn 114 = .ok (.iconst 1, 1) := by decide +kernel
theorem dX7_goOn_115 : decode cX7_goOn 115 = .ok (.goto 4, 3) := by decide +kernel
theorem dX7_goOn_118 : decode cX7_goOn 118 = .ok (.iconst 0, 1) := by decide +kernel
theorem dX7_goOn_119 : decode cX7_goOn 119 = .ok (.ireturn, 1) := by decide +kernel
theorem dX7_isUnlike_0 : decode cX7_isUnlike 0 = .ok (.aload_n 0, 1) := by decide +kernel
theorem dX7_isUnlike_1 : decode cX7_isUnlike 1 = .ok (.aload_n 0, 1) := by decide +kernel
theorem dX7_isUnlike_2 : decode cX7_isUnlike 2 = .ok (.getfield 54, 3) := by decide +kernel
theorem dX7_isUnlike_5 : decode cX7_isUnlike 5 = .ok (.iload_n 1, 1) := by decide +kernel
theorem dX7_isUnlike_6 : decode cX7_isUnlike 6 = .ok (.iaload, 1) := by decide +kernel
theorem dX7_isUnlike_7 : decode cX7_isUnlike 7 = .ok (.invokevirtual 254, 3) := by decide +kernel
theorem dX7_isUnlike_10 : decode cX7_isUnlike 10 = .ok (.istore_n 2, 1) := by decide +kernel
theorem dX7_isUnlike_11 : decode cX7_isUnlike 11 = .ok (.iconst 0, 1) := by decide +kernel
theorem dX7_isUnlike_12 : decode cX7_isUnlike 12 = .ok (.istore_n 3, 1) := by decide +kernel
theorem dX7_isUnlike_13 : decode cX7_isUnlike 13 = .ok (.iload_n 3, 1) := by decide +kernel
theorem dX7_isUnlike_14 : decode cX7_isUnlike 14 = .ok (.iload_n 1, 1) := by decide +kernel
theorem dX7_isUnlike_15 : decode cX7_isUnlike 15 = .ok (.if_icmp .ge 34, 3) := by decide +kernel
theorem dX7_isUnlike_18 : decode cX7_isUnlike 18 = .ok (.iload_n 2, 1) := by decide +kernel
theorem dX7_isUnlike_19 : decode cX7_isUnlike 19 = .ok (.ifCond .eq 22, 3) := by decide +kernel
theorem dX7_isUnlike_22 : decode cX7_isUnlike 22 = .ok (.aload_n 0, 1) := by decide +kernel
theorem dX7_isUnlike_23 : decode cX7_isUnlike 23 = .ok (.getfield 54, 3) := by decide +kernel
theorem dX7_isUnlike_26 : decode cX7_isUnlike 26 = .ok (.iload_n 3, 1) := by decide +kernel
theorem dX7_isUnlike_27 : decode cX7_isUnlike 27 = .ok (.iaload, 1) := by decide +kernel
theorem dX7_isUnlike_28 : decode cX7_isUnlike 28 = .ok (.aload_n 0, 1) := by decide +kernel
theorem dX7_isUnlike_29 : decode cX7_isUnlike 29 = .ok (.getfield 54, 3) := by decide +kernel
theorem dX7_isUnlike_32 : decode cX7_isUnlike 32 = .ok (.iload_n 1, 1) := by decide +kernel
theorem dX7_isUnlike_33 : decode cX7_isUnlike 33 = .ok (.iaload, 1) := by decide +kernel
theorem dX7_isUnlike_34 : decode cX7_isUnlike 34 = .ok (.if_icmp .eq 7, 3) := by decide +kernel
theorem dX7_isUnlike_37 : decode cX7_isUnlike 37 = .ok (.iconst 1, 1) := by decide +kernel
theorem dX7_isUnlike_38 : decode cX7_isUnlike 38 = .ok (.goto 4, 3) := by decide +kernel
theorem dX7_isUnlike_41 : decode cX7_isUnlike 41 = .ok (.iconst 0, 1) := by decide +kernel
theorem dX7_isUnlike_42 : decode cX7_isUnlike 42 = .ok (.istore_n 2, 1) := by decide +kernel
theorem dX7_isUnlike_43 : decode cX7_isUnlike 43 = .ok (.iinc 3 1, 3) := by decide +kernel
theorem dX7_isUnlike_46 : decode cX7_isUnlike 46 = .ok (.goto (-33), 3) := by decide +kernel
theorem dX7_isUnlike_49 : decode cX7_isUnlike 49 = .ok (.iload_n 2, 1) := by decide +kernel
theorem dX7_isUnlike_50 : decode cX7_isUnlike 50 = .ok (.ireturn, 1) := by decide +kernel
theorem dX7_fill_0 : decode cX7_fill 0 = .ok (.iload_n 1, 1) := by decide +kernel
theorem dX7_fill_1 : decode cX7_fill 1 = .ok (.istore_n 3, 1) := by decide +kernel
theorem dX7_fill_2 : decode cX7_fill 2 = .ok (.iload_n 3, 1) := by decide +kernel
theorem dX7_fill_3 : decode cX7_fill 3 = .ok (.iload_n 2, 1) := by decide +kernel
theorem dX7_fill_4 : decode cX7_fill 4 = .ok (.if_icmp .ge 52, 3) := by decide +kernel
theorem dX7_fill_7 : decode cX7_fill 7 = .ok (.aload_n 0, 1) := by decide +kernel
theorem dX7_fill_8 : decode cX7_fill 8 = .ok (.getfield 54, 3) := by decide +kernel
theorem dX7_fill_11 : decode cX7_fill 11 = .ok (.iload_n 3, 1) := by decide +kernel
theorem dX7_fill_12 : decode cX7_fill 12 = .ok (.iconst 0, 1) := by decide +kernel
theorem dX7_fill_13 : decode cX7_fill 13 = .ok (.iastore, 1) := by decide +kernel
theorem dX7_fill_14 : decode cX7_fill 14 = .ok (.aload_n 0, 1) := by decide +kernel
theorem dX7_fill_15 : decode cX7_fill 15 = .ok (.getfield 54, 3) := by decide +kernel
theorem dX7_fill_18 : decode cX7_fill 18 = .ok (.iload_n 3, 1) := by decide +kernel
theorem dX7_fill_19 : decode cX7_fill 19 = .ok (.iaload, 1) := by decide +kernel
theorem dX7_fill_20 : decode cX7_fill 20 = .ok (.aload_n 0, 1) := by decide +kernel
theorem dX7_fill_21 : decode cX7_fill 21 = .ok (.getfield 36, 3) := by decide +kernel
theorem dX7_fill_24 : decode cX7_fill 24 = .ok (.iconst 0, 1) := by decide +kernel
theorem dX7_fill_25 : decode cX7_fill 25 = .ok (.iaload, 1) := by decide +kernel
theorem dX7_fill_26 : decode cX7_fill 26 = .ok (.if_icmp .ge 24, 3) := by decide +kernel
theorem dX7_fill_29 : decode cX7_fill 29 = .ok (.aload_n 0, 1) := by decide +kernel
theorem dX7_fill_30 : decode cX7_fill 30 = .ok (.iload_n 3, 1) := by decide +kernel
theorem dX7_fill_31 : decode cX7_fill 31 = .ok (.invokevirtual 248, 3) := by decide +kernel
theorem dX7_fill_34 : decode cX7_fill 34 = .ok (.ifCond .ne 16, 3) := by decide +kernel
theorem dX7_fill_37 : decode cX7_fill 37 = .ok (.aload_n 0, 1) := by decide +kernel
theorem dX7_fill_38 : decode cX7_fill 38 = .ok (.getfield 54, 3) := by decide +kernel
theorem dX7_fill_41 : decode cX7_fill 41 = .ok (.iload_n 3, 1) := by decide +kernel
theorem dX7_fill_42 : decode cX7_fill 42 = .ok (.dup2, 1) := by decide +kernel
theorem dX7_fill_43 : decode cX7_fill 43 = .ok (.iaload, 1) := by decide +kernel
theorem dX7_fill_44 : decode cX7_fill 44 = .ok (.iconst 1, 1) := by decide +kernel
theorem dX7_fill_45 : decode cX7_fill 45 = .ok (.iadd, 1) := by decide +kernel
theorem dX7_fill_46 : decode cX7_fill 46 = .ok (.iastore, 1) := by decide +kernel
theorem dX7_fill_47 : decode cX7_fill 47 = .ok (.goto (-33), 3) := by decide +kernel
theorem dX7_fill_50 : decode cX7_fill 50 = .ok (.iinc 3 1, 3) := by decide +kernel
theorem dX7_fill_53 : decode cX7_fill 53 = .ok (.goto (-51), 3) := by decide +kernel
theorem dX7_fill_56 : decode cX7_fill 56 = .ok (.iconst 1, 1) := by decide +kernel
theorem dX7_fill_57 : decode cX7_fill 57 = .ok (.ireturn, 1) := by decide +kernel
theorem dX7_findLaying_0 : decode cX7_findLaying 0 = .ok (.aload_n 0, 1) := by decide +kernel
theorem dX7_findLaying_1 : decode cX7_findLaying 1 = .ok (.iconst 0, 1) := by decide +kernel
theorem dX7_findLaying_2 : decode cX7_findLaying 2 = .ok (.bipush 100, 2) := by decide +kernel
theorem dX7_findLaying_4 : decode cX7_findLaying 4 = .ok (.invokevirtual 257, 3) := by decide +kernel
theorem dX7_findLaying_7 : decode cX7_findLaying 7 = .ok (.iconst 0, 1) := by decide +kernel
theorem dX7_findLaying_8 : decode cX7_findLaying 8 = .ok (.istore_n 1, 1) := by decide +kernel
theorem dX7_findLaying_9 : decode cX7_findLaying 9 = .ok (.iconst 0, 1) := by decide +kernel
theorem dX7_findLaying_10 : decode cX7_findLaying 10 = .ok (.istore_n 2, 1) := by decide +kernel
theorem dX7_findLaying_11 : decode cX7_findLaying 11 = .ok (.iconst 0, 1) := by decide +kernel
theorem dX7_findLaying_12 : decode cX7_findLaying 12 = .ok (.istore_n 3, 1) := by decide +kernel
theorem dX7_findLaying_13 : decode cX7_findLaying 13 = .ok (.iload_n 3, 1) := by decide +kernel
theorem dX7_findLaying_14 : decode cX7_findLaying 14 = .ok (.aload_n 0, 1) := by decide +kernel
theorem dX7_findLaying_15 : decode cX7_findLaying 15 = .ok (.getfield 36, 3) := by decide +kernel
theorem dX7_findLaying_18 : decode cX7_findLaying 18 = .ok (.iconst 1, 1) := by decide +kernel
theorem dX7_findLaying_19 : decode cX7_findLaying 19 = .ok (.iaload, 1) := by decide +kernel
theorem dX7_findLaying_20 : decode cX7_findLaying 20 = .ok (.if_icmp .ge 28, 3) := by decide +kernel
theorem dX7_findLaying_23 : decode cX7_findLaying 23 = .ok (.aload_n 0, 1) := by decide +kernel
theorem dX7_findLaying_24 : decode cX7_findLaying 24 = .ok (.iconst 0, 1) := by decide +kernel
theorem dX7_findLaying_25 : decode cX7_findLaying 25 = .ok (.iload_n 3, 1) := by decide +kernel
theorem dX7_findLaying_26 : decode cX7_findLaying 26 = .ok (.invokevirtual 154, 3) := by decide +kernel
theorem dX7_findLaying_29 : decode cX7_findLaying 29 = .ok (.ifCond .eq 13, 3) := by decide +kernel
theorem dX7_findLaying_32 : decode cX7_findLaying 32 = .ok (.aload_n 0, 1) := by decide +kernel
theorem dX7_findLaying_33 : decode cX7_findLaying 33 = .ok (.getfield 51, 3) := by decide +kernel
theorem dX7_findLaying_36 : decode cX7_findLaying 36 = .ok (.iload_n 1, 1) := by decide +kernel
theorem dX7_findLaying_37 : decode cX7_findLaying 37 = .ok (.iload_n 3, 1) := by decide +kernel
theorem dX7_findLaying_38 : decode cX7_findLaying 38 = .ok (.iastore, 1) := by decide +kernel
theorem dX7_findLaying_39 : decode cX7_findLaying 39 = .ok (.iinc 1 1, 3) := by decide +kernel
theorem dX7_findLaying_42 : decode cX7_findLaying 42 = .ok (.iinc 3 1, 3) := by decide +kernel
