theorem dX7_findLaying_45 : decode cX7_findLaying 45 = .ok (.goto (-32), 3) := by decide +kernel
theorem dX7_findLaying_48 : decode cX7_findLaying 48 = .ok (.iconst 0, 1) := by decide +kernel
theorem dX7_findLaying_49 : decode cX7_findLaying 49 = .ok (.istore_n 3, 1) := by decide +kernel
theorem dX7_findLaying_50 : decode cX7_findLaying 50 = .ok (.iload_n 3, 1) := by decide +kernel
theorem dX7_findLaying_51 : decode cX7_findLaying 51 = .ok (.aload_n 0, 1) := by decide +kernel
theorem dX7_findLaying_52 : decode cX7_findLaying 52 = .ok (.getfield 36, 3) := by decide +kernel
theorem dX7_findLaying_55 : decode cX7_findLaying 55 = .ok (.iconst 0, 1) := by decide +kernel
theorem dX7_findLaying_56 : decode cX7_findLaying 56 = .ok (.iaload, 1) := by decide +kernel
theorem dX7_findLaying_57 : decode cX7_findLaying 57 = .ok (.if_icmp .ge 20, 3) := by decide +kernel
theorem dX7_findLaying_60 : decode cX7_findLaying 60 = .ok (.iload_n 2, 1) := by decide +kernel
theorem dX7_findLaying_61 : decode cX7_findLaying 61 = .ok (.aload_n 0, 1) := by decide +kernel
theorem dX7_findLaying_62 : decode cX7_findLaying 62 = .ok (.iload_n 3, 1) := by decide +kernel
theorem dX7_findLaying_63 : decode cX7_findLaying 63 = .ok (.invokevirtual 254, 3) := by decide +kernel
theorem dX7_findLaying_66 : decode cX7_findLaying 66 = .ok (.invokestatic 157, 3) := by decide +kernel
theorem dX7_findLaying_69 : decode cX7_findLaying 69 = .ok (.iadd, 1) := by decide +kernel
theorem dX7_findLaying_70 : decode cX7_findLaying 70 = .ok (.istore_n 2, 1) := by decide +kernel
theorem dX7_findLaying_71 : decode cX7_findLaying 71 = .ok (.iinc 3 1, 3) := by decide +kernel
theorem dX7_findLaying_74 : decode cX7_findLaying 74 = .ok (.goto (-24), 3) := by decide +kernel
theorem dX7_findLaying_77 : decode cX7_findLaying 77 = .ok (.iload_n 1, 1) := by decide +kernel
theorem dX7_findLaying_78 : decode cX7_findLaying 78 = .ok (.iload_n 2, 1) := by decide +kernel
theorem dX7_findLaying_79 : decode cX7_findLaying 79 = .ok (.if_icmp .le 5, 3) := by decide +kernel
theorem dX7_findLaying_82 : decode cX7_findLaying 82 = .ok (.iconst 0, 1) := by decide +kernel
theorem dX7_findLaying_83 : decode cX7_findLaying 83 = .ok (.ireturn, 1) := by decide +kernel
theorem dX7_findLaying_84 : decode cX7_findLaying 84 = .ok (.aload_n 0, 1) := by decide +kernel
theorem dX7_findLaying_85 : decode cX7_findLaying 85 = .ok (.iconst (-1), 1) := by decide +kernel
theorem dX7_findLaying_86 : decode cX7_findLaying 86 = .ok (.putfield 261, 3) := by decide +kernel
theorem dX7_findLaying_89 : decode cX7_findLaying 89 = .ok (.aload_n 0, 1) := by decide +kernel
theorem dX7_findLaying_90 : decode cX7_findLaying 90 = .ok (.iconst 0, 1) := by decide +kernel
theorem dX7_findLaying_91 : decode cX7_findLaying 91 = .ok (.iload_n 1, 1) := by decide +kernel
theorem dX7_findLaying_92 : decode cX7_findLaying 92 = .ok (.invokevirtual 251, 3) := by decide +kernel
theorem dX7_findLaying_95 : decode cX7_findLaying 95 = .ok (.istore_n 3, 1) := by decide +kernel
theorem dX7_findLaying_96 : decode cX7_findLaying 96 = .ok (.iload_n 3, 1) := by decide +kernel
theorem dX7_findLaying_97 : decode cX7_findLaying 97 = .ok (.ifCond .eq 121, 3) := by decide +kernel
theorem dX7_findLaying_100 : decode cX7_findLaying 100 = .ok (.iconst 0, 1) := by decide +kernel
theorem dX7_findLaying_101 : decode cX7_findLaying 101 = .ok (.istore 4, 2) := by decide +kernel
theorem dX7_findLaying_103 : decode cX7_findLaying 103 = .ok (.iload 4, 2) := by decide +kernel
theorem dX7_findLaying_105 : decode cX7_findLaying 105 = .ok (.iload_n 1, 1) := by decide +kernel
theorem dX7_findLaying_106 : decode cX7_findLaying 106 = .ok (.if_icmp .ge 32, 3) := by decide +kernel
theorem dX7_findLaying_109 : decode cX7_findLaying 109 = .ok (.aload_n 0, 1) := by decide +kernel
theorem dX7_findLaying_110 : decode cX7_findLaying 110 = .ok (.getfield 7, 3) := by decide +kernel
theorem dX7_findLaying_113 : decode cX7_findLaying 113 = .ok (.sipush 140, 3) := by decide +kernel
theorem dX7_findLaying_116 : decode cX7_findLaying 116 = .ok (.aload_n 0, 1) := by decide +kernel
theorem dX7_findLaying_117 : decode cX7_findLaying 117 = .ok (.getfield 51, 3) := by decide +kernel
theorem dX7_findLaying_120 : decode cX7_findLaying 120 = .ok (.iload 4, 2) := by decide +kernel
theorem dX7_findLaying_122 : decode cX7_findLaying 122 = .ok (.iaload, 1) := by decide +kernel
theorem dX7_findLaying_123 : decode cX7_findLaying 123 = .ok (.iadd, 1) := by decide +kernel
theorem dX7_findLaying_124 : decode cX7_findLaying 124 = .ok (.aload_n 0, 1) := by decide +kernel
theorem dX7_findLaying_125 : decode cX7_findLaying 125 = .ok (.getfield 54, 3) := by decide +kernel
theorem dX7_findLaying_128 : decode cX7_findLaying 128 = .ok (.iload 4, 2) := by decide +kernel
theorem dX7_findLaying_130 : decode cX7_findLaying 130 = .ok (.iaload, 1) := by decide +kernel
theorem dX7_findLaying_131 : decode cX7_findLaying 131 = .ok (.iastore, 1) := by decide +kernel
theorem dX7_findLaying_132 : decode cX7_findLaying 132 = .ok (.iinc 4 1, 3) := by decide +kernel
theorem dX7_findLaying_135 : decode cX7_findLaying 135 = .ok (.goto (-32), 3) := by decide +kernel
theorem dX7_findLaying_138 : decode cX7_findLaying 138 = .ok (.aload_n 0, 1) := by decide +kernel
theorem dX7_findLaying_139 : decode cX7_findLaying 139 = .ok (.bipush 100, 2) := by decide +kernel
theorem dX7_findLaying_141 : decode cX7_findLaying 141 = .ok (.invokevirtual 245, 3) := by decide +kernel
theorem dX7_findLaying_144 : decode cX7_findLaying 144 = .ok (.istore 4, 2) := by decide +kernel
theorem dX7_findLaying_146 : decode cX7_findLaying 146 = .ok (.aload_n 0, 1) := by decide +kernel
theorem dX7_findLaying_147 : decode cX7_findLaying 147 = .ok (.getfield 261, 3) := by decide +kernel
theorem dX7_findLaying_150 : decode cX7_findLaying 150 = .ok (.ifCond .lt 12, 3) := by decide +kernel
theorem dX7_findLaying_153 : decode cX7_findLaying 153 = .ok (.iload 4, 2) := by decide +kernel
theorem dX7_findLaying_155 : decode cX7_findLaying 155 = .ok (.aload_n 0, 1) := by decide +kernel
theorem dX7_findLaying_156 : decode cX7_findLaying 156 = .ok (.getfield 261, 3) := by decide +kernel
theorem dX7_findLaying_159 : decode cX7_findLaying 159 = .ok (.if_icmp .ge 38, 3) := by decide +kernel
theorem dX7_findLaying_162 : decode cX7_findLaying 162 = .ok (.aload_n 0, 1) := by decide +kernel
theorem dX7_findLaying_163 : decode cX7_findLaying 163 = .ok (.iload 4, 2) := by decide +kernel
theorem dX7_findLaying_165 : decode cX7_findLaying 165 = .ok (.putfield 261, 3) := by decide +kernel
theorem dX7_findLaying_168 : decode cX7_findLaying 168 = .ok (.iconst 0, 1) := by decide +kernel
theorem dX7_findLaying_169 : decode cX7_findLaying 169 = .ok (.istore 5, 2) := by decide +kernel
theorem dX7_findLaying_171 : decode cX7_findLaying 171 = .ok (.iload 5, 2) := by decide +kernel
theorem dX7_findLaying_173 : decode cX7_findLaying 173 = .ok (.iload_n 1, 1) := by decide +kernel
theorem dX7_findLaying_174 : decode cX7_findLaying 174 = .ok (.if_icmp .ge 23, 3) := by decide +kernel
theorem dX7_findLaying_177 : decode cX7_findLaying 177 = .ok (.aload_n 0, 1) := by decide +kernel
theorem dX7_findLaying_178 : decode cX7_findLaying 178 = .ok (.getfield 57, 3) := by decide +kernel
theorem dX7_findLaying_181 : decode cX7_findLaying 181 = .ok (.iload 5, 2) := by decide +kernel
theorem dX7_findLaying_183 : decode cX7_findLaying 183 = .ok (.aload_n 0, 1) := by decide +kernel
theorem dX7_findLaying_184 : decode cX7_findLaying 184 = .ok (.getfield 54, 3) := by decide +kernel
theorem dX7_findLaying_187 : decode cX7_findLaying 187 = .ok (.iload 5, 2) := by decide +kernel
theorem dX7_findLaying_189 : decode cX7_findLaying 189 = .ok (.iaload, 1) := by decide +kernel
theorem dX7_findLaying_190 : decode cX7_findLaying 190 = .ok (.iastore, 1) := by decide +kernel
theorem dX7_findLaying_191 : decode cX7_findLaying 191 = .ok (.iinc 5 1, 3) := by decide +kernel
theorem dX7_findLaying_194 : decode cX7_findLaying 194 = .ok (.goto (-23), 3) := by decide +kernel
theorem dX7_findLaying_197 : decode cX7_findLaying 197 = .ok (.iload_n 1, 1) := by decide +kernel
theorem dX7_findLaying_198 : decode cX7_findLaying 198 = .ok (.ifCond .le 15, 3) := by decide +kernel
theorem dX7_findLaying_201 : decode cX7_findLaying 201 = .ok (.aload_n 0, 1) := by decide +kernel
theorem dX7_findLaying_202 : decode cX7_findLaying 202 = .ok (.iload_n 1, 1) := by decide +kernel
theorem dX7_findLaying_203 : decode cX7_findLaying 203 = .ok (.invokevirtual 264, 3) := by decide +kernel
theorem dX7_findLaying_206 : decode cX7_findLaying 206 = .ok (.ifCond .eq 7, 3) := by decide +kernel
theorem dX7_findLaying_209 : decode cX7_findLaying 209 = .ok (.iconst 1, 1) := by decide +kernel
theorem dX7_findLaying_210 : decode cX7_findLaying 210 = .ok (.goto 4, 3) := by decide +kernel
theorem dX7_findLaying_213 : decode cX7_findLaying 213 = .ok (.iconst 0, 1) := by decide +kernel
theorem dX7_findLaying_214 : decode cX7_findLaying 214 = .ok (.istore_n 3, 1) := by decide +kernel
theorem dX7_findLaying_215 : decode cX7_findLaying 215 = .ok (.goto (-119), 3) := by decide +kernel
theorem dX7_findLaying_218 : decode cX7_findLaying 218 = .ok (.iconst 1, 1) := by decide +kernel
theorem dX7_findLaying_219 : decode cX7_findLaying 219 = .ok (.ireturn, 1) := by decide +kernel
theorem dX7_laying_0 : decode cX7_laying 0 = .ok (.iload_n 1, 1) := by decide +kernel
theorem dX7_laying_1 : decode cX7_laying 1 = .ok (.iconst (-1), 1) := by decide +kernel
theorem dX7_laying_2 : decode cX7_laying 2 = .ok (.if_icmp .eq 14, 3) := by decide +kernel
theorem dX7_laying_5 : decode cX7_laying 5 = .ok (.aload_n 0, 1) := by decide +kernel
theorem dX7_laying_6 : decode cX7_laying 6 = .ok (.iload_n 1, 1) := by decide +kernel
theorem dX7_laying_7 : decode cX7_laying 7 = .ok (.invokevirtual 190, 3) := by decide +kernel
theorem dX7_laying_10 : decode cX7_laying 10 = .ok (.ifCond .ne 6, 3) := by decide +kernel
theorem dX7_laying_13 : decode cX7_laying 13 = .ok (.ldc 186, 2) := by decide +kernel
theorem dX7_laying_15 : decode cX7_laying 15 = .ok (.ireturn, 1) := by decide +kernel
theorem dX7_laying_16 : decode cX7_laying 16 = .ok (.aload_n 0, 1) := by decide +kernel
theorem dX7_laying_17 : decode cX7_laying 17 = .ok (.invokevirtual 267, 3) := by decide +kernel
theorem dX7_laying_20 : decode cX7_laying 20 = .ok (.ifCond .ne 5, 3) := by decide +kernel
theorem dX7_laying_23 : decode cX7_laying 23 = .ok (.iconst (-1), 1) := by decide +kernel
theorem dX7_laying_24 : decode cX7_laying 24 = .ok (.ireturn, 1) := by decide +kernel
theorem dX7_laying_25 : decode cX7_laying 25 = .ok (.iload_n 1, 1) := by decide +kernel
theorem dX7_laying_26 : decode cX7_laying 26 = .ok (.ifCond .ge 8, 3) := by decide +kernel
theorem dX7_laying_29 : decode cX7_laying 29 = .ok (.aload_n 0, 1) := by decide +kernel
theorem dX7_laying_30 : decode cX7_laying 30 = .ok (.getfield 261, 3) := by decide +kernel
theorem dX7_laying_33 : decode cX7_laying 33 = .ok (.ireturn, 1) := by decide +kernel
theorem dX7_laying_34 : decode cX7_laying 34 = .ok (.iconst 0, 1) := by decide +kernel
theorem dX7_laying_35 : decode cX7_laying 35 = .ok (.istore_n 2, 1) := by decide +kernel
theorem dX7_laying_36 : decode cX7_laying 36 = .ok (.iconst 0, 1) := by decide +kernel
theorem dX7_laying_37 : decode cX7_laying 37 = .ok (.istore_n 3, 1) := by decide +kernel
theorem dX7_laying_38 : decode cX7_laying 38 = .ok (.iload_n 3, 1) := by decide +kernel
theorem dX7_laying_39 : decode cX7_laying 39 = .ok (.iload_n 1, 1) := by decide +kernel
theorem dX7_laying_40 : decode cX7_laying 40 = .ok (.if_icmp .ge 21, 3) := by decide +kernel
theorem dX7_laying_43 : decode cX7_laying 43 = .ok (.iload_n 2, 1) := by decide +kernel
theorem dX7_laying_44 : decode cX7_laying 44 = .ok (.aload_n 0, 1) := by decide +kernel
theorem dX7_laying_45 : decode cX7_laying 45 = .ok (.iconst 0, 1) := by decide +kernel
theorem dX7_laying_46 : decode cX7_laying 46 = .ok (.iload_n 3, 1) := by decide +kernel
theorem dX7_laying_47 : decode cX7_laying 47 = .ok (.invokevirtual 154, 3) := by decide +kernel
theorem dX7_laying_50 : decode cX7_laying 50 = .ok (.invokestatic 157, 3) := by decide +kernel
theorem dX7_laying_53 : decode cX7_laying 53 = .ok (.iadd, 1) := by decide +kernel
theorem dX7_laying_54 : decode cX7_laying 54 = .ok (.istore_n 2, 1) := by decide +kernel
theorem dX7_laying_55 : decode cX7_laying 55 = .ok (.iinc 3 1, 3) := by decide +kernel
theorem dX7_laying_58 : decode cX7_laying 58 = .ok (.goto (-20), 3) := by decide +kernel
theorem dX7_laying_61 : decode cX7_laying 61 = .ok (.aload_n 0, 1) := by decide +kernel
theorem dX7_laying_62 : decode cX7_laying 62 = .ok (.iconst 0, 1) := by decide +kernel
theorem dX7_laying_63 : decode cX7_laying 63 = .ok (.iload_n 1, 1) := by decide +kernel
theorem dX7_laying_64 : decode cX7_laying 64 = .ok (.invokevirtual 154, 3) := by decide +kernel
theorem dX7_laying_67 : decode cX7_laying 67 = .ok (.ifCond .eq 12, 3) := by decide +kernel
theorem dX7_laying_70 : decode cX7_laying 70 = .ok (.aload_n 0, 1) := by decide +kernel
theorem dX7_laying_71 : decode cX7_laying 71 = .ok (.getfield 57, 3) := by decide +kernel
theorem dX7_laying_74 : decode cX7_laying 74 = .ok (.iload_n 2, 1) := by decide +kernel
theorem dX7_laying_75 : decode cX7_laying 75 = .ok (.iaload, 1) := by decide +kernel
theorem dX7_laying_76 : decode cX7_laying 76 = .ok (.goto 4, 3) := by decide +kernel
theorem dX7_laying_79 : decode cX7_laying 79 = .ok (.iconst (-1), 1) := by decide +kernel
theorem dX7_laying_80 : decode cX7_laying 80 = .ok (.ireturn, 1) := by decide +kernel
theorem dX7_daysTill_0 : decode cX7_daysTill 0 = .ok (.aload_n 0, 1) := by decide +kernel
theorem dX7_daysTill_1 : decode cX7_daysTill 1 = .ok (.iload_n 2, 1) := by decide +kernel
theorem dX7_daysTill_2 : decode cX7_daysTill 2 = .ok (.iload_n 1, 1) := by decide +kernel
theorem dX7_daysTill_3 : decode cX7_daysTill 3 = .ok (.invokevirtual 201, 3) := by decide +kernel
theorem dX7_daysTill_6 : decode cX7_daysTill 6 = .ok (.istore_n 3, 1) := by decide +kernel
theorem dX7_daysTill_7 : decode cX7_daysTill 7 = .ok (.aload_n 0, 1) := by decide +kernel
theorem dX7_daysTill_8 : decode cX7_daysTill 8 = .ok (.getfield 7, 3) := by decide +kernel
theorem dX7_daysTill_11 : decode cX7_daysTill 11 = .ok (.iload_n 1, 1) := by decide +kernel
theorem dX7_daysTill_12 : decode cX7_daysTill 12 = .ok (.iaload, 1) := by decide +kernel
theorem dX7_daysTill_13 : decode cX7_daysTill 13 = .ok (.ifCond .ne 7, 3) := by decide +kernel
theorem dX7_daysTill_16 : decode cX7_daysTill 16 = .ok (.iconst 0, 1) := by decide +kernel
theorem dX7_daysTill_17 : decode cX7_daysTill 17 = .ok (.goto 25, 3) := by decide +kernel
theorem dX7_daysTill_20 : decode cX7_daysTill 20 = .ok (.iload_n 3, 1) := by decide +kernel
theorem dX7_daysTill_21 : decode cX7_daysTill 21 = .ok (.ifCond .ne 9, 3) := by decide +kernel
theorem dX7_daysTill_24 : decode cX7_daysTill 24 = .ok (.sipush 1000, 3) := by decide +kernel
theorem dX7_daysTill_27 : decode cX7_daysTill 27 = .ok (.goto 15, 3) := by decide +kernel
theorem dX7_daysTill_30 : decode cX7_daysTill 30 = .ok (.aload_n 0, 1) := by decide +kernel
theorem dX7_daysTill_31 : decode cX7_daysTill 31 = .ok (.getfield 7, 3) := by decide +kernel
theorem dX7_daysTill_34 : decode cX7_daysTill 34 = .ok (.iload_n 1, 1) := by decide +kernel
theorem dX7_daysTill_35 : decode cX7_daysTill 35 = .ok (.iaload, 1) := by decide +kernel
theorem dX7_daysTill_36 : decode cX7_daysTill 36 = .ok (.iload_n 3, 1) := by decide +kernel
theorem dX7_daysTill_37 : decode cX7_daysTill 37 = .ok (.iadd, 1) := by decide +kernel
theorem dX7_daysTill_38 : decode cX7_daysTill 38 = .ok (.iconst 1, 1) := by decide +kernel
theorem dX7_daysTill_39 : decode cX7_daysTill 39 = .ok (.isub, 1) := by decide +kernel
theorem dX7_daysTill_40 : decode cX7_daysTill 40 = .ok (.iload_n 3, 1) := by decide +kernel
theorem dX7_daysTill_41 : decode cX7_daysTill 41 = .ok (.idiv, 1) := by decide +kernel
theorem dX7_daysTill_42 : decode cX7_daysTill 42 = .ok (.ireturn, 1) := by decide +kernel
theorem dX7_whenSoft_0 : decode cX7_whenSoft 0 = .ok (.iconst 0, 1) := by decide +kernel
theorem dX7_whenSoft_1 : decode cX7_whenSoft 1 = .ok (.istore_n 3, 1) := by decide +kernel
theorem dX7_whenSoft_2 : decode cX7_whenSoft 2 = .ok (.iload_n 3, 1) := by decide +kernel
theorem dX7_whenSoft_3 : decode cX7_whenSoft 3 = .ok (.sipush 999, 3) := by decide +kernel
theorem dX7_whenSoft_6 : decode cX7_whenSoft 6 = .ok (.if_icmp .gt 74, 3) := by decide +kernel
theorem dX7_whenSoft_9 : decode cX7_whenSoft 9 = .ok (.iconst 0, 1) := by decide +kernel
theorem dX7_whenSoft_10 : decode cX7_whenSoft 10 = .ok (.istore 4, 2) := by decide +kernel
theorem dX7_whenSoft_12 : decode cX7_whenSoft 12 = .ok (.iconst 0, 1) := by decide +kernel
theorem dX7_whenSoft_13 : decode cX7_whenSoft 13 = .ok (.istore 5, 2) := by decide +kernel
theorem dX7_whenSoft_15 : decode cX7_whenSoft 15 = .ok (.iload 5, 2) := by decide +kernel
theorem dX7_whenSoft_17 : decode cX7_whenSoft 17 = .ok (.aload_n 0, 1) := by decide +kernel
theorem dX7_whenSoft_18 : decode cX7_whenSoft 18 = .ok (.getfield 36, 3) := by decide +kernel
theorem dX7_whenSoft_21 : decode cX7_whenSoft 21 = .ok (.iconst 0, 1) := by decide +kernel
theorem dX7_whenSoft_22 : decode cX7_whenSoft 22 = .ok (.iaload, 1) := by decide +kernel
theorem dX7_whenSoft_23 : decode cX7_whenSoft 23 = .ok (.if_icmp .ge 43, 3) := by decide +kernel
theorem dX7_whenSoft_26 : decode cX7_whenSoft 26 = .ok (.iload 4, 2) := by decide +kernel
theorem dX7_whenSoft_28 : decode cX7_whenSoft 28 = .ok (.aload_n 0, 1) := by decide +kernel
theorem dX7_whenSoft_29 : decode cX7_whenSoft 29 = .ok (.iconst 0, 1) := by decide +kernel
theorem dX7_whenSoft_30 : decode cX7_whenSoft 30 = .ok (.iload 5, 2) := by decide +kernel
theorem dX7_whenSoft_32 : decode cX7_whenSoft 32 = .ok (.invokevirtual 187, 3) := by decide +kernel
theorem dX7_whenSoft_35 : decode cX7_whenSoft 35 = .ok (.ifCond .ge 18, 3) := by decide +kernel
theorem dX7_whenSoft_38 : decode cX7_whenSoft 38 = .ok (.aload_n 0, 1) := by decide +kernel
theorem dX7_whenSoft_39 : decode cX7_whenSoft 39 = .ok (.iload 5, 2) := by decide +kernel
theorem dX7_whenSoft_41 : decode cX7_whenSoft 41 = .ok (.iload_n 2, 1) := by decide +kernel
theorem dX7_whenSoft_42 : decode cX7_whenSoft 42 = .ok (.invokevirtual 271, 3) := by decide +kernel
theorem dX7_whenSoft_45 : decode cX7_whenSoft 45 = .ok (.iload_n 3, 1) := by decide +kernel
theorem dX7_whenSoft_46 : decode cX7_whenSoft 46 = .ok (.if_icmp .gt 7, 3) := by decide +kernel
theorem dX7_whenSoft_49 : decode cX7_whenSoft 49 = .ok (.iconst 1, 1) := by decide +kernel
theorem dX7_whenSoft_50 : decode cX7_whenSoft 50 = .ok (.goto 4, 3) := by decide +kernel
theorem dX7_whenSoft_53 : decode cX7_whenSoft 53 = .ok (.iconst 0, 1) := by decide +kernel
theorem dX7_whenSoft_54 : decode cX7_whenSoft 54 = .ok (.invokestatic 157, 3) := by decide +kernel
theorem dX7_whenSoft_57 : decode cX7_whenSoft 57 = .ok (.iadd, 1) := by decide +kernel
theorem dX7_whenSoft_58 : decode cX7_whenSoft 58 = .ok (.istore 4, 2) := by decide +kernel
theorem dX7_whenSoft_60 : decode cX7_whenSoft 60 = .ok (.iinc 5 1, 3) := by decide +kernel
theorem dX7_whenSoft_63 : decode cX7_whenSoft 63 = .ok (.goto (-48), 3) := by decide +kernel
theorem dX7_whenSoft_66 : decode cX7_whenSoft 66 = .ok (.iload 4, 2) := by decide +kernel
theorem dX7_whenSoft_68 : decode cX7_whenSoft 68 = .ok (.iload_n 1, 1) := by decide +kernel
theorem dX7_whenSoft_69 : decode cX7_whenSoft 69 = .ok (.if_icmp .lt 5, 3) := by decide +kernel
theorem dX7_whenSoft_72 : decode cX7_whenSoft 72 = .ok (.iload_n 3, 1) := by decide +kernel
theorem dX7_whenSoft_73 : decode cX7_whenSoft 73 = .ok (.ireturn, 1) := by decide +kernel
theorem dX7_whenSoft_74 : decode cX7_whenSoft 74 = .ok (.iinc 3 1, 3) := by decide +kernel
theorem dX7_whenSoft_77 : decode cX7_whenSoft 77 = .ok (.goto (-75), 3) := by decide +kernel
theorem dX7_whenSoft_80 : decode cX7_whenSoft 80 = .ok (.iconst (-1), 1) := by decide +kernel
theorem dX7_whenSoft_81 : decode cX7_whenSoft 81 = .ok (.ireturn, 1) := by decide +kernel
theorem dX7_when_0 : decode cX7_when 0 = .ok (.iload_n 1, 1) := by decide +kernel
theorem dX7_when_1 : decode cX7_when 1 = .ok (.i2l, 1) := by decide +kernel
theorem dX7_when_2 : decode cX7_when 2 = .ok (.lconst 1, 1) := by decide +kernel
theorem dX7_when_3 : decode cX7_when 3 = .ok (.ldc2_w 75, 3) := by decide +kernel
theorem dX7_when_6 : decode cX7_when 6 = .ok (.invokestatic 77, 3) := by decide +kernel
theorem dX7_when_9 : decode cX7_when 9 = .ok (.ifCond .eq 24, 3) := by decide +kernel
theorem dX7_when_12 : decode cX7_when 12 = .ok (.iload_n 2, 1) := by decide +kernel
theorem dX7_when_13 : decode cX7_when 13 = .ok (.i2l, 1) := by decide +kernel
theorem dX7_when_14 : decode cX7_when 14 = .ok (.lconst 1, 1) := by decide +kernel
theorem dX7_when_15 : decode cX7_when 15 = .ok (.ldc2_w 206, 3) := by decide +kernel
theorem dX7_when_18 : decode cX7_when 18 = .ok (.invokestatic 77, 3) := by decide +kernel
theorem dX7_when_21 : decode cX7_when 21 = .ok (.ifCond .eq 12, 3) := by decide +kernel
theorem dX7_when_24 : decode cX7_when 24 = .ok (.aload_n 0, 1) := by decide +kernel
theorem dX7_when_25 : decode cX7_when 25 = .ok (.iload_n 1, 1) := by decide +kernel
theorem dX7_when_26 : decode cX7_when 26 = .ok (.iload_n 2, 1) := by decide +kernel
theorem dX7_when_27 : decode cX7_when 27 = .ok (.invokevirtual 274, 3) := by decide +kernel
theorem dX7_when_30 : decode cX7_when 30 = .ok (.goto 5, 3) := by decide +kernel
theorem dX7_when_33 : decode cX7_when 33 = .ok (.ldc 81, 2) := by decide +kernel
theorem dX7_when_35 : decode cX7_when 35 = .ok (.ireturn, 1) := by decide +kernel
theorem dX7_span_0 : decode cX7_span 0 = .ok (.iload_n 1, 1) := by decide +kernel
theorem dX7_span_1 : decode cX7_span 1 = .ok (.i2l, 1) := by decide +kernel
theorem dX7_span_2 : decode cX7_span 2 = .ok (.lconst 1, 1) := by decide +kernel
theorem dX7_span_3 : decode cX7_span 3 = .ok (.ldc2_w 75, 3) := by decide +kernel
theorem dX7_span_6 : decode cX7_span 6 = .ok (.invokestatic 77, 3) := by decide +kernel
theorem dX7_span_9 : decode cX7_span 9 = .ok (.ifCond .eq 39, 3) := by decide +kernel
theorem dX7_span_12 : decode cX7_span 12 = .ok (.iload_n 2, 1) := by decide +kernel
theorem dX7_span_13 : decode cX7_span 13 = .ok (.i2l, 1) := by decide +kernel
theorem dX7_span_14 : decode cX7_span 14 = .ok (.lconst 1, 1) := by decide +kernel
theorem dX7_span_15 : decode cX7_span 15 = .ok (.ldc2_w 206, 3) := by decide +kernel
theorem dX7_span_18 : decode cX7_span 18 = .ok (.invokestatic 77, 3) := by decide +kernel
theorem dX7_span_21 : decode cX7_span 21 = .ok (.ifCond .eq 27, 3) := by decide +kernel
theorem dX7_span_24 : decode cX7_span 24 = .ok (.iload_n 3, 1) := by decide +kernel
theorem dX7_span_25 : decode cX7_span 25 = .ok (.i2l, 1) := by decide +kernel
theorem dX7_span_26 : decode cX7_span 26 = .ok (.iload_n 2, 1) := by decide +kernel
theorem dX7_span_27 : decode cX7_span 27 = .ok (.i2l, 1) := by decide +kernel
theorem dX7_span_28 : decode cX7_span 28 = .ok (.ldc2_w 206, 3) := by decide +kernel
theorem dX7_span_31 : decode cX7_span 31 = .ok (.invokestatic 77, 3) := by decide +kernel
theorem dX7_span_34 : decode cX7_span 34 = .ok (.ifCond .eq 14, 3) := by decide +kernel
theorem dX7_span_37 : decode cX7_span 37 = .ok (.iload 4, 2) := by decide +kernel
theorem dX7_span_39 : decode cX7_span 39 = .ok (.i2l, 1) := by decide +kernel
theorem dX7_span_40 : decode cX7_span 40 = .ok (.lconst 0, 1) := by decide +kernel
theorem dX7_span_41 : decode cX7_span 41 = .ok (.lconst 1, 1) := by decide +kernel
theorem dX7_span_42 : decode cX7_span 42 = .ok (.invokestatic 77, 3) := by decide +kernel
theorem dX7_span_45 : decode cX7_span 45 = .ok (.ifCond .ne 6, 3) := by decide +kernel
theorem dX7_span_48 : decode cX7_span 48 = .ok (.ldc 81, 2) := by decide +kernel
theorem dX7_span_50 : decode cX7_span 50 = .ok (.ireturn, 1) := by decide +kernel
theorem dX7_span_51 : decode cX7_span 51 = .ok (.aload_n 0, 1) := by decide +kernel
theorem dX7_span_52 : decode cX7_span 52 = .ok (.iload_n 1, 1) := by decide +kernel
theorem dX7_span_53 : decode cX7_span 53 = .ok (.iload 4, 2) := by decide +kernel
theorem dX7_span_55 : decode cX7_span 55 = .ok (.ifCond .ne 7, 3) := by decide +kernel
theorem dX7_span_58 : decode cX7_span 58 = .ok (.iload_n 3, 1) := by decide +kernel
theorem dX7_span_59 : decode cX7_span 59 = .ok (.goto 4, 3) := by decide +kernel
theorem dX7_span_62 : decode cX7_span 62 = .ok (.iload_n 2, 1) := by decide +kernel
theorem dX7_span_63 : decode cX7_span 63 = .ok (.invokevirtual 274, 3) := by decide +kernel
theorem dX7_span_66 : decode cX7_span 66 = .ok (.ireturn, 1) := by decide +kernel
theorem dX7_bribe_0 : decode cX7_bribe 0 = .ok (.aload_n 0, 1) := by decide +kernel
theorem dX7_bribe_1 : decode cX7_bribe 1 = .ok (.iload_n 1, 1) := by decide +kernel
theorem dX7_bribe_2 : decode cX7_bribe 2 = .ok (.invokevirtual 190, 3) := by decide +kernel
theorem dX7_bribe_5 : decode cX7_bribe 5 = .ok (.ifCond .ne 6, 3) := by decide +kernel
theorem dX7_bribe_8 : decode cX7_bribe 8 = .ok (.ldc 186, 2) := by decide +kernel
theorem dX7_bribe_10 : decode cX7_bribe 10 = .ok (.ireturn, 1) := by decide +kernel
theorem dX7_bribe_11 : decode cX7_bribe 11 = .ok (.iload_n 2, 1) := by decide +kernel
theorem dX7_bribe_12 : decode cX7_bribe 12 = .ok (.i2l, 1) := by decide +kernel
theorem dX7_bribe_13 : decode cX7_bribe 13 = .ok (.lconst 0, 1) := by decide +kernel
theorem dX7_bribe_14 : decode cX7_bribe 14 = .ok (.ldc2_w 277, 3) := by decide +kernel
theorem dX7_bribe_17 : decode cX7_bribe 17 = .ok (.invokestatic 77, 3) := by decide +kernel
theorem dX7_bribe_20 : decode cX7_bribe 20 = .ok (.ifCond .ne 6, 3) := by decide +kernel
theorem dX7_bribe_23 : decode cX7_bribe 23 = .ok (.ldc 81, 2) := by decide +kernel
theorem dX7_bribe_25 : decode cX7_bribe 25 = .ok (.ireturn, 1) := by decide +kernel
theorem dX7_bribe_26 : decode cX7_bribe 26 = .ok (.aload_n 0, 1) := by decide +kernel
theorem dX7_bribe_27 : decode cX7_bribe 27 = .ok (.iconst 0, 1) := by decide +kernel
theorem dX7_bribe_28 : decode cX7_bribe 28 = .ok (.iload_n 1, 1) := by decide +kernel
theorem dX7_bribe_29 : decode cX7_bribe 29 = .ok (.invokevirtual 154, 3) := by decide +kernel
theorem dX7_bribe_32 : decode cX7_bribe 32 = .ok (.ifCond .ne 6, 3) := by decide +kernel
theorem dX7_bribe_35 : decode cX7_bribe 35 = .ok (.ldc 200, 2) := by decide +kernel
theorem dX7_bribe_37 : decode cX7_bribe 37 = .ok (.ireturn, 1) := by decide +kernel
theorem dX7_bribe_38 : decode cX7_bribe 38 = .ok (.aload_n 0, 1) := by decide +kernel
theorem dX7_bribe_39 : decode cX7_bribe 39 = .ok (.iconst 0, 1) := by decide +kernel
theorem dX7_bribe_40 : decode cX7_bribe 40 = .ok (.bipush 100, 2) := by decide +kernel
theorem dX7_bribe_42 : decode cX7_bribe 42 = .ok (.invokevirtual 257, 3) := by decide +kernel
theorem dX7_bribe_45 : decode cX7_bribe 45 = .ok (.iconst 0, 1) := by decide +kernel
theorem dX7_bribe_46 : decode cX7_bribe 46 = .ok (.istore_n 3, 1) := by decide +kernel
theorem dX7_bribe_47 : decode cX7_bribe 47 = .ok (.iload_n 3, 1) := by decide +kernel
theorem dX7_bribe_48 : decode cX7_bribe 48 = .ok (.sipush 999, 3) := by decide +kernel
theorem dX7_bribe_51 : decode cX7_bribe 51 = .ok (.if_icmp .gt 65, 3) := by decide +kernel
theorem dX7_bribe_54 : decode cX7_bribe 54 = .ok (.aload_n 0, 1) := by decide +kernel
theorem dX7_bribe_55 : decode cX7_bribe 55 = .ok (.getfield 7, 3) := by decide +kernel
theorem dX7_bribe_58 : decode cX7_bribe 58 = .ok (.bipush 124, 2) := by decide +kernel
theorem dX7_bribe_60 : decode cX7_bribe 60 = .ok (.iload_n 1, 1) := by decide +kernel
theorem dX7_bribe_61 : decode cX7_bribe 61 = .ok (.iadd, 1) := by decide +kernel
theorem dX7_bribe_62 : decode cX7_bribe 62 = .ok (.aload_n 0, 1) := by decide +kernel
theorem dX7_bribe_63 : decode cX7_bribe 63 = .ok (.getfield 7, 3) := by decide +kernel
theorem dX7_bribe_66 : decode cX7_bribe 66 = .ok (.bipush 24, 2) := by decide +kernel
theorem dX7_bribe_68 : decode cX7_bribe 68 = .ok (.iload_n 1, 1) := by decide +kernel
theorem dX7_bribe_69 : decode cX7_bribe 69 = .ok (.iadd, 1) := by decide +kernel
theorem dX7_bribe_70 : decode cX7_bribe 70 = .ok (.iaload, 1) := by decide +kernel
theorem dX7_bribe_71 : decode cX7_bribe 71 = .ok (.iload_n 3, 1) := by decide +kernel
theorem dX7_bribe_72 : decode cX7_bribe 72 = .ok (.iadd, 1) := by decide +kernel
theorem dX7_bribe_73 : decode cX7_bribe 73 = .ok (.sipush 9999, 3) := by decide +kernel
theorem dX7_bribe_76 : decode cX7_bribe 76 = .ok (.if_icmp .le 9, 3) := by decide +kernel
theorem dX7_bribe_79 : decode cX7_bribe 79 = .ok (.sipush 9999, 3) := by decide +kernel
theorem dX7_bribe_82 : decode cX7_bribe 82 = .ok (.goto 14, 3) := by decide +kernel
theorem dX7_bribe_85 : decode cX7_bribe 85 = .ok (.aload_n 0, 1) := by decide +kernel
theorem dX7_bribe_86 : decode cX7_bribe 86 = .ok (.getfield 7, 3) := by decide +kernel
theorem dX7_bribe_89 : decode cX7_bribe 89 = .ok (.bipush 24, 2) := by decide +kernel
theorem dX7_bribe_91 : decode cX7_bribe 91 = .ok (.iload_n 1, 1) := by decide +kernel
theorem dX7_bribe_92 : decode cX7_bribe 92 = .ok (.iadd, 1) := by decide +kernel
theorem dX7_bribe_93 : decode cX7_bribe 93 = .ok (.iaload, 1) := by decide +kernel
theorem dX7_bribe_94 : decode cX7_bribe 94 = .ok (.iload_n 3, 1) := by decide +kernel
theorem dX7_bribe_95 : decode cX7_bribe 95 = .ok (.iadd, 1) := by decide +kernel
theorem dX7_bribe_96 : decode cX7_bribe 96 = .ok (.iastore, 1) := by decide +kernel
theorem dX7_bribe_97 : decode cX7_bribe 97 = .ok (.aload_n 0, 1) := by decide +kernel
theorem dX7_bribe_98 : decode cX7_bribe 98 = .ok (.bipush 100, 2) := by decide +kernel
theorem dX7_bribe_100 : decode cX7_bribe 100 = .ok (.iload_n 1, 1) := by decide +kernel
theorem dX7_bribe_101 : decode cX7_bribe 101 = .ok (.invokevirtual 172, 3) := by decide +kernel
theorem dX7_bribe_104 : decode cX7_bribe 104 = .ok (.iload_n 2, 1) := by decide +kernel
theorem dX7_bribe_105 : decode cX7_bribe 105 = .ok (.if_icmp .gt 5, 3) := by decide +kernel
theorem dX7_bribe_108 : decode cX7_bribe 108 = .ok (.iload_n 3, 1) := by decide +kernel
theorem dX7_bribe_109 : decode cX7_bribe 109 = .ok (.ireturn, 1) := by decide +kernel
theorem dX7_bribe_110 : decode cX7_bribe 110 = .ok (.iinc 3 1, 3) := by decide +kernel
theorem dX7_bribe_113 : decode cX7_bribe 113 = .ok (.goto (-66), 3) := by decide +kernel
theorem dX7_bribe_116 : decode cX7_bribe 116 = .ok (.iconst (-1), 1) := by decide +kernel
theorem dX7_bribe_117 : decode cX7_bribe 117 = .ok (.ireturn, 1) := by decide +kernel
theorem dX7_label_0 : decode cX7_label 0 = .ok (.aload_n 0, 1) := by decide +kernel
theorem dX7_label_1 : decode cX7_label 1 = .ok (.iload_n 1, 1) := by decide +kernel
theorem dX7_label_2 : decode cX7_label 2 = .ok (.invokevirtual 190, 3) := by decide +kernel
theorem dX7_label_5 : decode cX7_label 5 = .ok (.ifCond .eq 11, 3) := by decide +kernel
theorem dX7_label_8 : decode cX7_label 8 = .ok (.aload_n 0, 1) := by decide +kernel
theorem dX7_label_9 : decode cX7_label 9 = .ok (.iload_n 2, 1) := by decide +kernel
theorem dX7_label_10 : decode cX7_label 10 = .ok (.invokevirtual 190, 3) := by decide +kernel
theorem dX7_label_13 : decode cX7_label 13 = .ok (.ifCond .ne 6, 3) := by decide +kernel
theorem dX7_label_16 : decode cX7_label 16 = .ok (.ldc 186, 2) := by decide +kernel
theorem dX7_label_18 : decode cX7_label 18 = .ok (.ireturn, 1) := by decide +kernel
theorem dX7_label_19 : decode cX7_label 19 = .ok (.aload_n 0, 1) := by decide +kernel
theorem dX7_label_20 : decode cX7_label 20 = .ok (.getfield 7, 3) := by decide +kernel
theorem dX7_label_23 : decode cX7_label 23 = .ok (.bipush 56, 2) := by decide +kernel
theorem dX7_label_25 : decode cX7_label 25 = .ok (.iload_n 1, 1) := by decide +kernel
theorem dX7_label_26 : decode cX7_label 26 = .ok (.iadd, 1) := by decide +kernel
theorem dX7_label_27 : decode cX7_label 27 = .ok (.iaload, 1) := by decide +kernel
theorem dX7_label_28 : decode cX7_label 28 = .ok (.istore_n 3, 1) := by decide +kernel
theorem dX7_label_29 : decode cX7_label 29 = .ok (.aload_n 0, 1) := by decide +kernel
theorem dX7_label_30 : decode cX7_label 30 = .ok (.getfield 7, 3) := by decide +kernel
theorem dX7_label_33 : decode cX7_label 33 = .ok (.bipush 56, 2) := by decide +kernel
theorem dX7_label_35 : decode cX7_label 35 = .ok (.iload_n 1, 1) := by decide +kernel
theorem dX7_label_36 : decode cX7_label 36 = .ok (.iadd, 1) := by decide +kernel
theorem dX7_label_37 : decode cX7_label 37 = .ok (.iload_n 2, 1) := by decide +kernel
theorem dX7_label_38 : decode cX7_label 38 = .ok (.iastore, 1) := by decide +kernel
theorem dX7_label_39 : decode cX7_label 39 = .ok (.iload_n 3, 1) := by decide +kernel
theorem dX7_label_40 : decode cX7_label 40 = .ok (.ireturn, 1) := by decide +kernel
theorem dX7_mark_0 : decode cX7_mark 0 = .ok (.aload_n 0, 1) := by decide +kernel
theorem dX7_mark_1 : decode cX7_mark 1 = .ok (.iload_n 1, 1) := by decide +kernel
theorem dX7_mark_2 : decode cX7_mark 2 = .ok (.invokevirtual 190, 3) := by decide +kernel
theorem dX7_mark_5 : decode cX7_mark 5 = .ok (.ifCond .eq 23, 3) := by decide +kernel
theorem dX7_mark_8 : decode cX7_mark 8 = .ok (.iload_n 2, 1) := by decide +kernel
theorem dX7_mark_9 : decode cX7_mark 9 = .ok (.i2l, 1) := by decide +kernel
theorem dX7_mark_10 : decode cX7_mark 10 = .ok (.lconst 0, 1) := by decide +kernel
theorem dX7_mark_11 : decode cX7_mark 11 = .ok (.iconst 1, 1) := by decide +kernel
theorem dX7_mark_12 : decode cX7_mark 12 = .ok (.aload_n 0, 1) := by decide +kernel
theorem dX7_mark_13 : decode cX7_mark 13 = .ok (.getfield 36, 3) := by decide +kernel
theorem dX7_mark_16 : decode cX7_mark 16 = .ok (.iconst 1, 1) := by decide +kernel
theorem dX7_mark_17 : decode cX7_mark 17 = .ok (.iaload, 1) := by decide +kernel
theorem dX7_mark_18 : decode cX7_mark 18 = .ok (.ishl, 1) := by decide +kernel
theorem dX7_mark_19 : decode cX7_mark 19 = .ok (.iconst 1, 1) := by decide +kernel
theorem dX7_mark_20 : decode cX7_mark 20 = .ok (.isub, 1) := by decide +kernel
theorem dX7_mark_21 : decode cX7_mark 21 = .ok (.i2l, 1) := by decide +kernel
theorem dX7_mark_22 : decode cX7_mark 22 = .ok (.invokestatic 77, 3) := by decide +kernel
theorem dX7_mark_25 : decode cX7_mark 25 = .ok (.ifCond .ne 6, 3) := by decide +kernel
theorem dX7_mark_28 : decode cX7_mark 28 = .ok (.ldc 186, 2) := by decide +kernel
theorem dX7_mark_30 : decode cX7_mark 30 = .ok (.ireturn, 1) := by decide +kernel
theorem dX7_mark_31 : decode cX7_mark 31 = .ok (.aload_n 0, 1) := by decide +kernel
theorem dX7_mark_32 : decode cX7_mark 32 = .ok (.getfield 7, 3) := by decide +kernel
theorem dX7_mark_35 : decode cX7_mark 35 = .ok (.bipush 64, 2) := by decide +kernel
theorem dX7_mark_37 : decode cX7_mark 37 = .ok (.iload_n 1, 1) := by decide +kernel
theorem dX7_mark_38 : decode cX7_mark 38 = .ok (.iadd, 1) := by decide +kernel
theorem dX7_mark_39 : decode cX7_mark 39 = .ok (.iaload, 1) := by decide +kernel
theorem dX7_mark_40 : decode cX7_mark 40 = .ok (.istore_n 3, 1) := by decide +kernel
theorem dX7_mark_41 : decode cX7_mark 41 = .ok (.aload_n 0, 1) := by decide +kernel
theorem dX7_mark_42 : decode cX7_mark 42 = .ok (.getfield 7, 3) := by decide +kernel
theorem dX7_mark_45 : decode cX7_mark 45 = .ok (.bipush 64, 2) := by decide +kernel
theorem dX7_mark_47 : decode cX7_mark 47 = .ok (.iload_n 1, 1) := by decide +kernel
theorem dX7_mark_48 : decode cX7_mark 48 = .ok (.iadd, 1) := by decide +kernel
theorem dX7_mark_49 : decode cX7_mark 49 = .ok (.iload_n 2, 1) := by decide +kernel
theorem dX7_mark_50 : decode cX7_mark 50 = .ok (.iastore, 1) := by decide +kernel
theorem dX7_mark_51 : decode cX7_mark 51 = .ok (.iload_n 3, 1) := by decide +kernel
theorem dX7_mark_52 : decode cX7_mark 52 = .ok (.ireturn, 1) := by decide +kernel
theorem dX7_ahead_0 : decode cX7_ahead 0 = .ok (.aload_n 0, 1) := by decide +kernel
theorem dX7_ahead_1 : decode cX7_ahead 1 = .ok (.getfield 36, 3) := by decide +kernel
theorem dX7_ahead_4 : decode cX7_ahead 4 = .ok (.iconst 1, 1) := by decide +kernel
theorem dX7_ahead_5 : decode cX7_ahead 5 = .ok (.iaload, 1) := by decide +kernel
theorem dX7_ahead_6 : decode cX7_ahead 6 = .ok (.iload_n 1, 1) := by decide +kernel
theorem dX7_ahead_7 : decode cX7_ahead 7 = .ok (.invokestatic 236, 3) := by decide +kernel
theorem dX7_ahead_10 : decode cX7_ahead 10 = .ok (.isub, 1) := by decide +kernel
theorem dX7_ahead_11 : decode cX7_ahead 11 = .ok (.ireturn, 1) := by decide +kernel
theorem dX7_findNames_0 : decode cX7_findNames 0 = .ok (.iconst 0, 1) := by decide +kernel
theorem dX7_findNames_1 : decode cX7_findNames 1 = .ok (.istore_n 1, 1) := by decide +kernel
theorem dX7_findNames_2 : decode cX7_findNames 2 = .ok (.iload_n 1, 1) := by decide +kernel
theorem dX7_findNames_3 : decode cX7_findNames 3 = .ok (.iconst 1, 1) := by decide +kernel
theorem dX7_findNames_4 : decode cX7_findNames 4 = .ok (.aload_n 0, 1) := by decide +kernel
theorem dX7_findNames_5 : decode cX7_findNames 5 = .ok (.getfield 36, 3) := by decide +kernel
theorem dX7_findNames_8 : decode cX7_findNames 8 = .ok (.iconst 1, 1) := by decide +kernel
theorem dX7_findNames_9 : decode cX7_findNames 9 = .ok (.iaload, 1) := by decide +kernel
theorem dX7_findNames_10 : decode cX7_findNames 10 = .ok (.ishl, 1) := by decide +kernel
theorem dX7_findNames_11 : decode cX7_findNames 11 = .ok (.if_icmp .ge 180, 3) := by decide +kernel
theorem dX7_findNames_14 : decode cX7_findNames 14 = .ok (.aload_n 0, 1) := by decide +kernel
theorem dX7_findNames_15 : decode cX7_findNames 15 = .ok (.iload_n 1, 1) := by decide +kernel
theorem dX7_findNames_16 : decode cX7_findNames 16 = .ok (.invokevirtual 279, 3) := by decide +kernel
theorem dX7_findNames_19 : decode cX7_findNames 19 = .ok (.istore_n 2, 1) := by decide +kernel
theorem dX7_findNames_20 : decode cX7_findNames 20 = .ok (.aload_n 0, 1) := by decide +kernel
theorem dX7_findNames_21 : decode cX7_findNames 21 = .ok (.getfield 60, 3) := by decide +kernel
theorem dX7_findNames_24 : decode cX7_findNames 24 = .ok (.iload_n 1, 1) := by decide +kernel
theorem dX7_findNames_25 : decode cX7_findNames 25 = .ok (.iload_n 1, 1) := by decide +kernel
theorem dX7_findNames_26 : decode cX7_findNames 26 = .ok (.ifCond .ne 7, 3) := by decide +kernel
theorem dX7_findNames_29 : decode cX7_findNames 29 = .ok (.iconst 1, 1) := by decide +kernel
theorem dX7_findNames_30 : decode cX7_findNames 30 = .ok (.goto 4, 3) := by decide +kernel
theorem dX7_findNames_33 : decode cX7_findNames 33 = .ok (.iconst 0, 1) := by decide +kernel
theorem dX7_findNames_34 : decode cX7_findNames 34 = .ok (.invokestatic 157, 3) := by decide +kernel
theorem dX7_findNames_37 : decode cX7_findNames 37 = .ok (.iastore, 1) := by decide +kernel
theorem dX7_findNames_38 : decode cX7_findNames 38 = .ok (.aload_n 0, 1) := by decide +kernel
theorem dX7_findNames_39 : decode cX7_findNames 39 = .ok (.getfield 63, 3) := by decide +kernel
theorem dX7_findNames_42 : decode cX7_findNames 42 = .ok (.iload_n 1, 1) := by decide +kernel
theorem dX7_findNames_43 : decode cX7_findNames 43 = .ok (.iload_n 1, 1) := by decide +kernel
theorem dX7_findNames_44 : decode cX7_findNames 44 = .ok (.ifCond .ne 7, 3) := by decide +kernel
theorem dX7_findNames_47 : decode cX7_findNames 47 = .ok (.iconst 0, 1) := by decide +kernel
theorem dX7_findNames_48 : decode cX7_findNames 48 = .ok (.goto 6, 3) := by decide +kernel
theorem dX7_findNames_51 : decode cX7_findNames 51 = .ok (.sipush 999, 3) := by decide +kernel
theorem dX7_findNames_54 : decode cX7_findNames 54 = .ok (.iastore, 1) := by decide +kernel
theorem dX7_findNames_55 : decode cX7_findNames 55 = .ok (.iconst 0, 1) := by decide +kernel
theorem dX7_findNames_56 : decode cX7_findNames 56 = .ok (.istore_n 3, 1) := by decide +kernel
theorem dX7_findNames_57 : decode cX7_findNames 57 = .ok (.iload_n 3, 1) := by decide +kernel
theorem dX7_findNames_58 : decode cX7_findNames 58 = .ok (.aload_n 0, 1) := by decide +kernel
theorem dX7_findNames_59 : decode cX7_findNames 59 = .ok (.getfield 36, 3) := by decide +kernel
theorem dX7_findNames_62 : decode cX7_findNames 62 = .ok (.iconst 1, 1) := by decide +kernel
theorem dX7_findNames_63 : decode cX7_findNames 63 = .ok (.iaload, 1) := by decide +kernel
theorem dX7_findNames_64 : decode cX7_findNames 64 = .ok (.if_icmp .ge 121, 3) := by decide +kernel
theorem dX7_findNames_67 : decode cX7_findNames 67 = .ok (.iload_n 1, 1) := by decide +kernel
theorem dX7_findNames_68 : decode cX7_findNames 68 = .ok (.ifCond .le 117, 3) := by decide +kernel
theorem dX7_findNames_71 : decode cX7_findNames 71 = .ok (.iload_n 1, 1) := by decide +kernel
theorem dX7_findNames_72 : decode cX7_findNames 72 = .ok (.iload_n 3, 1) := by decide +kernel
theorem dX7_findNames_73 : decode cX7_findNames 73 = .ok (.invokestatic 150, 3) := by decide +kernel
theorem dX7_findNames_76 : decode cX7_findNames 76 = .ok (.ifCond .eq 103, 3) := by decide +kernel
theorem dX7_findNames_79 : decode cX7_findNames 79 = .ok (.aload_n 0, 1) := by decide +kernel
theorem dX7_findNames_80 : decode cX7_findNames 80 = .ok (.getfield 7, 3) := by decide +kernel
theorem dX7_findNames_83 : decode cX7_findNames 83 = .ok (.bipush 64, 2) := by decide +kernel
theorem dX7_findNames_85 : decode cX7_findNames 85 = .ok (.iload_n 2, 1) := by decide +kernel
theorem dX7_findNames_86 : decode cX7_findNames 86 = .ok (.iadd, 1) := by decide +kernel
theorem dX7_findNames_87 : decode cX7_findNames 87 = .ok (.iaload, 1) := by decide +kernel
theorem dX7_findNames_88 : decode cX7_findNames 88 = .ok (.iload_n 3, 1) := by decide +kernel
theorem dX7_findNames_89 : decode cX7_findNames 89 = .ok (.invokestatic 150, 3) := by decide +kernel
theorem dX7_findNames_92 : decode cX7_findNames 92 = .ok (.ifCond .eq 87, 3) := by decide +kernel
theorem dX7_findNames_95 : decode cX7_findNames 95 = .ok (.iload_n 1, 1) := by decide +kernel
theorem dX7_findNames_96 : decode cX7_findNames 96 = .ok (.iconst 1, 1) := by decide +kernel
theorem dX7_findNames_97 : decode cX7_findNames 97 = .ok (.iload_n 3, 1) := by decide +kernel
theorem dX7_findNames_98 : decode cX7_findNames 98 = .ok (.ishl, 1) := by decide +kernel
theorem dX7_findNames_99 : decode cX7_findNames 99 = .ok (.iconst (-1), 1) := by decide +kernel
theorem dX7_findNames_100 : decode cX7_findNames 100 = .ok (.ixor, 1) := by decide +kernel
theorem dX7_findNames_101 : decode cX7_findNames 101 = .ok (.iand, 1) := by decide +kernel
theorem dX7_findNames_102 : decode cX7_findNames 102 = .ok (.istore 4, 2) := by decide +kernel
theorem dX7_findNames_104 : decode cX7_findNames 104 = .ok (.aload_n 0, 1) := by decide +kernel
theorem dX7_findNames_105 : decode cX7_findNames 105 = .ok (.getfield 63, 3) := by decide +kernel
theorem dX7_findNames_108 : decode cX7_findNames 108 = .ok (.iload 4, 2) := by decide +kernel
theorem dX7_findNames_110 : decode cX7_findNames 110 = .ok (.iaload, 1) := by decide +kernel
theorem dX7_findNames_111 : decode cX7_findNames 111 = .ok (.aload_n 0, 1) := by decide +kernel
theorem dX7_findNames_112 : decode cX7_findNames 112 = .ok (.getfield 7, 3) := by decide +kernel
theorem dX7_findNames_115 : decode cX7_findNames 115 = .ok (.bipush 56, 2) := by decide +kernel
theorem dX7_findNames_117 : decode cX7_findNames 117 = .ok (.iload_n 2, 1) := by decide +kernel
theorem dX7_findNames_118 : decode cX7_findNames 118 = .ok (.iadd, 1) := by decide +kernel
theorem dX7_findNames_119 : decode cX7_findNames 119 = .ok (.iaload, 1) := by decide +kernel
theorem dX7_findNames_120 : decode cX7_findNames 120 = .ok (.iload_n 3, 1) := by decide +kernel
theorem dX7_findNames_121 : decode cX7_findNames 121 = .ok (.if_icmp .eq 7, 3) := by decide +kernel
theorem dX7_findNames_124 : decode cX7_findNames 124 = .ok (.iconst 1, 1) := by decide +kernel
theorem dX7_findNames_125 : decode cX7_findNames 125 = .ok (.goto 4, 3) := by decide +kernel
theorem dX7_findNames_128 : decode cX7_findNames 128 = .ok (.iconst 0, 1) := by decide +kernel
theorem dX7_findNames_129 : decode cX7_findNames 129 = .ok (.invokestatic 157, 3) := by decide +kernel
theorem dX7_findNames_132 : decode cX7_findNames 132 = .ok (.iadd, 1) := by decide +kernel
theorem dX7_findNames_133 : decode cX7_findNames 133 = .ok (.istore 5, 2) := by decide +kernel
theorem dX7_findNames_135 : decode cX7_findNames 135 = .ok (.aload_n 0, 1) := by decide +kernel
theorem dX7_findNames_136 : decode cX7_findNames 136 = .ok (.getfield 60, 3) := by decide +kernel
theorem dX7_findNames_139 : decode cX7_findNames 139 = .ok (.iload_n 1, 1) := by decide +kernel
theorem dX7_findNames_140 : decode cX7_findNames 140 = .ok (.dup2, 1) := by decide +kernel
theorem dX7_findNames_141 : decode cX7_findNames 141 = .ok (.iaload, 1) := by decide +kernel
theorem dX7_findNames_142 : decode cX7_findNames 142 = .ok (.aload_n 0, 1) := by decide +kernel
theorem dX7_findNames_143 : decode cX7_findNames 143 = .ok (.getfield 60, 3) := by decide +kernel
theorem dX7_findNames_146 : decode cX7_findNames 146 = .ok (.iload 4, 2) := by decide +kernel
theorem dX7_findNames_148 : decode cX7_findNames 148 = .ok (.iaload, 1) := by decide +kernel
theorem dX7_findNames_149 : decode cX7_findNames 149 = .ok (.iadd, 1) := by decide +kernel
theorem dX7_findNames_150 : decode cX7_findNames 150 = .ok (.iastore, 1) := by decide +kernel
theorem dX7_findNames_151 : decode cX7_findNames 151 = .ok (.aload_n 0, 1) := by decide +kernel
theorem dX7_findNames_152 : decode cX7_findNames 152 = .ok (.getfield 63, 3) := by decide +kernel
theorem dX7_findNames_155 : decode cX7_findNames 155 = .ok (.iload_n 1, 1) := by decide +kernel
theorem dX7_findNames_156 : decode cX7_findNames 156 = .ok (.iload 5, 2) := by decide +kernel
theorem dX7_findNames_158 : decode cX7_findNames 158 = .ok (.aload_n 0, 1) := by decide +kernel
theorem dX7_findNames_159 : decode cX7_findNames 159 = .ok (.getfield 63, 3) := by decide +kernel
theorem dX7_findNames_162 : decode cX7_findNames 162 = .ok (.iload_n 1, 1) := by decide +kernel
theorem dX7_findNames_163 : decode cX7_findNames 163 = .ok (.iaload, 1) := by decide +kernel
theorem dX7_findNames_164 : decode cX7_findNames 164 = .ok (.if_icmp .ge 8, 3) := by decide +kernel
theorem dX7_findNames_167 : decode cX7_findNames 167 = .ok (.iload 5, 2) := by decide +kernel
theorem dX7_findNames_169 : decode cX7_findNames 169 = .ok (.goto 9, 3) := by decide +kernel
theorem dX7_findNames_172 : decode cX7_findNames 172 = .ok (.aload_n 0, 1) := by decide +kernel
theorem dX7_findNames_173 : decode cX7_findNames 173 = .ok (.getfield 63, 3) := by decide +kernel
theorem dX7_findNames_176 : decode cX7_findNames 176 = .ok (.iload_n 1, 1) := by decide +kernel
theorem dX7_findNames_177 : decode cX7_findNames 177 = .ok (.iaload, 1) := by decide +kernel
theorem dX7_findNames_178 : decode cX7_findNames 178 = .ok (.iastore, 1) := by decide +kernel
theorem dX7_findNames_179 : decode cX7_findNames 179 = .ok (.iinc 3 1, 3) := by decide +kernel
theorem dX7_findNames_182 : decode cX7_findNames 182 = .ok (.goto (-125), 3) := by decide +kernel
theorem dX7_findNames_185 : decode cX7_findNames 185 = .ok (.iinc 1 1, 3) := by decide +kernel
theorem dX7_findNames_188 : decode cX7_findNames 188 = .ok (.goto (-186), 3) := by decide +kernel
theorem dX7_findNames_191 : decode cX7_findNames 191 = .ok (.return_, 1) := by decide +kernel
theorem dX7_fits_0 : decode cX7_fits 0 = .ok (.aload_n 0, 1) := by decide +kernel
theorem dX7_fits_1 : decode cX7_fits 1 = .ok (.invokevirtual 282, 3) := by decide +kernel
theorem dX7_fits_4 : decode cX7_fits 4 = .ok (.aload_n 0, 1) := by decide +kernel
theorem dX7_fits_5 : decode cX7_fits 5 = .ok (.getfield 60, 3) := by decide +kernel
theorem dX7_fits_8 : decode cX7_fits 8 = .ok (.iconst 1, 1) := by decide +kernel
theorem dX7_fits_9 : decode cX7_fits 9 = .ok (.aload_n 0, 1) := by decide +kernel
theorem dX7_fits_10 : decode cX7_fits 10 = .ok (.getfield 36, 3) := by decide +kernel
theorem dX7_fits_13 : decode cX7_fits 13 = .ok (.iconst 1, 1) := by decide +kernel
theorem dX7_fits_14 : decode cX7_fits 14 = .ok (.iaload, 1) := by decide +kernel
theorem dX7_fits_15 : decode cX7_fits 15 = .ok (.ishl, 1) := by decide +kernel
theorem dX7_fits_16 : decode cX7_fits 16 = .ok (.iconst 1, 1) := by decide +kernel
theorem dX7_fits_17 : decode cX7_fits 17 = .ok (.isub, 1) := by decide +kernel
theorem dX7_fits_18 : decode cX7_fits 18 = .ok (.iaload, 1) := by decide +kernel
theorem dX7_fits_19 : decode cX7_fits 19 = .ok (.ireturn, 1) := by decide +kernel
theorem dX7_mixed_0 : decode cX7_mixed 0 = .ok (.iload_n 1, 1) := by decide +kernel
theorem dX7_mixed_1 : decode cX7_mixed 1 = .ok (.iconst (-1), 1) := by decide +kernel
theorem dX7_mixed_2 : decode cX7_mixed 2 = .ok (.if_icmp .eq 14, 3) := by decide +kernel
theorem dX7_mixed_5 : decode cX7_mixed 5 = .ok (.aload_n 0, 1) := by decide +kernel
theorem dX7_mixed_6 : decode cX7_mixed 6 = .ok (.iload_n 1, 1) := by decide +kernel
theorem dX7_mixed_7 : decode cX7_mixed 7 = .ok (.invokevirtual 190, 3) := by decide +kernel
theorem dX7_mixed_10 : decode cX7_mixed 10 = .ok (.ifCond .ne 6, 3) := by decide +kernel
theorem dX7_mixed_13 : decode cX7_mixed 13 = .ok (.ldc 186, 2) := by decide +kernel
theorem dX7_mixed_15 : decode cX7_mixed 15 = .ok (.ireturn, 1) := by decide +kernel
theorem dX7_mixed_16 : decode cX7_mixed 16 = .ok (.aload_n 0, 1) := by decide +kernel
theorem dX7_mixed_17 : decode cX7_mixed 17 = .ok (.invokevirtual 282, 3) := by decide +kernel
theorem dX7_mixed_20 : decode cX7_mixed 20 = .ok (.iconst 1, 1) := by decide +kernel
theorem dX7_mixed_21 : decode cX7_mixed 21 = .ok (.aload_n 0, 1) := by decide +kernel
theorem dX7_mixed_22 : decode cX7_mixed 22 = .ok (.getfield 36, 3) := by decide +kernel
theorem dX7_mixed_25 : decode cX7_mixed 25 = .ok (.iconst 1, 1) := by decide +kernel
theorem dX7_mixed_26 : decode cX7_mixed 26 = .ok (.iaload, 1) := by decide +kernel
theorem dX7_mixed_27 : decode cX7_mixed 27 = .ok (.ishl, 1) := by decide +kernel
theorem dX7_mixed_28 : decode cX7_mixed 28 = .ok (.iconst 1, 1) := by decide +kernel
theorem dX7_mixed_29 : decode cX7_mixed 29 = .ok (.isub, 1) := by decide +kernel
theorem dX7_mixed_30 : decode cX7_mixed 30 = .ok (.istore_n 2, 1) := by decide +kernel
theorem dX7_mixed_31 : decode cX7_mixed 31 = .ok (.aload_n 0, 1) := by decide +kernel
theorem dX7_mixed_32 : decode cX7_mixed 32 = .ok (.getfield 60, 3) := by decide +kernel
theorem dX7_mixed_35 : decode cX7_mixed 35 = .ok (.iload_n 2, 1) := by decide +kernel
theorem dX7_mixed_36 : decode cX7_mixed 36 = .ok (.iaload, 1) := by decide +kernel
theorem dX7_mixed_37 : decode cX7_mixed 37 = .ok (.ifCond .ne 5, 3) := by decide +kernel
theorem dX7_mixed_40 : decode cX7_mixed 40 = .ok (.iconst (-1), 1) := by decide +kernel
theorem dX7_mixed_41 : decode cX7_mixed 41 = .ok (.ireturn, 1) := by decide +kernel
theorem dX7_mixed_42 : decode cX7_mixed 42 = .ok (.iload_n 1, 1) := by decide +kernel
theorem dX7_mixed_43 : decode cX7_mixed 43 = .ok (.ifCond .ge 10, 3) := by decide +kernel
theorem dX7_mixed_46 : decode cX7_mixed 46 = .ok (.aload_n 0, 1) := by decide +kernel
theorem dX7_mixed_47 : decode cX7_mixed 47 = .ok (.getfield 63, 3) := by decide +kernel
theorem dX7_mixed_50 : decode cX7_mixed 50 = .ok (.iload_n 2, 1) := by decide +kernel
theorem dX7_mixed_51 : decode cX7_mixed 51 = .ok (.iaload, 1) := by decide +kernel
theorem dX7_mixed_52 : decode cX7_mixed 52 = .ok (.ireturn, 1) := by decide +kernel
theorem dX7_mixed_53 : decode cX7_mixed 53 = .ok (.iconst 0, 1) := by decide +kernel
theorem dX7_mixed_54 : decode cX7_mixed 54 = .ok (.istore_n 3, 1) := by decide +kernel
theorem dX7_mixed_55 : decode cX7_mixed 55 = .ok (.iconst 0, 1) := by decide +kernel
theorem dX7_mixed_56 : decode cX7_mixed 56 = .ok (.istore 4, 2) := by decide +kernel
theorem dX7_mixed_58 : decode cX7_mixed 58 = .ok (.iload 4, 2) := by decide +kernel
theorem dX7_mixed_60 : decode cX7_mixed 60 = .ok (.iload_n 1, 1) := by decide +kernel
theorem dX7_mixed_61 : decode cX7_mixed 61 = .ok (.if_icmp .gt 109, 3) := by decide +kernel
theorem dX7_mixed_64 : decode cX7_mixed 64 = .ok (.iconst 0, 1) := by decide +kernel
theorem dX7_mixed_65 : decode cX7_mixed 65 = .ok (.istore_n 3, 1) := by decide +kernel
theorem dX7_mixed_66 : decode cX7_mixed 66 = .ok (.iload_n 2, 1) := by decide +kernel
theorem dX7_mixed_67 : decode cX7_mixed 67 = .ok (.iload_n 3, 1) := by decide +kernel
theorem dX7_mixed_68 : decode cX7_mixed 68 = .ok (.invokestatic 150, 3) := by decide +kernel
theorem dX7_mixed_71 : decode cX7_mixed 71 = .ok (.ifCond .eq 79, 3) := by decide +kernel
theorem dX7_mixed_74 : decode cX7_mixed 74 = .ok (.aload_n 0, 1) := by decide +kernel
theorem dX7_mixed_75 : decode cX7_mixed 75 = .ok (.getfield 7, 3) := by decide +kernel
theorem dX7_mixed_78 : decode cX7_mixed 78 = .ok (.bipush 64, 2) := by decide +kernel
theorem dX7_mixed_80 : decode cX7_mixed 80 = .ok (.iload 4, 2) := by decide +kernel
theorem dX7_mixed_82 : decode cX7_mixed 82 = .ok (.iadd, 1) := by decide +kernel
theorem dX7_mixed_83 : decode cX7_mixed 83 = .ok (.iaload, 1) := by decide +kernel
theorem dX7_mixed_84 : decode cX7_mixed 84 = .ok (.iload_n 3, 1) := by decide +kernel
theorem dX7_mixed_85 : decode cX7_mixed 85 = .ok (.invokestatic 150, 3) := by decide +kernel
theorem dX7_mixed_88 : decode cX7_mixed 88 = .ok (.ifCond .eq 62, 3) := by decide +kernel
theorem dX7_mixed_91 : decode cX7_mixed 91 = .ok (.aload_n 0, 1) := by decide +kernel
theorem dX7_mixed_92 : decode cX7_mixed 92 = .ok (.getfield 60, 3) := by decide +kernel
theorem dX7_mixed_95 : decode cX7_mixed 95 = .ok (.iload_n 2, 1) := by decide +kernel
theorem dX7_mixed_96 : decode cX7_mixed 96 = .ok (.iconst 1, 1) := by decide +kernel
theorem dX7_mixed_97 : decode cX7_mixed 97 = .ok (.iload_n 3, 1) := by decide +kernel
theorem dX7_mixed_98 : decode cX7_mixed 98 = .ok (.ishl, 1) := by decide +kernel
theorem dX7_mixed_99 : decode cX7_mixed 99 = .ok (.iconst (-1), 1) := by decide +kernel
theorem dX7_mixed_100 : decode cX7_mixed 100 = .ok (.ixor, 1) := by decide +kernel
theorem dX7_mixed_101 : decode cX7_mixed 101 = .ok (.iand, 1) := by decide +kernel
theorem dX7_mixed_102 : decode cX7_mixed 102 = .ok (.iaload, 1) := by decide +kernel
theorem dX7_mixed_103 : decode cX7_mixed 103 = .ok (.ifCond .eq 47, 3) := by decide +kernel
theorem dX7_mixed_106 : decode cX7_mixed 106 = .ok (.aload_n 0, 1) := by decide +kernel
theorem dX7_mixed_107 : decode cX7_mixed 107 = .ok (.getfield 63, 3) := by decide +kernel
theorem dX7_mixed_110 : decode cX7_mixed 110 = .ok (.iload_n 2, 1) := by decide +kernel
theorem dX7_mixed_111 : decode cX7_mixed 111 = .ok (.iconst 1, 1) := by decide +kernel
theorem dX7_mixed_112 : decode cX7_mixed 112 = .ok (.iload_n 3, 1) := by decide +kernel
theorem dX7_mixed_113 : decode cX7_mixed 113 = .ok (.ishl, 1) := by decide +kernel
theorem dX7_mixed_114 : decode cX7_mixed 114 = .ok (.iconst (-1), 1) := by decide +kernel
theorem dX7_mixed_115 : decode cX7_mixed 115 = .ok (.ixor, 1) := by decide +kernel
theorem dX7_mixed_116 : decode cX7_mixed 116 = .ok (.iand, 1) := by decide +kernel
theorem dX7_mixed_117 : decode cX7_mixed 117 = .ok (.iaload, 1) := by decide +kernel
theorem dX7_mixed_118 : decode cX7_mixed 118 = .ok (.aload_n 0, 1) := by decide +kernel
theorem dX7_mixed_119 : decode cX7_mixed 119 = .ok (.getfield 7, 3) := by decide +kernel
theorem dX7_mixed_122 : decode cX7_mixed 122 = .ok (.bipush 56, 2) := by decide +kernel
theorem dX7_mixed_124 : decode cX7_mixed 124 = .ok (.iload 4, 2) := by decide +kernel
theorem dX7_mixed_126 : decode cX7_mixed 126 = .ok (.iadd, 1) := by decide +kernel
theorem dX7_mixed_127 : decode cX7_mixed 127 = .ok (.iaload, 1) := by decide +kernel
theorem dX7_mixed_128 : decode cX7_mixed 128 = .ok (.iload_n 3, 1) := by decide +kernel
theorem dX7_mixed_129 : decode cX7_mixed 129 = .ok (.if_icmp .eq 7, 3) := by decide +kernel
theorem dX7_mixed_132 : decode cX7_mixed 132 = .ok (.iconst 1, 1) := by decide +kernel
theorem dX7_mixed_133 : decode cX7_mixed 133 = .ok (.goto 4, 3) := by decide +kernel
theorem dX7_mixed_136 : decode cX7_mixed 136 = .ok (.iconst 0, 1) := by decide +kernel
theorem dX7_mixed_137 : decode cX7_mixed 137 = .ok (.invokestatic 157, 3) := by decide +kernel
theorem dX7_mixed_140 : decode cX7_mixed 140 = .ok (.iadd, 1) := by decide +kernel
theorem dX7_mixed_141 : decode cX7_mixed 141 = .ok (.aload_n 0, 1) := by decide +kernel
theorem dX7_mixed_142 : decode cX7_mixed 142 = .ok (.getfield 63, 3) := by decide +kernel
theorem dX7_mixed_145 : decode cX7_mixed 145 = .ok (.iload_n 2, 1) := by decide +kernel
theorem dX7_mixed_146 : decode cX7_mixed 146 = .ok (.iaload, 1) := by decide +kernel
theorem dX7_mixed_147 : decode cX7_mixed 147 = .ok (.if_icmp .eq 9, 3) := by decide +kernel
theorem dX7_mixed_150 : decode cX7_mixed 150 = .ok (.iinc 3 1, 3) := by decide +kernel
theorem dX7_mixed_153 : decode cX7_mixed 153 = .ok (.goto (-87), 3) := by decide +kernel
theorem dX7_mixed_156 : decode cX7_mixed 156 = .ok (.iload_n 2, 1) := by decide +kernel
theorem dX7_mixed_157 : decode cX7_mixed 157 = .ok (.iconst 1, 1) := by decide +kernel
theorem dX7_mixed_158 : decode cX7_mixed 158 = .ok (.iload_n 3, 1) := by decide +kernel
theorem dX7_mixed_159 : decode cX7_mixed 159 = .ok (.ishl, 1) := by decide +kernel
theorem dX7_mixed_160 : decode cX7_mixed 160 = .ok (.iconst (-1), 1) := by decide +kernel
theorem dX7_mixed_161 : decode cX7_mixed 161 = .ok (.ixor, 1) := by decide +kernel
theorem dX7_mixed_162 : decode cX7_mixed 162 = .ok (.iand, 1) := by decide +kernel
theorem dX7_mixed_163 : decode cX7_mixed 163 = .ok (.istore_n 2, 1) := by decide +kernel
theorem dX7_mixed_164 : decode cX7_mixed 164 = .ok (.iinc 4 1, 3) := by decide +kernel
theorem dX7_mixed_167 : decode cX7_mixed 167 = .ok (.goto (-109), 3) := by decide +kernel
theorem dX7_mixed_170 : decode cX7_mixed 170 = .ok (.iload_n 3, 1) := by decide +kernel
theorem dX7_mixed_171 : decode cX7_mixed 171 = .ok (.ireturn, 1) := by decide +kernel
theorem dX7_churches_0 : decode cX7_churches 0 = .ok (.iload_n 1, 1) := by decide +kernel
theorem dX7_churches_1 : decode cX7_churches 1 = .ok (.i2l, 1) := by decide +kernel
theorem dX7_churches_2 : decode cX7_churches 2 = .ok (.lconst 0, 1) := by decide +kernel
theorem dX7_churches_3 : decode cX7_churches 3 = .ok (.lconst 1, 1) := by decide +kernel
theorem dX7_churches_4 : decode cX7_churches 4 = .ok (.invokestatic 77, 3) := by decide +kernel
theorem dX7_churches_7 : decode cX7_churches 7 = .ok (.ifCond .ne 6, 3) := by decide +kernel
theorem dX7_churches_10 : decode cX7_churches 10 = .ok (.ldc 81, 2) := by decide +kernel
theorem dX7_churches_12 : decode cX7_churches 12 = .ok (.ireturn, 1) := by decide +kernel
theorem dX7_churches_13 : decode cX7_churches 13 = .ok (.aload_n 0, 1) := by decide +kernel
theorem dX7_churches_14 : decode cX7_churches 14 = .ok (.iconst 0, 1) := by decide +kernel
theorem dX7_churches_15 : decode cX7_churches 15 = .ok (.invokevirtual 175, 3) := by decide +kernel
theorem dX7_churches_18 : decode cX7_churches 18 = .ok (.istore_n 2, 1) := by decide +kernel
theorem dX7_churches_19 : decode cX7_churches 19 = .ok (.iconst 0, 1) := by decide +kernel
theorem dX7_churches_20 : decode cX7_churches 20 = .ok (.istore_n 3, 1) := by decide +kernel
theorem dX7_churches_21 : decode cX7_churches 21 = .ok (.iconst (-1), 1) := by decide +kernel
theorem dX7_churches_22 : decode cX7_churches 22 = .ok (.istore 4, 2) := by decide +kernel
theorem dX7_churches_24 : decode cX7_churches 24 = .ok (.iconst 0, 1) := by decide +kernel
theorem dX7_churches_25 : decode cX7_churches 25 = .ok (.istore 5, 2) := by decide +kernel
theorem dX7_churches_27 : decode cX7_churches 27 = .ok (.iload 5, 2) := by decide +kernel
theorem dX7_churches_29 : decode cX7_churches 29 = .ok (.iload_n 2, 1) := by decide +kernel
theorem dX7_churches_30 : decode cX7_churches 30 = .ok (.if_icmp .gt 118, 3) := by decide +kernel
theorem dX7_churches_33 : decode cX7_churches 33 = .ok (.iconst 0, 1) := by decide +kernel
theorem dX7_churches_34 : decode cX7_churches 34 = .ok (.istore 6, 2) := by decide +kernel
theorem dX7_churches_36 : decode cX7_churches 36 = .ok (.iconst 0, 1) := by decide +kernel
theorem dX7_churches_37 : decode cX7_churches 37 = .ok (.istore 7, 2) := by decide +kernel
theorem dX7_churches_39 : decode cX7_churches 39 = .ok (.iload 7, 2) := by decide +kernel
theorem dX7_churches_41 : decode cX7_churches 41 = .ok (.aload_n 0, 1) := by decide +kernel
theorem dX7_churches_42 : decode cX7_churches 42 = .ok (.getfield 36, 3) := by decide +kernel
theorem dX7_churches_45 : decode cX7_churches 45 = .ok (.iconst 1, 1) := by decide +kernel
theorem dX7_churches_46 : decode cX7_churches 46 = .ok (.iaload, 1) := by decide +kernel
theorem dX7_churches_47 : decode cX7_churches 47 = .ok (.if_icmp .ge 61, 3) := by decide +kernel
theorem dX7_churches_50 : decode cX7_churches 50 = .ok (.iload 6, 2) := by decide +kernel
theorem dX7_churches_52 : decode cX7_churches 52 = .ok (.iload_n 2, 1) := by decide +kernel
theorem dX7_churches_53 : decode cX7_churches 53 = .ok (.iload 7, 2) := by decide +kernel
theorem dX7_churches_55 : decode cX7_churches 55 = .ok (.invokestatic 150, 3) := by decide +kernel
theorem dX7_churches_58 : decode cX7_churches 58 = .ok (.ifCond .eq 40, 3) := by decide +kernel
theorem dX7_churches_61 : decode cX7_churches 61 = .ok (.iload 5, 2) := by decide +kernel
theorem dX7_churches_63 : decode cX7_churches 63 = .ok (.iload 7, 2) := by decide +kernel
theorem dX7_churches_65 : decode cX7_churches 65 = .ok (.invokestatic 150, 3) := by decide +kernel
theorem dX7_churches_68 : decode cX7_churches 68 = .ok (.ifCond .eq 16, 3) := by decide +kernel
theorem dX7_churches_71 : decode cX7_churches 71 = .ok (.aload_n 0, 1) := by decide +kernel
theorem dX7_churches_72 : decode cX7_churches 72 = .ok (.getfield 7, 3) := by decide +kernel
theorem dX7_churches_75 : decode cX7_churches 75 = .ok (.bipush 8, 2) := by decide +kernel
theorem dX7_churches_77 : decode cX7_churches 77 = .ok (.iload 7, 2) := by decide +kernel
theorem dX7_churches_79 : decode cX7_churches 79 = .ok (.iadd, 1) := by decide +kernel
theorem dX7_churches_80 : decode cX7_churches 80 = .ok (.iaload, 1) := by decide +kernel
theorem dX7_churches_81 : decode cX7_churches 81 = .ok (.goto 18, 3) := by decide +kernel
theorem dX7_churches_84 : decode cX7_churches 84 = .ok (.aload_n 0, 1) := by decide +kernel
theorem dX7_churches_85 : decode cX7_churches 85 = .ok (.getfield 7, 3) := by decide +kernel
theorem dX7_churches_88 : decode cX7_churches 88 = .ok (.bipush 8, 2) := by decide +kernel
theorem dX7_churches_90 : decode cX7_churches 90 = .ok (.iload 7, 2) := by decide +kernel
theorem dX7_churches_92 : decode cX7_churches 92 = .ok (.iadd, 1) := by decide +kernel
theorem dX7_churches_93 : decode cX7_churches 93 = .ok (.iaload, 1) := by decide +kernel
theorem dX7_churches_94 : decode cX7_churches 94 = .ok (.ineg, 1) := by decide +kernel
theorem dX7_churches_95 : decode cX7_churches 95 = .ok (.goto 4, 3) := by decide +kernel
theorem dX7_churches_98 : decode cX7_churches 98 = .ok (.iconst 0, 1) := by decide +kernel
theorem dX7_churches_99 : decode cX7_churches 99 = .ok (.iadd, 1) := by decide +kernel
theorem dX7_churches_100 : decode cX7_churches 100 = .ok (.istore 6, 2) := by decide +kernel
theorem dX7_churches_102 : decode cX7_churches 102 = .ok (.iinc 7 1, 3) := by decide +kernel
theorem dX7_churches_105 : decode cX7_churches 105 = .ok (.goto (-66), 3) := by decide +kernel
theorem dX7_churches_108 : decode cX7_churches 108 = .ok (.iload 5, 2) := by decide +kernel
theorem dX7_churches_110 : decode cX7_churches 110 = .ok (.iload_n 2, 1) := by decide +kernel
theorem dX7_churches_111 : decode cX7_churches 111 = .ok (.iconst (-1), 1) := by decide +kernel
theorem dX7_churches_112 : decode cX7_churches 112 = .ok (.ixor, 1) := by decide +kernel
theorem dX7_churches_113 : decode cX7_churches 113 = .ok (.iand, 1) := by decide +kernel
theorem dX7_churches_114 : decode cX7_churches 114 = .ok (.ifCond .ne 28, 3) := by decide +kernel
theorem dX7_churches_117 : decode cX7_churches 117 = .ok (.iload 4, 2) := by decide +kernel
theorem dX7_churches_119 : decode cX7_churches 119 = .ok (.ifCond .lt 13, 3) := by decide +kernel
theorem dX7_churches_122 : decode cX7_churches 122 = .ok (.iload 6, 2) := by decide +kernel
theorem dX7_churches_124 : decode cX7_churches 124 = .ok (.invokestatic 242, 3) := by decide +kernel
theorem dX7_churches_127 : decode cX7_churches 127 = .ok (.iload 4, 2) := by decide +kernel
theorem dX7_churches_129 : decode cX7_churches 129 = .ok (.if_icmp .ge 13, 3) := by decide +kernel
theorem dX7_churches_132 : decode cX7_churches 132 = .ok (.iload 5, 2) := by decide +kernel
theorem dX7_churches_134 : decode cX7_churches 134 = .ok (.istore_n 3, 1) := by decide +kernel
theorem dX7_churches_135 : decode cX7_churches 135 = .ok (.iload 6, 2) := by decide +kernel
theorem dX7_churches_137 : decode cX7_churches 137 = .ok (.invokestatic 242, 3) := by decide +kernel
theorem dX7_churches_140 : decode cX7_churches 140 = .ok (.istore 4, 2) := by decide +kernel
theorem dX7_churches_142 : decode cX7_churches 142 = .ok (.iinc 5 1, 3) := by decide +kernel
theorem dX7_churches_145 : decode cX7_churches 145 = .ok (.goto (-118), 3) := by decide +kernel
theorem dX7_churches_148 : decode cX7_churches 148 = .ok (.iload_n 1, 1) := by decide +kernel
theorem dX7_churches_149 : decode cX7_churches 149 = .ok (.ifCond .ne 8, 3) := by decide +kernel
theorem dX7_churches_152 : decode cX7_churches 152 = .ok (.iload 4, 2) := by decide +kernel
theorem dX7_churches_154 : decode cX7_churches 154 = .ok (.goto 4, 3) := by decide +kernel
theorem dX7_churches_157 : decode cX7_churches 157 = .ok (.iload_n 3, 1) := by decide +kernel
theorem dX7_churches_158 : decode cX7_churches 158 = .ok (.ireturn, 1) := by decide +kernel
theorem dX7_write_0 : decode cX7_write 0 = .ok (.aload_n 0, 1) := by decide +kernel
theorem dX7_write_1 : decode cX7_write 1 = .ok (.iload_n 1, 1) := by decide +kernel
theorem dX7_write_2 : decode cX7_write 2 = .ok (.invokevirtual 190, 3) := by decide +kernel
theorem dX7_write_5 : decode cX7_write 5 = .ok (.ifCond .eq 11, 3) := by decide +kernel
theorem dX7_write_8 : decode cX7_write 8 = .ok (.aload_n 0, 1) := by decide +kernel
theorem dX7_write_9 : decode cX7_write 9 = .ok (.iload_n 2, 1) := by decide +kernel
theorem dX7_write_10 : decode cX7_write 10 = .ok (.invokevirtual 182, 3) := by decide +kernel
theorem dX7_write_13 : decode cX7_write 13 = .ok (.ifCond .ne 6, 3) := by decide +kernel
theorem dX7_write_16 : decode cX7_write 16 = .ok (.ldc 186, 2) := by decide +kernel
theorem dX7_write_18 : decode cX7_write 18 = .ok (.ireturn, 1) := by decide +kernel
theorem dX7_write_19 : decode cX7_write 19 = .ok (.aload_n 0, 1) := by decide +kernel
theorem dX7_write_20 : decode cX7_write 20 = .ok (.getfield 147, 3) := by decide +kernel
theorem dX7_write_23 : decode cX7_write 23 = .ok (.bipush 20, 2) := by decide +kernel
theorem dX7_write_25 : decode cX7_write 25 = .ok (.if_icmp .ne 6, 3) := by decide +kernel
theorem dX7_write_28 : decode cX7_write 28 = .ok (.ldc 85, 2) := by decide +kernel
theorem dX7_write_30 : decode cX7_write 30 = .ok (.ireturn, 1) := by decide +kernel
theorem dX7_write_31 : decode cX7_write 31 = .ok (.aload_n 0, 1) := by decide +kernel
theorem dX7_write_32 : decode cX7_write 32 = .ok (.getfield 66, 3) := by decide +kernel
theorem dX7_write_35 : decode cX7_write 35 = .ok (.aload_n 0, 1) := by decide +kernel
theorem dX7_write_36 : decode cX7_write 36 = .ok (.getfield 147, 3) := by decide +kernel
theorem dX7_write_39 : decode cX7_write 39 = .ok (.iload_n 1, 1) := by decide +kernel
theorem dX7_write_40 : decode cX7_write 40 = .ok (.iastore, 1) := by decide +kernel
theorem dX7_write_41 : decode cX7_write 41 = .ok (.aload_n 0, 1) := by decide +kernel
theorem dX7_write_42 : decode cX7_write 42 = .ok (.getfield 69, 3) := by decide +kernel
theorem dX7_write_45 : decode cX7_write 45 = .ok (.aload_n 0, 1) := by decide +kernel
theorem dX7_write_46 : decode cX7_write 46 = .ok (.getfield 147, 3) := by decide +kernel
theorem dX7_write_49 : decode cX7_write 49 = .ok (.iload_n 2, 1) := by decide +kernel
theorem dX7_write_50 : decode cX7_write 50 = .ok (.iastore, 1) := by decide +kernel
theorem dX7_write_51 : decode cX7_write 51 = .ok (.aload_n 0, 1) := by decide +kernel
theorem dX7_write_52 : decode cX7_write 52 = .ok (.dup, 1) := by decide +kernel
theorem dX7_write_53 : decode cX7_write 53 = .ok (.getfield 147, 3) := by decide +kernel
theorem dX7_write_56 : decode cX7_write 56 = .ok (.iconst 1, 1) := by decide +kernel
theorem dX7_write_57 : decode cX7_write 57 = .ok (.iadd, 1) := by decide +kernel
theorem dX7_write_58 : decode cX7_write 58 = .ok (.putfield 147, 3) := by decide +kernel
theorem dX7_write_61 : decode cX7_write 61 = .ok (.aload_n 0, 1) := by decide +kernel
theorem dX7_write_62 : decode cX7_write 62 = .ok (.getfield 147, 3) := by decide +kernel
theorem dX7_write_65 : decode cX7_write 65 = .ok (.ireturn, 1) := by decide +kernel
theorem dX7_tear_0 : decode cX7_tear 0 = .ok (.aload_n 0, 1) := by decide +kernel
theorem dX7_tear_1 : decode cX7_tear 1 = .ok (.getfield 147, 3) := by decide +kernel
theorem dX7_tear_4 : decode cX7_tear 4 = .ok (.istore_n 1, 1) := by decide +kernel
theorem dX7_tear_5 : decode cX7_tear 5 = .ok (.aload_n 0, 1) := by decide +kernel
theorem dX7_tear_6 : decode cX7_tear 6 = .ok (.iconst 0, 1) := by decide +kernel
theorem dX7_tear_7 : decode cX7_tear 7 = .ok (.putfield 147, 3) := by decide +kernel
theorem dX7_tear_10 : decode cX7_tear 10 = .ok (.iload_n 1, 1) := by decide +kernel
theorem dX7_tear_11 : decode cX7_tear 11 = .ok (.ireturn, 1) := by decide +kernel
theorem dX7_judge_0 : decode cX7_judge 0 = .ok (.aload_n 0, 1) := by decide +kernel
theorem dX7_judge_1 : decode cX7_judge 1 = .ok (.iconst 0, 1) := by decide +kernel
theorem dX7_judge_2 : decode cX7_judge 2 = .ok (.bipush 100, 2) := by decide +kernel
theorem dX7_judge_4 : decode cX7_judge 4 = .ok (.invokevirtual 257, 3) := by decide +kernel
theorem dX7_judge_7 : decode cX7_judge 7 = .ok (.iconst 0, 1) := by decide +kernel
theorem dX7_judge_8 : decode cX7_judge 8 = .ok (.istore_n 1, 1) := by decide +kernel
theorem dX7_judge_9 : decode cX7_judge 9 = .ok (.iload_n 1, 1) := by decide +kernel
theorem dX7_judge_10 : decode cX7_judge 10 = .ok (.aload_n 0, 1) := by decide +kernel
theorem dX7_judge_11 : decode cX7_judge 11 = .ok (.getfield 147, 3) := by decide +kernel
theorem dX7_judge_14 : decode cX7_judge 14 = .ok (.if_icmp .ge 78, 3) := by decide +kernel
theorem dX7_judge_17 : decode cX7_judge 17 = .ok (.aload_n 0, 1) := by decide +kernel
theorem dX7_judge_18 : decode cX7_judge 18 = .ok (.getfield 66, 3) := by decide +kernel
theorem dX7_judge_21 : decode cX7_judge 21 = .ok (.iload_n 1, 1) := by decide +kernel
theorem dX7_judge_22 : decode cX7_judge 22 = .ok (.iaload, 1) := by decide +kernel
theorem dX7_judge_23 : decode cX7_judge 23 = .ok (.istore_n 2, 1) := by decide +kernel
theorem dX7_judge_24 : decode cX7_judge 24 = .ok (.aload_n 0, 1) := by decide +kernel
theorem dX7_judge_25 : decode cX7_judge 25 = .ok (.getfield 69, 3) := by decide +kernel
theorem dX7_judge_28 : decode cX7_judge 28 = .ok (.iload_n 1, 1) := by decide +kernel
theorem dX7_judge_29 : decode cX7_judge 29 = .ok (.iaload, 1) := by decide +kernel
theorem dX7_judge_30 : decode cX7_judge 30 = .ok (.istore_n 3, 1) := by decide +kernel
theorem dX7_judge_31 : decode cX7_judge 31 = .ok (.aload_n 0, 1) := by decide +kernel
theorem dX7_judge_32 : decode cX7_judge 32 = .ok (.bipush 100, 2) := by decide +kernel
theorem dX7_judge_34 : decode cX7_judge 34 = .ok (.iload_n 2, 1) := by decide +kernel
theorem dX7_judge_35 : decode cX7_judge 35 = .ok (.invokevirtual 154, 3) := by decide +kernel
theorem dX7_judge_38 : decode cX7_judge 38 = .ok (.ifCond .eq 36, 3) := by decide +kernel
theorem dX7_judge_41 : decode cX7_judge 41 = .ok (.aload_n 0, 1) := by decide +kernel
theorem dX7_judge_42 : decode cX7_judge 42 = .ok (.bipush 100, 2) := by decide +kernel
theorem dX7_judge_44 : decode cX7_judge 44 = .ok (.iload_n 3, 1) := by decide +kernel
theorem dX7_judge_45 : decode cX7_judge 45 = .ok (.invokevirtual 187, 3) := by decide +kernel
theorem dX7_judge_48 : decode cX7_judge 48 = .ok (.ifCond .ge 26, 3) := by decide +kernel
theorem dX7_judge_51 : decode cX7_judge 51 = .ok (.aload_n 0, 1) := by decide +kernel
theorem dX7_judge_52 : decode cX7_judge 52 = .ok (.getfield 7, 3) := by decide +kernel
theorem dX7_judge_55 : decode cX7_judge 55 = .ok (.bipush 100, 2) := by decide +kernel
theorem dX7_judge_57 : decode cX7_judge 57 = .ok (.iload_n 3, 1) := by decide +kernel
theorem dX7_judge_58 : decode cX7_judge 58 = .ok (.iadd, 1) := by decide +kernel
theorem dX7_judge_59 : decode cX7_judge 59 = .ok (.iaload, 1) := by decide +kernel
theorem dX7_judge_60 : decode cX7_judge 60 = .ok (.ifCond .gt 14, 3) := by decide +kernel
theorem dX7_judge_63 : decode cX7_judge 63 = .ok (.aload_n 0, 1) := by decide +kernel
theorem dX7_judge_64 : decode cX7_judge 64 = .ok (.bipush 100, 2) := by decide +kernel
theorem dX7_judge_66 : decode cX7_judge 66 = .ok (.iconst 0, 1) := by decide +kernel
theorem dX7_judge_67 : decode cX7_judge 67 = .ok (.invokevirtual 193, 3) := by decide +kernel
theorem dX7_judge_70 : decode cX7_judge 70 = .ok (.iload_n 2, 1) := by decide +kernel
theorem dX7_judge_71 : decode cX7_judge 71 = .ok (.if_icmp .eq 5, 3) := by decide +kernel
theorem dX7_judge_74 : decode cX7_judge 74 = .ok (.iload_n 1, 1) := by decide +kernel
theorem dX7_judge_75 : decode cX7_judge 75 = .ok (.ireturn, 1) := by decide +kernel
theorem dX7_judge_76 : decode cX7_judge 76 = .ok (.aload_n 0, 1) := by decide +kernel
theorem dX7_judge_77 : decode cX7_judge 77 = .ok (.bipush 100, 2) := by decide +kernel
theorem dX7_judge_79 : decode cX7_judge 79 = .ok (.iload_n 2, 1) := by decide +kernel
theorem dX7_judge_80 : decode cX7_judge 80 = .ok (.iload_n 3, 1) := by decide +kernel
theorem dX7_judge_81 : decode cX7_judge 81 = .ok (.invokevirtual 230, 3) := by decide +kernel
theorem dX7_judge_84 : decode cX7_judge 84 = .ok (.istore 4, 2) := by decide +kernel
theorem dX7_judge_86 : decode cX7_judge 86 = .ok (.iinc 1 1, 3) := by decide +kernel
theorem dX7_judge_89 : decode cX7_judge 89 = .ok (.goto (-80), 3) := by decide +kernel
theorem dX7_judge_92 : decode cX7_judge 92 = .ok (.iconst (-1), 1) := by decide +kernel
theorem dX7_judge_93 : decode cX7_judge 93 = .ok (.ireturn, 1) := by decide +kernel
theorem dX7_seed_0 : decode cX7_seed 0 = .ok (.iload_n 1, 1) := by decide +kernel
theorem dX7_seed_1 : decode cX7_seed 1 = .ok (.ifCond .ge 6, 3) := by decide +kernel
theorem dX7_seed_4 : decode cX7_seed 4 = .ok (.ldc 81, 2) := by decide +kernel
theorem dX7_seed_6 : decode cX7_seed 6 = .ok (.ireturn, 1) := by decide +kernel
theorem dX7_seed_7 : decode cX7_seed 7 = .ok (.aload_n 0, 1) := by decide +kernel
theorem dX7_seed_8 : decode cX7_seed 8 = .ok (.getfield 7, 3) := by decide +kernel
theorem dX7_seed_11 : decode cX7_seed 11 = .ok (.bipush 73, 2) := by decide +kernel
theorem dX7_seed_13 : decode cX7_seed 13 = .ok (.iaload, 1) := by decide +kernel
theorem dX7_seed_14 : decode cX7_seed 14 = .ok (.istore_n 2, 1) := by decide +kernel
theorem dX7_seed_15 : decode cX7_seed 15 = .ok (.aload_n 0, 1) := by decide +kernel
theorem dX7_seed_16 : decode cX7_seed 16 = .ok (.getfield 7, 3) := by decide +kernel
theorem dX7_seed_19 : decode cX7_seed 19 = .ok (.bipush 73, 2) := by decide +kernel
theorem dX7_seed_21 : decode cX7_seed 21 = .ok (.iload_n 1, 1) := by decide +kernel
theorem dX7_seed_22 : decode cX7_seed 22 = .ok (.iastore, 1) := by decide +kernel
theorem dX7_seed_23 : decode cX7_seed 23 = .ok (.iload_n 2, 1) := by decide +kernel
theorem dX7_seed_24 : decode cX7_seed 24 = .ok (.ireturn, 1) := by decide +kernel
theorem dX7_keep_0 : decode cX7_keep 0 = .ok (.iload_n 1, 1) := by decide +kernel
theorem dX7_keep_1 : decode cX7_keep 1 = .ok (.i2l, 1) := by decide +kernel
theorem dX7_keep_2 : decode cX7_keep 2 = .ok (.lconst 0, 1) := by decide +kernel
theorem dX7_keep_3 : decode cX7_keep 3 = .ok (.lconst 1, 1) := by decide +kernel
theorem dX7_keep_4 : decode cX7_keep 4 = .ok (.invokestatic 77, 3) := by decide +kernel
theorem dX7_keep_7 : decode cX7_keep 7 = .ok (.ifCond .ne 6, 3) := by decide +kernel
theorem dX7_keep_10 : decode cX7_keep 10 = .ok (.ldc 186, 2) := by decide +kernel
theorem dX7_keep_12 : decode cX7_keep 12 = .ok (.ireturn, 1) := by decide +kernel
theorem dX7_keep_13 : decode cX7_keep 13 = .ok (.aload_n 0, 1) := by decide +kernel
theorem dX7_keep_14 : decode cX7_keep 14 = .ok (.iconst 0, 1) := by decide +kernel
theorem dX7_keep_15 : decode cX7_keep 15 = .ok (.sipush 200, 3) := by decide +kernel
theorem dX7_keep_18 : decode cX7_keep 18 = .ok (.bipush 100, 2) := by decide +kernel
theorem dX7_keep_20 : decode cX7_keep 20 = .ok (.iload_n 1, 1) := by decide +kernel
theorem dX7_keep_21 : decode cX7_keep 21 = .ok (.imul, 1) := by decide +kernel
theorem dX7_keep_22 : decode cX7_keep 22 = .ok (.iadd, 1) := by decide +kernel
theorem dX7_keep_23 : decode cX7_keep 23 = .ok (.invokevirtual 257, 3) := by decide +kernel
theorem dX7_keep_26 : decode cX7_keep 26 = .ok (.aload_n 0, 1) := by decide +kernel
theorem dX7_keep_27 : decode cX7_keep 27 = .ok (.getfield 13, 3) := by decide +kernel
theorem dX7_keep_30 : decode cX7_keep 30 = .ok (.iload_n 1, 1) := by decide +kernel
theorem dX7_keep_31 : decode cX7_keep 31 = .ok (.iconst 1, 1) := by decide +kernel
theorem dX7_keep_32 : decode cX7_keep 32 = .ok (.bastore, 1) := by decide +kernel
theorem dX7_keep_33 : decode cX7_keep 33 = .ok (.iconst 1, 1) := by decide +kernel
theorem dX7_keep_34 : decode cX7_keep 34 = .ok (.ireturn, 1) := by decide +kernel
theorem dX7_goBack_0 : decode cX7_goBack 0 = .ok (.iload_n 1, 1) := by decide +kernel
theorem dX7_goBack_1 : decode cX7_goBack 1 = .ok (.i2l, 1) := by decide +kernel
theorem dX7_goBack_2 : decode cX7_goBack 2 = .ok (.lconst 0, 1) := by decide +kernel
theorem dX7_goBack_3 : decode cX7_goBack 3 = .ok (.lconst 1, 1) := by decide +kernel
theorem dX7_goBack_4 : decode cX7_goBack 4 = .ok (.invokestatic 77, 3) := by decide +kernel
theorem dX7_goBack_7 : decode cX7_goBack 7 = .ok (.ifCond .ne 6, 3) := by decide +kernel
theorem dX7_goBack_10 : decode cX7_goBack 10 = .ok (.ldc 186, 2) := by decide +kernel
theorem dX7_goBack_12 : decode cX7_goBack 12 = .ok (.ireturn, 1) := by decide +kernel
theorem dX7_goBack_13 : decode cX7_goBack 13 = .ok (.aload_n 0, 1) := by decide +kernel
theorem dX7_goBack_14 : decode cX7_goBack 14 = .ok (.getfield 13, 3) := by decide +kernel
theorem dX7_goBack_17 : decode cX7_goBack 17 = .ok (.iload_n 1, 1) := by decide +kernel
theorem dX7_goBack_18 : decode cX7_goBack 18 = .ok (.baload, 1) := by decide +kernel
theorem dX7_goBack_19 : decode cX7_goBack 19 = .ok (.ifCond .ne 6, 3) := by decide +kernel
theorem dX7_goBack_22 : decode cX7_goBack 22 = .ok (.ldc 200, 2) := by decide +kernel
theorem dX7_goBack_24 : decode cX7_goBack 24 = .ok (.ireturn, 1) := by decide +kernel
theorem dX7_goBack_25 : decode cX7_goBack 25 = .ok (.aload_n 0, 1) := by decide +kernel
theorem dX7_goBack_26 : decode cX7_goBack 26 = .ok (.sipush 200, 3) := by decide +kernel
theorem dX7_goBack_29 : decode cX7_goBack 29 = .ok (.bipush 100, 2) := by decide +kernel
theorem dX7_goBack_31 : decode cX7_goBack 31 = .ok (.iload_n 1, 1) := by decide +kernel
theorem dX7_goBack_32 : decode cX7_goBack 32 = .ok (.imul, 1) := by decide +kernel
theorem dX7_goBack_33 : decode cX7_goBack 33 = .ok (.iadd, 1) := by decide +kernel
theorem dX7_goBack_34 : decode cX7_goBack 34 = .ok (.iconst 0, 1) := by decide +kernel
theorem dX7_goBack_35 : decode cX7_goBack 35 = .ok (.invokevirtual 257, 3) := by decide +kernel
theorem dX7_goBack_38 : decode cX7_goBack 38 = .ok (.iconst 1, 1) := by decide +kernel
theorem dX7_goBack_39 : decode cX7_goBack 39 = .ok (.ireturn, 1) := by decide +kernel
theorem dJ6_numberOfTrailingZeros_0f7a4_0 : decode cJ6_numberOfTrailingZeros_0f7a4 0 = .ok (.iload_n 0, 1) := by decide +kernel
theorem dJ6_numberOfTrailingZeros_0f7a4_1 : decode cJ6_numberOfTrailingZeros_0f7a4 1 = .ok (.iconst (-1), 1) := by decide +kernel
theorem dJ6_numberOfTrailingZeros_0f7a4_2 : decode cJ6_numberOfTrailingZeros_0f7a4 2 = .ok (.ixor, 1) := by decide +kernel
theorem dJ6_numberOfTrailingZeros_0f7a4_3 : decode cJ6_numberOfTrailingZeros_0f7a4 3 = .ok (.iload_n 0, 1) := by decide +kernel
theorem dJ6_numberOfTrailingZeros_0f7a4_4 : decode cJ6_numberOfTrailingZeros_0f7a4 4 = .ok (.iconst 1, 1) := by decide +kernel
theorem dJ6_numberOfTrailingZeros_0f7a4_5 : decode cJ6_numberOfTrailingZeros_0f7a4 5 = .ok (.isub, 1) := by decide +kernel
theorem dJ6_numberOfTrailingZeros_0f7a4_6 : decode cJ6_numberOfTrailingZeros_0f7a4 6 = .ok (.iand, 1) := by decide +kernel
