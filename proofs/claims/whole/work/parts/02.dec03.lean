theorem dX5_takeNumber_138 : decode cX5_takeNumber 138 = .ok (.ireturn, 1) := by decide +kernel
theorem dX5_takeStop_0 : decode cX5_takeStop 0 = .ok (.aload_n 0, 1) := by decide +kernel
theorem dX5_takeStop_1 : decode cX5_takeStop 1 = .ok (.invokevirtual 32, 3) := by decide +kernel
theorem dX5_takeStop_4 : decode cX5_takeStop 4 = .ok (.aload_n 0, 1) := by decide +kernel
theorem dX5_takeStop_5 : decode cX5_takeStop 5 = .ok (.aload_n 0, 1) := by decide +kernel
theorem dX5_takeStop_6 : decode cX5_takeStop 6 = .ok (.getfield 19, 3) := by decide +kernel
theorem dX5_takeStop_9 : decode cX5_takeStop 9 = .ok (.invokevirtual 28, 3) := by decide +kernel
theorem dX5_takeStop_12 : decode cX5_takeStop 12 = .ok (.bipush 59, 2) := by decide +kernel
theorem dX5_takeStop_14 : decode cX5_takeStop 14 = .ok (.if_icmp .ne 16, 3) := by decide +kernel
theorem dX5_takeStop_17 : decode cX5_takeStop 17 = .ok (.aload_n 0, 1) := by decide +kernel
theorem dX5_takeStop_18 : decode cX5_takeStop 18 = .ok (.dup, 1) := by decide +kernel
theorem dX5_takeStop_19 : decode cX5_takeStop 19 = .ok (.getfield 19, 3) := by decide +kernel
theorem dX5_takeStop_22 : decode cX5_takeStop 22 = .ok (.iconst 1, 1) := by decide +kernel
theorem dX5_takeStop_23 : decode cX5_takeStop 23 = .ok (.iadd, 1) := by decide +kernel
theorem dX5_takeStop_24 : decode cX5_takeStop 24 = .ok (.putfield 19, 3) := by decide +kernel
theorem dX5_takeStop_27 : decode cX5_takeStop 27 = .ok (.goto 12, 3) := by decide +kernel
theorem dX5_takeStop_30 : decode cX5_takeStop 30 = .ok (.aload_n 0, 1) := by decide +kernel
theorem dX5_takeStop_31 : decode cX5_takeStop 31 = .ok (.iconst 1, 1) := by decide +kernel
theorem dX5_takeStop_32 : decode cX5_takeStop 32 = .ok (.aload_n 0, 1) := by decide +kernel
theorem dX5_takeStop_33 : decode cX5_takeStop 33 = .ok (.getfield 19, 3) := by decide +kernel
theorem dX5_takeStop_36 : decode cX5_takeStop 36 = .ok (.invokevirtual 44, 3) := by decide +kernel
theorem dX5_takeStop_39 : decode cX5_takeStop 39 = .ok (.return_, 1) := by decide +kernel
theorem dX6_init_0 : decode cX6_init 0 = .ok (.aload_n 0, 1) := by decide +kernel
theorem dX6_init_1 : decode cX6_init 1 = .ok (.invokespecial 1, 3) := by decide +kernel
theorem dX6_init_4 : decode cX6_init 4 = .ok (.aload_n 0, 1) := by decide +kernel
theorem dX6_init_5 : decode cX6_init 5 = .ok (.new 7, 3) := by decide +kernel
theorem dX6_init_8 : decode cX6_init 8 = .ok (.dup, 1) := by decide +kernel
theorem dX6_init_9 : decode cX6_init 9 = .ok (.invokespecial 9, 3) := by decide +kernel
theorem dX6_init_12 : decode cX6_init 12 = .ok (.putfield 10, 3) := by decide +kernel
theorem dX6_init_15 : decode cX6_init 15 = .ok (.aload_n 0, 1) := by decide +kernel
theorem dX6_init_16 : decode cX6_init 16 = .ok (.new 16, 3) := by decide +kernel
theorem dX6_init_19 : decode cX6_init 19 = .ok (.dup, 1) := by decide +kernel
theorem dX6_init_20 : decode cX6_init 20 = .ok (.invokespecial 18, 3) := by decide +kernel
theorem dX6_init_23 : decode cX6_init 23 = .ok (.putfield 19, 3) := by decide +kernel
theorem dX6_init_26 : decode cX6_init 26 = .ok (.aload_n 0, 1) := by decide +kernel
theorem dX6_init_27 : decode cX6_init 27 = .ok (.new 16, 3) := by decide +kernel
theorem dX6_init_30 : decode cX6_init 30 = .ok (.dup, 1) := by decide +kernel
theorem dX6_init_31 : decode cX6_init 31 = .ok (.invokespecial 18, 3) := by decide +kernel
theorem dX6_init_34 : decode cX6_init 34 = .ok (.putfield 23, 3) := by decide +kernel
theorem dX6_init_37 : decode cX6_init 37 = .ok (.aload_n 0, 1) := by decide +kernel
theorem dX6_init_38 : decode cX6_init 38 = .ok (.new 26, 3) := by decide +kernel
theorem dX6_init_41 : decode cX6_init 41 = .ok (.dup, 1) := by decide +kernel
theorem dX6_init_42 : decode cX6_init 42 = .ok (.invokespecial 28, 3) := by decide +kernel
theorem dX6_init_45 : decode cX6_init 45 = .ok (.putfield 29, 3) := by decide +kernel
theorem dX6_init_48 : decode cX6_init 48 = .ok (.aload_n 0, 1) := by decide +kernel
theorem dX6_init_49 : decode cX6_init 49 = .ok (.new 26, 3) := by decide +kernel
theorem dX6_init_52 : decode cX6_init 52 = .ok (.dup, 1) := by decide +kernel
theorem dX6_init_53 : decode cX6_init 53 = .ok (.invokespecial 28, 3) := by decide +kernel
theorem dX6_init_56 : decode cX6_init 56 = .ok (.putfield 33, 3) := by decide +kernel
theorem dX6_init_59 : decode cX6_init 59 = .ok (.aload_n 0, 1) := by decide +kernel
theorem dX6_init_60 : decode cX6_init 60 = .ok (.new 26, 3) := by decide +kernel
theorem dX6_init_63 : decode cX6_init 63 = .ok (.dup, 1) := by decide +kernel
theorem dX6_init_64 : decode cX6_init 64 = .ok (.invokespecial 28, 3) := by decide +kernel
theorem dX6_init_67 : decode cX6_init 67 = .ok (.putfield 36, 3) := by decide +kernel
theorem dX6_init_70 : decode cX6_init 70 = .ok (.aload_n 0, 1) := by decide +kernel
theorem dX6_init_71 : decode cX6_init 71 = .ok (.new 26, 3) := by decide +kernel
theorem dX6_init_74 : decode cX6_init 74 = .ok (.dup, 1) := by decide +kernel
theorem dX6_init_75 : decode cX6_init 75 = .ok (.invokespecial 28, 3) := by decide +kernel
theorem dX6_init_78 : decode cX6_init 78 = .ok (.putfield 39, 3) := by decide +kernel
theorem dX6_init_81 : decode cX6_init 81 = .ok (.aload_n 0, 1) := by decide +kernel
theorem dX6_init_82 : decode cX6_init 82 = .ok (.iconst 0, 1) := by decide +kernel
theorem dX6_init_83 : decode cX6_init 83 = .ok (.putfield 42, 3) := by decide +kernel
theorem dX6_init_86 : decode cX6_init 86 = .ok (.aload_n 0, 1) := by decide +kernel
theorem dX6_init_87 : decode cX6_init 87 = .ok (.iconst 0, 1) := by decide +kernel
theorem dX6_init_88 : decode cX6_init 88 = .ok (.putfield 46, 3) := by decide +kernel
theorem dX6_init_91 : decode cX6_init 91 = .ok (.aload_n 0, 1) := by decide +kernel
theorem dX6_init_92 : decode cX6_init 92 = .ok (.new 49, 3) := by decide +kernel
theorem dX6_init_95 : decode cX6_init 95 = .ok (.dup, 1) := by decide +kernel
theorem dX6_init_96 : decode cX6_init 96 = .ok (.invokespecial 51, 3) := by decide +kernel
theorem dX6_init_99 : decode cX6_init 99 = .ok (.putfield 52, 3) := by decide +kernel
theorem dX6_init_102 : decode cX6_init 102 = .ok (.aload_n 0, 1) := by decide +kernel
theorem dX6_init_103 : decode cX6_init 103 = .ok (.new 56, 3) := by decide +kernel
theorem dX6_init_106 : decode cX6_init 106 = .ok (.dup, 1) := by decide +kernel
theorem dX6_init_107 : decode cX6_init 107 = .ok (.invokespecial 58, 3) := by decide +kernel
theorem dX6_init_110 : decode cX6_init 110 = .ok (.putfield 59, 3) := by decide +kernel
theorem dX6_init_113 : decode cX6_init 113 = .ok (.aload_n 0, 1) := by decide +kernel
theorem dX6_init_114 : decode cX6_init 114 = .ok (.new 63, 3) := by decide +kernel
theorem dX6_init_117 : decode cX6_init 117 = .ok (.dup, 1) := by decide +kernel
theorem dX6_init_118 : decode cX6_init 118 = .ok (.invokespecial 65, 3) := by decide +kernel
theorem dX6_init_121 : decode cX6_init 121 = .ok (.putfield 66, 3) := by decide +kernel
theorem dX6_init_124 : decode cX6_init 124 = .ok (.aload_n 0, 1) := by decide +kernel
theorem dX6_init_125 : decode cX6_init 125 = .ok (.getfield 19, 3) := by decide +kernel
theorem dX6_init_128 : decode cX6_init 128 = .ok (.iconst 0, 1) := by decide +kernel
theorem dX6_init_129 : decode cX6_init 129 = .ok (.invokevirtual 70, 3) := by decide +kernel
theorem dX6_init_132 : decode cX6_init 132 = .ok (.aload_n 0, 1) := by decide +kernel
theorem dX6_init_133 : decode cX6_init 133 = .ok (.getfield 19, 3) := by decide +kernel
theorem dX6_init_136 : decode cX6_init 136 = .ok (.iconst 1, 1) := by decide +kernel
theorem dX6_init_137 : decode cX6_init 137 = .ok (.invokevirtual 70, 3) := by decide +kernel
theorem dX6_init_140 : decode cX6_init 140 = .ok (.aload_n 0, 1) := by decide +kernel
theorem dX6_init_141 : decode cX6_init 141 = .ok (.getfield 29, 3) := by decide +kernel
theorem dX6_init_144 : decode cX6_init 144 = .ok (.invokevirtual 74, 3) := by decide +kernel
theorem dX6_init_147 : decode cX6_init 147 = .ok (.return_, 1) := by decide +kernel
theorem dX6_feed_0 : decode cX6_feed 0 = .ok (.iload_n 1, 1) := by decide +kernel
theorem dX6_feed_1 : decode cX6_feed 1 = .ok (.iconst 1, 1) := by decide +kernel
theorem dX6_feed_2 : decode cX6_feed 2 = .ok (.if_icmp .lt 9, 3) := by decide +kernel
theorem dX6_feed_5 : decode cX6_feed 5 = .ok (.iload_n 1, 1) := by decide +kernel
theorem dX6_feed_6 : decode cX6_feed 6 = .ok (.bipush 8, 2) := by decide +kernel
theorem dX6_feed_8 : decode cX6_feed 8 = .ok (.if_icmp .le 6, 3) := by decide +kernel
theorem dX6_feed_11 : decode cX6_feed 11 = .ok (.ldc 77, 2) := by decide +kernel
theorem dX6_feed_13 : decode cX6_feed 13 = .ok (.ireturn, 1) := by decide +kernel
theorem dX6_feed_14 : decode cX6_feed 14 = .ok (.aload_n 0, 1) := by decide +kernel
theorem dX6_feed_15 : decode cX6_feed 15 = .ok (.getfield 10, 3) := by decide +kernel
theorem dX6_feed_18 : decode cX6_feed 18 = .ok (.getfield 78, 3) := by decide +kernel
theorem dX6_feed_21 : decode cX6_feed 21 = .ok (.iload_n 1, 1) := by decide +kernel
theorem dX6_feed_22 : decode cX6_feed 22 = .ok (.iadd, 1) := by decide +kernel
theorem dX6_feed_23 : decode cX6_feed 23 = .ok (.sipush 400, 3) := by decide +kernel
theorem dX6_feed_26 : decode cX6_feed 26 = .ok (.if_icmp .le 6, 3) := by decide +kernel
theorem dX6_feed_29 : decode cX6_feed 29 = .ok (.ldc 82, 2) := by decide +kernel
theorem dX6_feed_31 : decode cX6_feed 31 = .ok (.ireturn, 1) := by decide +kernel
theorem dX6_feed_32 : decode cX6_feed 32 = .ok (.iload_n 1, 1) := by decide +kernel
theorem dX6_feed_33 : decode cX6_feed 33 = .ok (.iconst 1, 1) := by decide +kernel
theorem dX6_feed_34 : decode cX6_feed 34 = .ok (.isub, 1) := by decide +kernel
theorem dX6_feed_35 : decode cX6_feed 35 = .ok (.istore 4, 2) := by decide +kernel
theorem dX6_feed_37 : decode cX6_feed 37 = .ok (.iload 4, 2) := by decide +kernel
theorem dX6_feed_39 : decode cX6_feed 39 = .ok (.ifCond .lt 28, 3) := by decide +kernel
theorem dX6_feed_42 : decode cX6_feed 42 = .ok (.aload_n 0, 1) := by decide +kernel
theorem dX6_feed_43 : decode cX6_feed 43 = .ok (.getfield 10, 3) := by decide +kernel
theorem dX6_feed_46 : decode cX6_feed 46 = .ok (.lload_n 2, 1) := by decide +kernel
theorem dX6_feed_47 : decode cX6_feed 47 = .ok (.bipush 8, 2) := by decide +kernel
theorem dX6_feed_49 : decode cX6_feed 49 = .ok (.iload 4, 2) := by decide +kernel
theorem dX6_feed_51 : decode cX6_feed 51 = .ok (.imul, 1) := by decide +kernel
theorem dX6_feed_52 : decode cX6_feed 52 = .ok (.lushr, 1) := by decide +kernel
theorem dX6_feed_53 : decode cX6_feed 53 = .ok (.l2i, 1) := by decide +kernel
theorem dX6_feed_54 : decode cX6_feed 54 = .ok (.sipush 255, 3) := by decide +kernel
theorem dX6_feed_57 : decode cX6_feed 57 = .ok (.iand, 1) := by decide +kernel
theorem dX6_feed_58 : decode cX6_feed 58 = .ok (.invokevirtual 83, 3) := by decide +kernel
theorem dX6_feed_61 : decode cX6_feed 61 = .ok (.iinc 4 (-1), 3) := by decide +kernel
theorem dX6_feed_64 : decode cX6_feed 64 = .ok (.goto (-27), 3) := by decide +kernel
theorem dX6_feed_67 : decode cX6_feed 67 = .ok (.aload_n 0, 1) := by decide +kernel
theorem dX6_feed_68 : decode cX6_feed 68 = .ok (.getfield 10, 3) := by decide +kernel
theorem dX6_feed_71 : decode cX6_feed 71 = .ok (.getfield 78, 3) := by decide +kernel
theorem dX6_feed_74 : decode cX6_feed 74 = .ok (.ireturn, 1) := by decide +kernel
theorem dX6_parish_0 : decode cX6_parish 0 = .ok (.aload_n 0, 1) := by decide +kernel
theorem dX6_parish_1 : decode cX6_parish 1 = .ok (.getfield 33, 3) := by decide +kernel
theorem dX6_parish_4 : decode cX6_parish 4 = .ok (.aload_n 0, 1) := by decide +kernel
theorem dX6_parish_5 : decode cX6_parish 5 = .ok (.getfield 10, 3) := by decide +kernel
theorem dX6_parish_8 : decode cX6_parish 8 = .ok (.invokevirtual 86, 3) := by decide +kernel
theorem dX6_parish_11 : decode cX6_parish 11 = .ok (.aload_n 0, 1) := by decide +kernel
theorem dX6_parish_12 : decode cX6_parish 12 = .ok (.getfield 10, 3) := by decide +kernel
theorem dX6_parish_15 : decode cX6_parish 15 = .ok (.iconst 0, 1) := by decide +kernel
theorem dX6_parish_16 : decode cX6_parish 16 = .ok (.putfield 78, 3) := by decide +kernel
theorem dX6_parish_19 : decode cX6_parish 19 = .ok (.aload_n 0, 1) := by decide +kernel
theorem dX6_parish_20 : decode cX6_parish 20 = .ok (.getfield 10, 3) := by decide +kernel
theorem dX6_parish_23 : decode cX6_parish 23 = .ok (.getfield 90, 3) := by decide +kernel
theorem dX6_parish_26 : decode cX6_parish 26 = .ok (.ifCond .eq 14, 3) := by decide +kernel
theorem dX6_parish_29 : decode cX6_parish 29 = .ok (.bipush (-10), 2) := by decide +kernel
theorem dX6_parish_31 : decode cX6_parish 31 = .ok (.aload_n 0, 1) := by decide +kernel
theorem dX6_parish_32 : decode cX6_parish 32 = .ok (.getfield 10, 3) := by decide +kernel
theorem dX6_parish_35 : decode cX6_parish 35 = .ok (.getfield 90, 3) := by decide +kernel
theorem dX6_parish_38 : decode cX6_parish 38 = .ok (.isub, 1) := by decide +kernel
theorem dX6_parish_39 : decode cX6_parish 39 = .ok (.ireturn, 1) := by decide +kernel
theorem dX6_parish_40 : decode cX6_parish 40 = .ok (.aload_n 0, 1) := by decide +kernel
theorem dX6_parish_41 : decode cX6_parish 41 = .ok (.getfield 33, 3) := by decide +kernel
theorem dX6_parish_44 : decode cX6_parish 44 = .ok (.invokevirtual 74, 3) := by decide +kernel
theorem dX6_parish_47 : decode cX6_parish 47 = .ok (.aload_n 0, 1) := by decide +kernel
theorem dX6_parish_48 : decode cX6_parish 48 = .ok (.getfield 33, 3) := by decide +kernel
theorem dX6_parish_51 : decode cX6_parish 51 = .ok (.aload_n 0, 1) := by decide +kernel
theorem dX6_parish_52 : decode cX6_parish 52 = .ok (.getfield 29, 3) := by decide +kernel
theorem dX6_parish_55 : decode cX6_parish 55 = .ok (.getfield 93, 3) := by decide +kernel
theorem dX6_parish_58 : decode cX6_parish 58 = .ok (.putfield 93, 3) := by decide +kernel
theorem dX6_parish_61 : decode cX6_parish 61 = .ok (.aload_n 0, 1) := by decide +kernel
theorem dX6_parish_62 : decode cX6_parish 62 = .ok (.getfield 29, 3) := by decide +kernel
theorem dX6_parish_65 : decode cX6_parish 65 = .ok (.aload_n 0, 1) := by decide +kernel
theorem dX6_parish_66 : decode cX6_parish 66 = .ok (.getfield 33, 3) := by decide +kernel
theorem dX6_parish_69 : decode cX6_parish 69 = .ok (.invokevirtual 96, 3) := by decide +kernel
theorem dX6_parish_72 : decode cX6_parish 72 = .ok (.aload_n 0, 1) := by decide +kernel
theorem dX6_parish_73 : decode cX6_parish 73 = .ok (.getfield 52, 3) := by decide +kernel
theorem dX6_parish_76 : decode cX6_parish 76 = .ok (.iconst 0, 1) := by decide +kernel
theorem dX6_parish_77 : decode cX6_parish 77 = .ok (.putfield 100, 3) := by decide +kernel
theorem dX6_parish_80 : decode cX6_parish 80 = .ok (.aload_n 0, 1) := by decide +kernel
theorem dX6_parish_81 : decode cX6_parish 81 = .ok (.iconst 0, 1) := by decide +kernel
theorem dX6_parish_82 : decode cX6_parish 82 = .ok (.putfield 42, 3) := by decide +kernel
theorem dX6_parish_85 : decode cX6_parish 85 = .ok (.aload_n 0, 1) := by decide +kernel
theorem dX6_parish_86 : decode cX6_parish 86 = .ok (.iconst 0, 1) := by decide +kernel
theorem dX6_parish_87 : decode cX6_parish 87 = .ok (.putfield 46, 3) := by decide +kernel
theorem dX6_parish_90 : decode cX6_parish 90 = .ok (.aload_n 0, 1) := by decide +kernel
theorem dX6_parish_91 : decode cX6_parish 91 = .ok (.getfield 29, 3) := by decide +kernel
theorem dX6_parish_94 : decode cX6_parish 94 = .ok (.getfield 103, 3) := by decide +kernel
theorem dX6_parish_97 : decode cX6_parish 97 = .ok (.ireturn, 1) := by decide +kernel
theorem dX6_custom_0 : decode cX6_custom 0 = .ok (.aload_n 0, 1) := by decide +kernel
theorem dX6_custom_1 : decode cX6_custom 1 = .ok (.getfield 23, 3) := by decide +kernel
theorem dX6_custom_4 : decode cX6_custom 4 = .ok (.aload_n 0, 1) := by decide +kernel
theorem dX6_custom_5 : decode cX6_custom 5 = .ok (.getfield 10, 3) := by decide +kernel
theorem dX6_custom_8 : decode cX6_custom 8 = .ok (.invokevirtual 106, 3) := by decide +kernel
theorem dX6_custom_11 : decode cX6_custom 11 = .ok (.aload_n 0, 1) := by decide +kernel
theorem dX6_custom_12 : decode cX6_custom 12 = .ok (.getfield 10, 3) := by decide +kernel
theorem dX6_custom_15 : decode cX6_custom 15 = .ok (.iconst 0, 1) := by decide +kernel
theorem dX6_custom_16 : decode cX6_custom 16 = .ok (.putfield 78, 3) := by decide +kernel
theorem dX6_custom_19 : decode cX6_custom 19 = .ok (.aload_n 0, 1) := by decide +kernel
theorem dX6_custom_20 : decode cX6_custom 20 = .ok (.getfield 10, 3) := by decide +kernel
theorem dX6_custom_23 : decode cX6_custom 23 = .ok (.getfield 90, 3) := by decide +kernel
theorem dX6_custom_26 : decode cX6_custom 26 = .ok (.ifCond .eq 14, 3) := by decide +kernel
theorem dX6_custom_29 : decode cX6_custom 29 = .ok (.bipush (-10), 2) := by decide +kernel
theorem dX6_custom_31 : decode cX6_custom 31 = .ok (.aload_n 0, 1) := by decide +kernel
theorem dX6_custom_32 : decode cX6_custom 32 = .ok (.getfield 10, 3) := by decide +kernel
theorem dX6_custom_35 : decode cX6_custom 35 = .ok (.getfield 90, 3) := by decide +kernel
theorem dX6_custom_38 : decode cX6_custom 38 = .ok (.isub, 1) := by decide +kernel
theorem dX6_custom_39 : decode cX6_custom 39 = .ok (.ireturn, 1) := by decide +kernel
theorem dX6_custom_40 : decode cX6_custom 40 = .ok (.aload_n 0, 1) := by decide +kernel
theorem dX6_custom_41 : decode cX6_custom 41 = .ok (.getfield 19, 3) := by decide +kernel
theorem dX6_custom_44 : decode cX6_custom 44 = .ok (.aload_n 0, 1) := by decide +kernel
theorem dX6_custom_45 : decode cX6_custom 45 = .ok (.getfield 23, 3) := by decide +kernel
theorem dX6_custom_48 : decode cX6_custom 48 = .ok (.invokevirtual 107, 3) := by decide +kernel
theorem dX6_custom_51 : decode cX6_custom 51 = .ok (.aload_n 0, 1) := by decide +kernel
theorem dX6_custom_52 : decode cX6_custom 52 = .ok (.getfield 19, 3) := by decide +kernel
theorem dX6_custom_55 : decode cX6_custom 55 = .ok (.getfield 110, 3) := by decide +kernel
theorem dX6_custom_58 : decode cX6_custom 58 = .ok (.ireturn, 1) := by decide +kernel
theorem dX6_fault_0 : decode cX6_fault 0 = .ok (.aload_n 0, 1) := by decide +kernel
theorem dX6_fault_1 : decode cX6_fault 1 = .ok (.getfield 10, 3) := by decide +kernel
theorem dX6_fault_4 : decode cX6_fault 4 = .ok (.getfield 111, 3) := by decide +kernel
theorem dX6_fault_7 : decode cX6_fault 7 = .ok (.ireturn, 1) := by decide +kernel
theorem dX6_told_0 : decode cX6_told 0 = .ok (.iload_n 1, 1) := by decide +kernel
theorem dX6_told_1 : decode cX6_told 1 = .ok (.tableswitch 135 0 9 #[55, 63, 71, 79, 87, 95, 103, 111, 119, 127], 55) := by decide +kernel
theorem dX6_told_56 : decode cX6_told 56 = .ok (.aload_n 0, 1) := by decide +kernel
theorem dX6_told_57 : decode cX6_told 57 = .ok (.getfield 29, 3) := by decide +kernel
theorem dX6_told_60 : decode cX6_told 60 = .ok (.getfield 114, 3) := by decide +kernel
theorem dX6_told_63 : decode cX6_told 63 = .ok (.ireturn, 1) := by decide +kernel
theorem dX6_told_64 : decode cX6_told 64 = .ok (.aload_n 0, 1) := by decide +kernel
theorem dX6_told_65 : decode cX6_told 65 = .ok (.getfield 29, 3) := by decide +kernel
theorem dX6_told_68 : decode cX6_told 68 = .ok (.getfield 103, 3) := by decide +kernel
theorem dX6_told_71 : decode cX6_told 71 = .ok (.ireturn, 1) := by decide +kernel
theorem dX6_told_72 : decode cX6_told 72 = .ok (.aload_n 0, 1) := by decide +kernel
theorem dX6_told_73 : decode cX6_told 73 = .ok (.getfield 10, 3) := by decide +kernel
theorem dX6_told_76 : decode cX6_told 76 = .ok (.getfield 78, 3) := by decide +kernel
theorem dX6_told_79 : decode cX6_told 79 = .ok (.ireturn, 1) := by decide +kernel
theorem dX6_told_80 : decode cX6_told 80 = .ok (.aload_n 0, 1) := by decide +kernel
theorem dX6_told_81 : decode cX6_told 81 = .ok (.getfield 29, 3) := by decide +kernel
theorem dX6_told_84 : decode cX6_told 84 = .ok (.getfield 117, 3) := by decide +kernel
theorem dX6_told_87 : decode cX6_told 87 = .ok (.ireturn, 1) := by decide +kernel
theorem dX6_told_88 : decode cX6_told 88 = .ok (.aload_n 0, 1) := by decide +kernel
theorem dX6_told_89 : decode cX6_told 89 = .ok (.getfield 29, 3) := by decide +kernel
theorem dX6_told_92 : decode cX6_told 92 = .ok (.getfield 120, 3) := by decide +kernel
theorem dX6_told_95 : decode cX6_told 95 = .ok (.ireturn, 1) := by decide +kernel
theorem dX6_told_96 : decode cX6_told 96 = .ok (.aload_n 0, 1) := by decide +kernel
theorem dX6_told_97 : decode cX6_told 97 = .ok (.getfield 29, 3) := by decide +kernel
theorem dX6_told_100 : decode cX6_told 100 = .ok (.invokevirtual 123, 3) := by decide +kernel
theorem dX6_told_103 : decode cX6_told 103 = .ok (.ireturn, 1) := by decide +kernel
theorem dX6_told_104 : decode cX6_told 104 = .ok (.aload_n 0, 1) := by decide +kernel
theorem dX6_told_105 : decode cX6_told 105 = .ok (.getfield 29, 3) := by decide +kernel
theorem dX6_told_108 : decode cX6_told 108 = .ok (.invokevirtual 127, 3) := by decide +kernel
theorem dX6_told_111 : decode cX6_told 111 = .ok (.ireturn, 1) := by decide +kernel
theorem dX6_told_112 : decode cX6_told 112 = .ok (.aload_n 0, 1) := by decide +kernel
theorem dX6_told_113 : decode cX6_told 113 = .ok (.getfield 29, 3) := by decide +kernel
theorem dX6_told_116 : decode cX6_told 116 = .ok (.getfield 130, 3) := by decide +kernel
theorem dX6_told_119 : decode cX6_told 119 = .ok (.ireturn, 1) := by decide +kernel
theorem dX6_told_120 : decode cX6_told 120 = .ok (.aload_n 0, 1) := by decide +kernel
theorem dX6_told_121 : decode cX6_told 121 = .ok (.getfield 52, 3) := by decide +kernel
theorem dX6_told_124 : decode cX6_told 124 = .ok (.getfield 100, 3) := by decide +kernel
theorem dX6_told_127 : decode cX6_told 127 = .ok (.ireturn, 1) := by decide +kernel
theorem dX6_told_128 : decode cX6_told 128 = .ok (.aload_n 0, 1) := by decide +kernel
theorem dX6_told_129 : decode cX6_told 129 = .ok (.getfield 19, 3) := by decide +kernel
theorem dX6_told_132 : decode cX6_told 132 = .ok (.getfield 110, 3) := by decide +kernel
theorem dX6_told_135 : decode cX6_told 135 = .ok (.ireturn, 1) := by decide +kernel
theorem dX6_told_136 : decode cX6_told 136 = .ok (.ldc 77, 2) := by decide +kernel
theorem dX6_told_138 : decode cX6_told 138 = .ok (.ireturn, 1) := by decide +kernel
theorem dX6_yard_0 : decode cX6_yard 0 = .ok (.aload_n 0, 1) := by decide +kernel
theorem dX6_yard_1 : decode cX6_yard 1 = .ok (.getfield 29, 3) := by decide +kernel
theorem dX6_yard_4 : decode cX6_yard 4 = .ok (.iload_n 1, 1) := by decide +kernel
theorem dX6_yard_5 : decode cX6_yard 5 = .ok (.invokevirtual 133, 3) := by decide +kernel
theorem dX6_yard_8 : decode cX6_yard 8 = .ok (.ifCond .ne 6, 3) := by decide +kernel
theorem dX6_yard_11 : decode cX6_yard 11 = .ok (.ldc 137, 2) := by decide +kernel
theorem dX6_yard_13 : decode cX6_yard 13 = .ok (.ireturn, 1) := by decide +kernel
theorem dX6_yard_14 : decode cX6_yard 14 = .ok (.iload_n 2, 1) := by decide +kernel
theorem dX6_yard_15 : decode cX6_yard 15 = .ok (.lookupswitch 46 #[(0, 25), (1, 37)], 25) := by decide +kernel
theorem dX6_yard_40 : decode cX6_yard 40 = .ok (.aload_n 0, 1) := by decide +kernel
theorem dX6_yard_41 : decode cX6_yard 41 = .ok (.getfield 29, 3) := by decide +kernel
theorem dX6_yard_44 : decode cX6_yard 44 = .ok (.getfield 138, 3) := by decide +kernel
theorem dX6_yard_47 : decode cX6_yard 47 = .ok (.iload_n 1, 1) := by decide +kernel
theorem dX6_yard_48 : decode cX6_yard 48 = .ok (.invokestatic 142, 3) := by decide +kernel
theorem dX6_yard_51 : decode cX6_yard 51 = .ok (.ireturn, 1) := by decide +kernel
theorem dX6_yard_52 : decode cX6_yard 52 = .ok (.aload_n 0, 1) := by decide +kernel
theorem dX6_yard_53 : decode cX6_yard 53 = .ok (.getfield 29, 3) := by decide +kernel
theorem dX6_yard_56 : decode cX6_yard 56 = .ok (.iload_n 1, 1) := by decide +kernel
theorem dX6_yard_57 : decode cX6_yard 57 = .ok (.invokevirtual 146, 3) := by decide +kernel
theorem dX6_yard_60 : decode cX6_yard 60 = .ok (.ireturn, 1) := by decide +kernel
theorem dX6_yard_61 : decode cX6_yard 61 = .ok (.ldc 77, 2) := by decide +kernel
theorem dX6_yard_63 : decode cX6_yard 63 = .ok (.ireturn, 1) := by decide +kernel
theorem dX6_dead_0 : decode cX6_dead 0 = .ok (.aload_n 0, 1) := by decide +kernel
theorem dX6_dead_1 : decode cX6_dead 1 = .ok (.getfield 29, 3) := by decide +kernel
theorem dX6_dead_4 : decode cX6_dead 4 = .ok (.iload_n 1, 1) := by decide +kernel
theorem dX6_dead_5 : decode cX6_dead 5 = .ok (.invokevirtual 150, 3) := by decide +kernel
theorem dX6_dead_8 : decode cX6_dead 8 = .ok (.ifCond .ne 6, 3) := by decide +kernel
theorem dX6_dead_11 : decode cX6_dead 11 = .ok (.ldc 137, 2) := by decide +kernel
theorem dX6_dead_13 : decode cX6_dead 13 = .ok (.ireturn, 1) := by decide +kernel
theorem dX6_dead_14 : decode cX6_dead 14 = .ok (.iload_n 2, 1) := by decide +kernel
theorem dX6_dead_15 : decode cX6_dead 15 = .ok (.tableswitch 165 0 8 #[49, 61, 73, 85, 97, 109, 121, 141, 153], 49) := by decide +kernel
theorem dX6_dead_64 : decode cX6_dead 64 = .ok (.aload_n 0, 1) := by decide +kernel
theorem dX6_dead_65 : decode cX6_dead 65 = .ok (.getfield 29, 3) := by decide +kernel
theorem dX6_dead_68 : decode cX6_dead 68 = .ok (.getfield 153, 3) := by decide +kernel
theorem dX6_dead_71 : decode cX6_dead 71 = .ok (.iload_n 1, 1) := by decide +kernel
theorem dX6_dead_72 : decode cX6_dead 72 = .ok (.invokestatic 142, 3) := by decide +kernel
theorem dX6_dead_75 : decode cX6_dead 75 = .ok (.ireturn, 1) := by decide +kernel
theorem dX6_dead_76 : decode cX6_dead 76 = .ok (.aload_n 0, 1) := by decide +kernel
theorem dX6_dead_77 : decode cX6_dead 77 = .ok (.getfield 29, 3) := by decide +kernel
theorem dX6_dead_80 : decode cX6_dead 80 = .ok (.getfield 156, 3) := by decide +kernel
theorem dX6_dead_83 : decode cX6_dead 83 = .ok (.iload_n 1, 1) := by decide +kernel
theorem dX6_dead_84 : decode cX6_dead 84 = .ok (.invokestatic 142, 3) := by decide +kernel
theorem dX6_dead_87 : decode cX6_dead 87 = .ok (.ireturn, 1) := by decide +kernel
theorem dX6_dead_88 : decode cX6_dead 88 = .ok (.aload_n 0, 1) := by decide +kernel
theorem dX6_dead_89 : decode cX6_dead 89 = .ok (.getfield 29, 3) := by decide +kernel
theorem dX6_dead_92 : decode cX6_dead 92 = .ok (.getfield 159, 3) := by decide +kernel
theorem dX6_dead_95 : decode cX6_dead 95 = .ok (.iload_n 1, 1) := by decide +kernel
theorem dX6_dead_96 : decode cX6_dead 96 = .ok (.invokestatic 142, 3) := by decide +kernel
theorem dX6_dead_99 : decode cX6_dead 99 = .ok (.ireturn, 1) := by decide +kernel
theorem dX6_dead_100 : decode cX6_dead 100 = .ok (.aload_n 0, 1) := by decide +kernel
theorem dX6_dead_101 : decode cX6_dead 101 = .ok (.getfield 29, 3) := by decide +kernel
theorem dX6_dead_104 : decode cX6_dead 104 = .ok (.getfield 162, 3) := by decide +kernel
theorem dX6_dead_107 : decode cX6_dead 107 = .ok (.iload_n 1, 1) := by decide +kernel
theorem dX6_dead_108 : decode cX6_dead 108 = .ok (.invokestatic 142, 3) := by decide +kernel
theorem dX6_dead_111 : decode cX6_dead 111 = .ok (.ireturn, 1) := by decide +kernel
theorem dX6_dead_112 : decode cX6_dead 112 = .ok (.aload_n 0, 1) := by decide +kernel
theorem dX6_dead_113 : decode cX6_dead 113 = .ok (.getfield 29, 3) := by decide +kernel
theorem dX6_dead_116 : decode cX6_dead 116 = .ok (.getfield 165, 3) := by decide +kernel
theorem dX6_dead_119 : decode cX6_dead 119 = .ok (.iload_n 1, 1) := by decide +kernel
theorem dX6_dead_120 : decode cX6_dead 120 = .ok (.invokestatic 142, 3) := by decide +kernel
theorem dX6_dead_123 : decode cX6_dead 123 = .ok (.ireturn, 1) := by decide +kernel
theorem dX6_dead_124 : decode cX6_dead 124 = .ok (.aload_n 0, 1) := by decide +kernel
theorem dX6_dead_125 : decode cX6_dead 125 = .ok (.getfield 29, 3) := by decide +kernel
theorem dX6_dead_128 : decode cX6_dead 128 = .ok (.getfield 168, 3) := by decide +kernel
theorem dX6_dead_131 : decode cX6_dead 131 = .ok (.iload_n 1, 1) := by decide +kernel
theorem dX6_dead_132 : decode cX6_dead 132 = .ok (.invokestatic 142, 3) := by decide +kernel
theorem dX6_dead_135 : decode cX6_dead 135 = .ok (.ireturn, 1) := by decide +kernel
theorem dX6_dead_136 : decode cX6_dead 136 = .ok (.aload_n 0, 1) := by decide +kernel
theorem dX6_dead_137 : decode cX6_dead 137 = .ok (.getfield 29, 3) := by decide +kernel
theorem dX6_dead_140 : decode cX6_dead 140 = .ok (.getfield 171, 3) := by decide +kernel
theorem dX6_dead_143 : decode cX6_dead 143 = .ok (.iload_n 1, 1) := by decide +kernel
theorem dX6_dead_144 : decode cX6_dead 144 = .ok (.invokestatic 174, 3) := by decide +kernel
theorem dX6_dead_147 : decode cX6_dead 147 = .ok (.ifCond .eq 7, 3) := by decide +kernel
theorem dX6_dead_150 : decode cX6_dead 150 = .ok (.iconst 1, 1) := by decide +kernel
theorem dX6_dead_151 : decode cX6_dead 151 = .ok (.goto 4, 3) := by decide +kernel
theorem dX6_dead_154 : decode cX6_dead 154 = .ok (.iconst 0, 1) := by decide +kernel
theorem dX6_dead_155 : decode cX6_dead 155 = .ok (.ireturn, 1) := by decide +kernel
theorem dX6_dead_156 : decode cX6_dead 156 = .ok (.aload_n 0, 1) := by decide +kernel
theorem dX6_dead_157 : decode cX6_dead 157 = .ok (.getfield 29, 3) := by decide +kernel
theorem dX6_dead_160 : decode cX6_dead 160 = .ok (.getfield 178, 3) := by decide +kernel
theorem dX6_dead_163 : decode cX6_dead 163 = .ok (.iload_n 1, 1) := by decide +kernel
theorem dX6_dead_164 : decode cX6_dead 164 = .ok (.invokestatic 142, 3) := by decide +kernel
theorem dX6_dead_167 : decode cX6_dead 167 = .ok (.ireturn, 1) := by decide +kernel
theorem dX6_dead_168 : decode cX6_dead 168 = .ok (.aload_n 0, 1) := by decide +kernel
theorem dX6_dead_169 : decode cX6_dead 169 = .ok (.getfield 29, 3) := by decide +kernel
theorem dX6_dead_172 : decode cX6_dead 172 = .ok (.getfield 181, 3) := by decide +kernel
theorem dX6_dead_175 : decode cX6_dead 175 = .ok (.iload_n 1, 1) := by decide +kernel
theorem dX6_dead_176 : decode cX6_dead 176 = .ok (.invokestatic 142, 3) := by decide +kernel
theorem dX6_dead_179 : decode cX6_dead 179 = .ok (.ireturn, 1) := by decide +kernel
theorem dX6_dead_180 : decode cX6_dead 180 = .ok (.ldc 77, 2) := by decide +kernel
theorem dX6_dead_182 : decode cX6_dead 182 = .ok (.ireturn, 1) := by decide +kernel
theorem dX6_order_0 : decode cX6_order 0 = .ok (.aload_n 0, 1) := by decide +kernel
theorem dX6_order_1 : decode cX6_order 1 = .ok (.getfield 29, 3) := by decide +kernel
theorem dX6_order_4 : decode cX6_order 4 = .ok (.invokevirtual 123, 3) := by decide +kernel
theorem dX6_order_7 : decode cX6_order 7 = .ok (.istore_n 2, 1) := by decide +kernel
theorem dX6_order_8 : decode cX6_order 8 = .ok (.iconst 0, 1) := by decide +kernel
theorem dX6_order_9 : decode cX6_order 9 = .ok (.istore_n 3, 1) := by decide +kernel
theorem dX6_order_10 : decode cX6_order 10 = .ok (.iload_n 3, 1) := by decide +kernel
theorem dX6_order_11 : decode cX6_order 11 = .ok (.bipush 7, 2) := by decide +kernel
theorem dX6_order_13 : decode cX6_order 13 = .ok (.if_icmp .ge 36, 3) := by decide +kernel
theorem dX6_order_16 : decode cX6_order 16 = .ok (.iload_n 2, 1) := by decide +kernel
theorem dX6_order_17 : decode cX6_order 17 = .ok (.iload_n 3, 1) := by decide +kernel
theorem dX6_order_18 : decode cX6_order 18 = .ok (.invokestatic 174, 3) := by decide +kernel
theorem dX6_order_21 : decode cX6_order 21 = .ok (.ifCond .eq 22, 3) := by decide +kernel
theorem dX6_order_24 : decode cX6_order 24 = .ok (.aload_n 0, 1) := by decide +kernel
theorem dX6_order_25 : decode cX6_order 25 = .ok (.getfield 29, 3) := by decide +kernel
theorem dX6_order_28 : decode cX6_order 28 = .ok (.aload_n 0, 1) := by decide +kernel
theorem dX6_order_29 : decode cX6_order 29 = .ok (.getfield 19, 3) := by decide +kernel
theorem dX6_order_32 : decode cX6_order 32 = .ok (.iload_n 2, 1) := by decide +kernel
theorem dX6_order_33 : decode cX6_order 33 = .ok (.iload_n 3, 1) := by decide +kernel
theorem dX6_order_34 : decode cX6_order 34 = .ok (.invokevirtual 184, 3) := by decide +kernel
theorem dX6_order_37 : decode cX6_order 37 = .ok (.iload_n 1, 1) := by decide +kernel
theorem dX6_order_38 : decode cX6_order 38 = .ok (.if_icmp .ne 5, 3) := by decide +kernel
theorem dX6_order_41 : decode cX6_order 41 = .ok (.iload_n 3, 1) := by decide +kernel
theorem dX6_order_42 : decode cX6_order 42 = .ok (.ireturn, 1) := by decide +kernel
theorem dX6_order_43 : decode cX6_order 43 = .ok (.iinc 3 1, 3) := by decide +kernel
theorem dX6_order_46 : decode cX6_order 46 = .ok (.goto (-36), 3) := by decide +kernel
theorem dX6_order_49 : decode cX6_order 49 = .ok (.iconst (-1), 1) := by decide +kernel
theorem dX6_order_50 : decode cX6_order 50 = .ok (.ireturn, 1) := by decide +kernel
theorem dX6_letter_0 : decode cX6_letter 0 = .ok (.aload_n 0, 1) := by decide +kernel
theorem dX6_letter_1 : decode cX6_letter 1 = .ok (.getfield 29, 3) := by decide +kernel
theorem dX6_letter_4 : decode cX6_letter 4 = .ok (.iload_n 1, 1) := by decide +kernel
theorem dX6_letter_5 : decode cX6_letter 5 = .ok (.invokevirtual 150, 3) := by decide +kernel
theorem dX6_letter_8 : decode cX6_letter 8 = .ok (.ifCond .ne 6, 3) := by decide +kernel
theorem dX6_letter_11 : decode cX6_letter 11 = .ok (.ldc 137, 2) := by decide +kernel
theorem dX6_letter_13 : decode cX6_letter 13 = .ok (.ireturn, 1) := by decide +kernel
theorem dX6_letter_14 : decode cX6_letter 14 = .ok (.iload_n 2, 1) := by decide +kernel
theorem dX6_letter_15 : decode cX6_letter 15 = .ok (.ifCond .lt 9, 3) := by decide +kernel
theorem dX6_letter_18 : decode cX6_letter 18 = .ok (.iload_n 2, 1) := by decide +kernel
theorem dX6_letter_19 : decode cX6_letter 19 = .ok (.bipush 99, 2) := by decide +kernel
theorem dX6_letter_21 : decode cX6_letter 21 = .ok (.if_icmp .le 6, 3) := by decide +kernel
theorem dX6_letter_24 : decode cX6_letter 24 = .ok (.ldc 77, 2) := by decide +kernel
theorem dX6_letter_26 : decode cX6_letter 26 = .ok (.ireturn, 1) := by decide +kernel
theorem dX6_letter_27 : decode cX6_letter 27 = .ok (.aload_n 0, 1) := by decide +kernel
theorem dX6_letter_28 : decode cX6_letter 28 = .ok (.getfield 29, 3) := by decide +kernel
theorem dX6_letter_31 : decode cX6_letter 31 = .ok (.getfield 153, 3) := by decide +kernel
theorem dX6_letter_34 : decode cX6_letter 34 = .ok (.iload_n 1, 1) := by decide +kernel
theorem dX6_letter_35 : decode cX6_letter 35 = .ok (.invokestatic 142, 3) := by decide +kernel
theorem dX6_letter_38 : decode cX6_letter 38 = .ok (.istore_n 3, 1) := by decide +kernel
theorem dX6_letter_39 : decode cX6_letter 39 = .ok (.aload_n 0, 1) := by decide +kernel
theorem dX6_letter_40 : decode cX6_letter 40 = .ok (.getfield 29, 3) := by decide +kernel
theorem dX6_letter_43 : decode cX6_letter 43 = .ok (.getfield 153, 3) := by decide +kernel
theorem dX6_letter_46 : decode cX6_letter 46 = .ok (.iload_n 1, 1) := by decide +kernel
theorem dX6_letter_47 : decode cX6_letter 47 = .ok (.iload_n 2, 1) := by decide +kernel
theorem dX6_letter_48 : decode cX6_letter 48 = .ok (.invokestatic 188, 3) := by decide +kernel
theorem dX6_letter_51 : decode cX6_letter 51 = .ok (.iload_n 3, 1) := by decide +kernel
theorem dX6_letter_52 : decode cX6_letter 52 = .ok (.ireturn, 1) := by decide +kernel
theorem dX6_gift_0 : decode cX6_gift 0 = .ok (.aload_n 0, 1) := by decide +kernel
theorem dX6_gift_1 : decode cX6_gift 1 = .ok (.getfield 29, 3) := by decide +kernel
theorem dX6_gift_4 : decode cX6_gift 4 = .ok (.iload_n 1, 1) := by decide +kernel
theorem dX6_gift_5 : decode cX6_gift 5 = .ok (.invokevirtual 150, 3) := by decide +kernel
theorem dX6_gift_8 : decode cX6_gift 8 = .ok (.ifCond .ne 6, 3) := by decide +kernel
theorem dX6_gift_11 : decode cX6_gift 11 = .ok (.ldc 137, 2) := by decide +kernel
theorem dX6_gift_13 : decode cX6_gift 13 = .ok (.ireturn, 1) := by decide +kernel
theorem dX6_gift_14 : decode cX6_gift 14 = .ok (.iload_n 2, 1) := by decide +kernel
theorem dX6_gift_15 : decode cX6_gift 15 = .ok (.iconst 1, 1) := by decide +kernel
theorem dX6_gift_16 : decode cX6_gift 16 = .ok (.if_icmp .lt 10, 3) := by decide +kernel
theorem dX6_gift_19 : decode cX6_gift 19 = .ok (.iload_n 2, 1) := by decide +kernel
theorem dX6_gift_20 : decode cX6_gift 20 = .ok (.sipush 999, 3) := by decide +kernel
theorem dX6_gift_23 : decode cX6_gift 23 = .ok (.if_icmp .le 6, 3) := by decide +kernel
theorem dX6_gift_26 : decode cX6_gift 26 = .ok (.ldc 77, 2) := by decide +kernel
theorem dX6_gift_28 : decode cX6_gift 28 = .ok (.ireturn, 1) := by decide +kernel
theorem dX6_gift_29 : decode cX6_gift 29 = .ok (.aload_n 0, 1) := by decide +kernel
theorem dX6_gift_30 : decode cX6_gift 30 = .ok (.getfield 29, 3) := by decide +kernel
theorem dX6_gift_33 : decode cX6_gift 33 = .ok (.invokevirtual 123, 3) := by decide +kernel
theorem dX6_gift_36 : decode cX6_gift 36 = .ok (.iload_n 1, 1) := by decide +kernel
theorem dX6_gift_37 : decode cX6_gift 37 = .ok (.invokestatic 174, 3) := by decide +kernel
theorem dX6_gift_40 : decode cX6_gift 40 = .ok (.ifCond .ne 6, 3) := by decide +kernel
theorem dX6_gift_43 : decode cX6_gift 43 = .ok (.ldc 192, 2) := by decide +kernel
theorem dX6_gift_45 : decode cX6_gift 45 = .ok (.ireturn, 1) := by decide +kernel
theorem dX6_gift_46 : decode cX6_gift 46 = .ok (.sipush 9999, 3) := by decide +kernel
theorem dX6_gift_49 : decode cX6_gift 49 = .ok (.aload_n 0, 1) := by decide +kernel
theorem dX6_gift_50 : decode cX6_gift 50 = .ok (.getfield 29, 3) := by decide +kernel
theorem dX6_gift_53 : decode cX6_gift 53 = .ok (.getfield 162, 3) := by decide +kernel
theorem dX6_gift_56 : decode cX6_gift 56 = .ok (.iload_n 1, 1) := by decide +kernel
theorem dX6_gift_57 : decode cX6_gift 57 = .ok (.invokestatic 142, 3) := by decide +kernel
theorem dX6_gift_60 : decode cX6_gift 60 = .ok (.iload_n 2, 1) := by decide +kernel
theorem dX6_gift_61 : decode cX6_gift 61 = .ok (.iadd, 1) := by decide +kernel
theorem dX6_gift_62 : decode cX6_gift 62 = .ok (.invokestatic 193, 3) := by decide +kernel
theorem dX6_gift_65 : decode cX6_gift 65 = .ok (.istore_n 3, 1) := by decide +kernel
theorem dX6_gift_66 : decode cX6_gift 66 = .ok (.aload_n 0, 1) := by decide +kernel
theorem dX6_gift_67 : decode cX6_gift 67 = .ok (.getfield 29, 3) := by decide +kernel
theorem dX6_gift_70 : decode cX6_gift 70 = .ok (.getfield 162, 3) := by decide +kernel
theorem dX6_gift_73 : decode cX6_gift 73 = .ok (.iload_n 1, 1) := by decide +kernel
theorem dX6_gift_74 : decode cX6_gift 74 = .ok (.iload_n 3, 1) := by decide +kernel
theorem dX6_gift_75 : decode cX6_gift 75 = .ok (.invokestatic 188, 3) := by decide +kernel
theorem dX6_gift_78 : decode cX6_gift 78 = .ok (.iload_n 3, 1) := by decide +kernel
theorem dX6_gift_79 : decode cX6_gift 79 = .ok (.ireturn, 1) := by decide +kernel
theorem dX6_knock_0 : decode cX6_knock 0 = .ok (.aload_n 0, 1) := by decide +kernel
theorem dX6_knock_1 : decode cX6_knock 1 = .ok (.getfield 29, 3) := by decide +kernel
theorem dX6_knock_4 : decode cX6_knock 4 = .ok (.iload_n 1, 1) := by decide +kernel
theorem dX6_knock_5 : decode cX6_knock 5 = .ok (.invokevirtual 150, 3) := by decide +kernel
theorem dX6_knock_8 : decode cX6_knock 8 = .ok (.ifCond .ne 6, 3) := by decide +kernel
theorem dX6_knock_11 : decode cX6_knock 11 = .ok (.ldc 137, 2) := by decide +kernel
theorem dX6_knock_13 : decode cX6_knock 13 = .ok (.ireturn, 1) := by decide +kernel
theorem dX6_knock_14 : decode cX6_knock 14 = .ok (.aload_n 0, 1) := by decide +kernel
theorem dX6_knock_15 : decode cX6_knock 15 = .ok (.getfield 29, 3) := by decide +kernel
theorem dX6_knock_18 : decode cX6_knock 18 = .ok (.invokevirtual 123, 3) := by decide +kernel
theorem dX6_knock_21 : decode cX6_knock 21 = .ok (.istore_n 2, 1) := by decide +kernel
theorem dX6_knock_22 : decode cX6_knock 22 = .ok (.iload_n 2, 1) := by decide +kernel
theorem dX6_knock_23 : decode cX6_knock 23 = .ok (.iload_n 1, 1) := by decide +kernel
theorem dX6_knock_24 : decode cX6_knock 24 = .ok (.invokestatic 174, 3) := by decide +kernel
theorem dX6_knock_27 : decode cX6_knock 27 = .ok (.ifCond .ne 6, 3) := by decide +kernel
theorem dX6_knock_30 : decode cX6_knock 30 = .ok (.ldc 192, 2) := by decide +kernel
theorem dX6_knock_32 : decode cX6_knock 32 = .ok (.ireturn, 1) := by decide +kernel
theorem dX6_knock_33 : decode cX6_knock 33 = .ok (.aload_n 0, 1) := by decide +kernel
theorem dX6_knock_34 : decode cX6_knock 34 = .ok (.getfield 29, 3) := by decide +kernel
theorem dX6_knock_37 : decode cX6_knock 37 = .ok (.aload_n 0, 1) := by decide +kernel
theorem dX6_knock_38 : decode cX6_knock 38 = .ok (.getfield 19, 3) := by decide +kernel
theorem dX6_knock_41 : decode cX6_knock 41 = .ok (.iload_n 2, 1) := by decide +kernel
theorem dX6_knock_42 : decode cX6_knock 42 = .ok (.iload_n 1, 1) := by decide +kernel
theorem dX6_knock_43 : decode cX6_knock 43 = .ok (.invokevirtual 184, 3) := by decide +kernel
theorem dX6_knock_46 : decode cX6_knock 46 = .ok (.istore_n 3, 1) := by decide +kernel
theorem dX6_knock_47 : decode cX6_knock 47 = .ok (.aload_n 0, 1) := by decide +kernel
theorem dX6_knock_48 : decode cX6_knock 48 = .ok (.getfield 29, 3) := by decide +kernel
theorem dX6_knock_51 : decode cX6_knock 51 = .ok (.dup, 1) := by decide +kernel
theorem dX6_knock_52 : decode cX6_knock 52 = .ok (.getfield 171, 3) := by decide +kernel
theorem dX6_knock_55 : decode cX6_knock 55 = .ok (.iload_n 1, 1) := by decide +kernel
theorem dX6_knock_56 : decode cX6_knock 56 = .ok (.invokestatic 199, 3) := by decide +kernel
theorem dX6_knock_59 : decode cX6_knock 59 = .ok (.ior, 1) := by decide +kernel
theorem dX6_knock_60 : decode cX6_knock 60 = .ok (.putfield 171, 3) := by decide +kernel
theorem dX6_knock_63 : decode cX6_knock 63 = .ok (.iload_n 3, 1) := by decide +kernel
theorem dX6_knock_64 : decode cX6_knock 64 = .ok (.ireturn, 1) := by decide +kernel
theorem dX6_day_0 : decode cX6_day 0 = .ok (.iload_n 1, 1) := by decide +kernel
theorem dX6_day_1 : decode cX6_day 1 = .ok (.bipush (-9), 2) := by decide +kernel
theorem dX6_day_3 : decode cX6_day 3 = .ok (.if_icmp .lt 9, 3) := by decide +kernel
theorem dX6_day_6 : decode cX6_day 6 = .ok (.iload_n 1, 1) := by decide +kernel
theorem dX6_day_7 : decode cX6_day 7 = .ok (.bipush 9, 2) := by decide +kernel
theorem dX6_day_9 : decode cX6_day 9 = .ok (.if_icmp .le 6, 3) := by decide +kernel
theorem dX6_day_12 : decode cX6_day 12 = .ok (.ldc 77, 2) := by decide +kernel
theorem dX6_day_14 : decode cX6_day 14 = .ok (.ireturn, 1) := by decide +kernel
theorem dX6_day_15 : decode cX6_day 15 = .ok (.aload_n 0, 1) := by decide +kernel
theorem dX6_day_16 : decode cX6_day 16 = .ok (.getfield 29, 3) := by decide +kernel
theorem dX6_day_19 : decode cX6_day 19 = .ok (.iload_n 1, 1) := by decide +kernel
theorem dX6_day_20 : decode cX6_day 20 = .ok (.invokevirtual 202, 3) := by decide +kernel
theorem dX6_day_23 : decode cX6_day 23 = .ok (.aload_n 0, 1) := by decide +kernel
theorem dX6_day_24 : decode cX6_day 24 = .ok (.getfield 29, 3) := by decide +kernel
theorem dX6_day_27 : decode cX6_day 27 = .ok (.invokevirtual 205, 3) := by decide +kernel
theorem dX6_day_30 : decode cX6_day 30 = .ok (.ireturn, 1) := by decide +kernel
theorem dX6_rats_0 : decode cX6_rats 0 = .ok (.iload_n 1, 1) := by decide +kernel
theorem dX6_rats_1 : decode cX6_rats 1 = .ok (.iconst 1, 1) := by decide +kernel
theorem dX6_rats_2 : decode cX6_rats 2 = .ok (.if_icmp .lt 19, 3) := by decide +kernel
theorem dX6_rats_5 : decode cX6_rats 5 = .ok (.iload_n 1, 1) := by decide +kernel
theorem dX6_rats_6 : decode cX6_rats 6 = .ok (.bipush 99, 2) := by decide +kernel
theorem dX6_rats_8 : decode cX6_rats 8 = .ok (.if_icmp .gt 13, 3) := by decide +kernel
theorem dX6_rats_11 : decode cX6_rats 11 = .ok (.iload_n 2, 1) := by decide +kernel
theorem dX6_rats_12 : decode cX6_rats 12 = .ok (.ifCond .lt 9, 3) := by decide +kernel
theorem dX6_rats_15 : decode cX6_rats 15 = .ok (.iload_n 2, 1) := by decide +kernel
theorem dX6_rats_16 : decode cX6_rats 16 = .ok (.bipush 10, 2) := by decide +kernel
theorem dX6_rats_18 : decode cX6_rats 18 = .ok (.if_icmp .le 6, 3) := by decide +kernel
theorem dX6_rats_21 : decode cX6_rats 21 = .ok (.ldc 77, 2) := by decide +kernel
theorem dX6_rats_23 : decode cX6_rats 23 = .ok (.ireturn, 1) := by decide +kernel
theorem dX6_rats_24 : decode cX6_rats 24 = .ok (.iconst 0, 1) := by decide +kernel
theorem dX6_rats_25 : decode cX6_rats 25 = .ok (.istore_n 3, 1) := by decide +kernel
theorem dX6_rats_26 : decode cX6_rats 26 = .ok (.iload_n 3, 1) := by decide +kernel
theorem dX6_rats_27 : decode cX6_rats 27 = .ok (.iload_n 1, 1) := by decide +kernel
theorem dX6_rats_28 : decode cX6_rats 28 = .ok (.if_icmp .ge 17, 3) := by decide +kernel
theorem dX6_rats_31 : decode cX6_rats 31 = .ok (.aload_n 0, 1) := by decide +kernel
theorem dX6_rats_32 : decode cX6_rats 32 = .ok (.getfield 29, 3) := by decide +kernel
theorem dX6_rats_35 : decode cX6_rats 35 = .ok (.iload_n 2, 1) := by decide +kernel
theorem dX6_rats_36 : decode cX6_rats 36 = .ok (.invokevirtual 208, 3) := by decide +kernel
theorem dX6_rats_39 : decode cX6_rats 39 = .ok (.iinc 3 1, 3) := by decide +kernel
theorem dX6_rats_42 : decode cX6_rats 42 = .ok (.goto (-16), 3) := by decide +kernel
theorem dX6_rats_45 : decode cX6_rats 45 = .ok (.aload_n 0, 1) := by decide +kernel
theorem dX6_rats_46 : decode cX6_rats 46 = .ok (.getfield 29, 3) := by decide +kernel
theorem dX6_rats_49 : decode cX6_rats 49 = .ok (.invokevirtual 211, 3) := by decide +kernel
theorem dX6_rats_52 : decode cX6_rats 52 = .ok (.ireturn, 1) := by decide +kernel
theorem dX6_lay_0 : decode cX6_lay 0 = .ok (.aload_n 0, 1) := by decide +kernel
theorem dX6_lay_1 : decode cX6_lay 1 = .ok (.getfield 29, 3) := by decide +kernel
theorem dX6_lay_4 : decode cX6_lay 4 = .ok (.iload_n 1, 1) := by decide +kernel
theorem dX6_lay_5 : decode cX6_lay 5 = .ok (.invokevirtual 150, 3) := by decide +kernel
theorem dX6_lay_8 : decode cX6_lay 8 = .ok (.ifCond .eq 14, 3) := by decide +kernel
theorem dX6_lay_11 : decode cX6_lay 11 = .ok (.aload_n 0, 1) := by decide +kernel
theorem dX6_lay_12 : decode cX6_lay 12 = .ok (.getfield 29, 3) := by decide +kernel
theorem dX6_lay_15 : decode cX6_lay 15 = .ok (.iload_n 2, 1) := by decide +kernel
theorem dX6_lay_16 : decode cX6_lay 16 = .ok (.invokevirtual 133, 3) := by decide +kernel
theorem dX6_lay_19 : decode cX6_lay 19 = .ok (.ifCond .ne 6, 3) := by decide +kernel
theorem dX6_lay_22 : decode cX6_lay 22 = .ok (.ldc 137, 2) := by decide +kernel
theorem dX6_lay_24 : decode cX6_lay 24 = .ok (.ireturn, 1) := by decide +kernel
theorem dX6_lay_25 : decode cX6_lay 25 = .ok (.aload_n 0, 1) := by decide +kernel
theorem dX6_lay_26 : decode cX6_lay 26 = .ok (.getfield 29, 3) := by decide +kernel
theorem dX6_lay_29 : decode cX6_lay 29 = .ok (.invokevirtual 123, 3) := by decide +kernel
theorem dX6_lay_32 : decode cX6_lay 32 = .ok (.iload_n 1, 1) := by decide +kernel
theorem dX6_lay_33 : decode cX6_lay 33 = .ok (.invokestatic 174, 3) := by decide +kernel
theorem dX6_lay_36 : decode cX6_lay 36 = .ok (.ifCond .eq 17, 3) := by decide +kernel
theorem dX6_lay_39 : decode cX6_lay 39 = .ok (.aload_n 0, 1) := by decide +kernel
theorem dX6_lay_40 : decode cX6_lay 40 = .ok (.getfield 29, 3) := by decide +kernel
theorem dX6_lay_43 : decode cX6_lay 43 = .ok (.invokevirtual 214, 3) := by decide +kernel
theorem dX6_lay_46 : decode cX6_lay 46 = .ok (.iload_n 2, 1) := by decide +kernel
theorem dX6_lay_47 : decode cX6_lay 47 = .ok (.invokestatic 174, 3) := by decide +kernel
theorem dX6_lay_50 : decode cX6_lay 50 = .ok (.ifCond .eq 6, 3) := by decide +kernel
theorem dX6_lay_53 : decode cX6_lay 53 = .ok (.ldc 192, 2) := by decide +kernel
theorem dX6_lay_55 : decode cX6_lay 55 = .ok (.ireturn, 1) := by decide +kernel
theorem dX6_lay_56 : decode cX6_lay 56 = .ok (.aload_n 0, 1) := by decide +kernel
theorem dX6_lay_57 : decode cX6_lay 57 = .ok (.getfield 29, 3) := by decide +kernel
theorem dX6_lay_60 : decode cX6_lay 60 = .ok (.iload_n 1, 1) := by decide +kernel
theorem dX6_lay_61 : decode cX6_lay 61 = .ok (.iload_n 2, 1) := by decide +kernel
theorem dX6_lay_62 : decode cX6_lay 62 = .ok (.invokevirtual 217, 3) := by decide +kernel
theorem dX6_lay_65 : decode cX6_lay 65 = .ok (.ireturn, 1) := by decide +kernel
theorem dX6_spring_0 : decode cX6_spring 0 = .ok (.iload_n 1, 1) := by decide +kernel
theorem dX6_spring_1 : decode cX6_spring 1 = .ok (.iconst 1, 1) := by decide +kernel
theorem dX6_spring_2 : decode cX6_spring 2 = .ok (.if_icmp .lt 19, 3) := by decide +kernel
theorem dX6_spring_5 : decode cX6_spring 5 = .ok (.iload_n 1, 1) := by decide +kernel
theorem dX6_spring_6 : decode cX6_spring 6 = .ok (.bipush 99, 2) := by decide +kernel
theorem dX6_spring_8 : decode cX6_spring 8 = .ok (.if_icmp .gt 13, 3) := by decide +kernel
theorem dX6_spring_11 : decode cX6_spring 11 = .ok (.iload_n 2, 1) := by decide +kernel
theorem dX6_spring_12 : decode cX6_spring 12 = .ok (.ifCond .lt 9, 3) := by decide +kernel
theorem dX6_spring_15 : decode cX6_spring 15 = .ok (.iload_n 2, 1) := by decide +kernel
theorem dX6_spring_16 : decode cX6_spring 16 = .ok (.bipush 9, 2) := by decide +kernel
theorem dX6_spring_18 : decode cX6_spring 18 = .ok (.if_icmp .le 6, 3) := by decide +kernel
theorem dX6_spring_21 : decode cX6_spring 21 = .ok (.ldc 77, 2) := by decide +kernel
theorem dX6_spring_23 : decode cX6_spring 23 = .ok (.ireturn, 1) := by decide +kernel
theorem dX6_spring_24 : decode cX6_spring 24 = .ok (.iconst 0, 1) := by decide +kernel
theorem dX6_spring_25 : decode cX6_spring 25 = .ok (.istore_n 3, 1) := by decide +kernel
theorem dX6_spring_26 : decode cX6_spring 26 = .ok (.iload_n 3, 1) := by decide +kernel
theorem dX6_spring_27 : decode cX6_spring 27 = .ok (.iload_n 1, 1) := by decide +kernel
theorem dX6_spring_28 : decode cX6_spring 28 = .ok (.if_icmp .ge 40, 3) := by decide +kernel
theorem dX6_spring_31 : decode cX6_spring 31 = .ok (.aload_n 0, 1) := by decide +kernel
theorem dX6_spring_32 : decode cX6_spring 32 = .ok (.getfield 29, 3) := by decide +kernel
theorem dX6_spring_35 : decode cX6_spring 35 = .ok (.aload_n 0, 1) := by decide +kernel
theorem dX6_spring_36 : decode cX6_spring 36 = .ok (.getfield 29, 3) := by decide +kernel
theorem dX6_spring_39 : decode cX6_spring 39 = .ok (.bipush 12, 2) := by decide +kernel
theorem dX6_spring_41 : decode cX6_spring 41 = .ok (.invokevirtual 220, 3) := by decide +kernel
theorem dX6_spring_44 : decode cX6_spring 44 = .ok (.iconst 3, 1) := by decide +kernel
theorem dX6_spring_45 : decode cX6_spring 45 = .ok (.isub, 1) := by decide +kernel
theorem dX6_spring_46 : decode cX6_spring 46 = .ok (.invokevirtual 202, 3) := by decide +kernel
theorem dX6_spring_49 : decode cX6_spring 49 = .ok (.aload_n 0, 1) := by decide +kernel
theorem dX6_spring_50 : decode cX6_spring 50 = .ok (.getfield 29, 3) := by decide +kernel
theorem dX6_spring_53 : decode cX6_spring 53 = .ok (.iconst 2, 1) := by decide +kernel
theorem dX6_spring_54 : decode cX6_spring 54 = .ok (.invokevirtual 208, 3) := by decide +kernel
theorem dX6_spring_57 : decode cX6_spring 57 = .ok (.aload_n 0, 1) := by decide +kernel
theorem dX6_spring_58 : decode cX6_spring 58 = .ok (.iload_n 2, 1) := by decide +kernel
theorem dX6_spring_59 : decode cX6_spring 59 = .ok (.invokevirtual 223, 3) := by decide +kernel
theorem dX6_spring_62 : decode cX6_spring 62 = .ok (.iinc 3 1, 3) := by decide +kernel
theorem dX6_spring_65 : decode cX6_spring 65 = .ok (.goto (-39), 3) := by decide +kernel
theorem dX6_spring_68 : decode cX6_spring 68 = .ok (.aload_n 0, 1) := by decide +kernel
theorem dX6_spring_69 : decode cX6_spring 69 = .ok (.getfield 29, 3) := by decide +kernel
theorem dX6_spring_72 : decode cX6_spring 72 = .ok (.invokevirtual 127, 3) := by decide +kernel
theorem dX6_spring_75 : decode cX6_spring 75 = .ok (.invokestatic 226, 3) := by decide +kernel
theorem dX6_spring_78 : decode cX6_spring 78 = .ok (.ireturn, 1) := by decide +kernel
theorem dX6_useSpades_0 : decode cX6_useSpades 0 = .ok (.iconst 0, 1) := by decide +kernel
theorem dX6_useSpades_1 : decode cX6_useSpades 1 = .ok (.istore_n 2, 1) := by decide +kernel
theorem dX6_useSpades_2 : decode cX6_useSpades 2 = .ok (.iload_n 2, 1) := by decide +kernel
theorem dX6_useSpades_3 : decode cX6_useSpades 3 = .ok (.iload_n 1, 1) := by decide +kernel
theorem dX6_useSpades_4 : decode cX6_useSpades 4 = .ok (.if_icmp .ge 62, 3) := by decide +kernel
theorem dX6_useSpades_7 : decode cX6_useSpades 7 = .ok (.aload_n 0, 1) := by decide +kernel
theorem dX6_useSpades_8 : decode cX6_useSpades 8 = .ok (.getfield 29, 3) := by decide +kernel
theorem dX6_useSpades_11 : decode cX6_useSpades 11 = .ok (.aload_n 0, 1) := by decide +kernel
theorem dX6_useSpades_12 : decode cX6_useSpades 12 = .ok (.getfield 19, 3) := by decide +kernel
theorem dX6_useSpades_15 : decode cX6_useSpades 15 = .ok (.aload_n 0, 1) := by decide +kernel
theorem dX6_useSpades_16 : decode cX6_useSpades 16 = .ok (.getfield 29, 3) := by decide +kernel
theorem dX6_useSpades_19 : decode cX6_useSpades 19 = .ok (.invokevirtual 123, 3) := by decide +kernel
theorem dX6_useSpades_22 : decode cX6_useSpades 22 = .ok (.invokevirtual 231, 3) := by decide +kernel
theorem dX6_useSpades_25 : decode cX6_useSpades 25 = .ok (.istore_n 3, 1) := by decide +kernel
theorem dX6_useSpades_26 : decode cX6_useSpades 26 = .ok (.aload_n 0, 1) := by decide +kernel
theorem dX6_useSpades_27 : decode cX6_useSpades 27 = .ok (.getfield 29, 3) := by decide +kernel
theorem dX6_useSpades_30 : decode cX6_useSpades 30 = .ok (.invokevirtual 235, 3) := by decide +kernel
theorem dX6_useSpades_33 : decode cX6_useSpades 33 = .ok (.istore 4, 2) := by decide +kernel
theorem dX6_useSpades_35 : decode cX6_useSpades 35 = .ok (.iload_n 3, 1) := by decide +kernel
theorem dX6_useSpades_36 : decode cX6_useSpades 36 = .ok (.iconst (-1), 1) := by decide +kernel
theorem dX6_useSpades_37 : decode cX6_useSpades 37 = .ok (.if_icmp .eq 8, 3) := by decide +kernel
theorem dX6_useSpades_40 : decode cX6_useSpades 40 = .ok (.iload 4, 2) := by decide +kernel
theorem dX6_useSpades_42 : decode cX6_useSpades 42 = .ok (.ifCond .ne 4, 3) := by decide +kernel
theorem dX6_useSpades_45 : decode cX6_useSpades 45 = .ok (.return_, 1) := by decide +kernel
theorem dX6_useSpades_46 : decode cX6_useSpades 46 = .ok (.aload_n 0, 1) := by decide +kernel
theorem dX6_useSpades_47 : decode cX6_useSpades 47 = .ok (.getfield 29, 3) := by decide +kernel
theorem dX6_useSpades_50 : decode cX6_useSpades 50 = .ok (.iload_n 3, 1) := by decide +kernel
theorem dX6_useSpades_51 : decode cX6_useSpades 51 = .ok (.iload 4, 2) := by decide +kernel
theorem dX6_useSpades_53 : decode cX6_useSpades 53 = .ok (.invokestatic 238, 3) := by decide +kernel
theorem dX6_useSpades_56 : decode cX6_useSpades 56 = .ok (.invokevirtual 217, 3) := by decide +kernel
theorem dX6_useSpades_59 : decode cX6_useSpades 59 = .ok (.pop, 1) := by decide +kernel
theorem dX6_useSpades_60 : decode cX6_useSpades 60 = .ok (.iinc 2 1, 3) := by decide +kernel
theorem dX6_useSpades_63 : decode cX6_useSpades 63 = .ok (.goto (-61), 3) := by decide +kernel
theorem dX6_useSpades_66 : decode cX6_useSpades 66 = .ok (.return_, 1) := by decide +kernel
theorem dX6_offended_0 : decode cX6_offended 0 = .ok (.aload_n 0, 1) := by decide +kernel
theorem dX6_offended_1 : decode cX6_offended 1 = .ok (.getfield 29, 3) := by decide +kernel
theorem dX6_offended_4 : decode cX6_offended 4 = .ok (.iload_n 1, 1) := by decide +kernel
theorem dX6_offended_5 : decode cX6_offended 5 = .ok (.invokevirtual 150, 3) := by decide +kernel
theorem dX6_offended_8 : decode cX6_offended 8 = .ok (.ifCond .ne 6, 3) := by decide +kernel
theorem dX6_offended_11 : decode cX6_offended 11 = .ok (.ldc 137, 2) := by decide +kernel
theorem dX6_offended_13 : decode cX6_offended 13 = .ok (.ireturn, 1) := by decide +kernel
theorem dX6_offended_14 : decode cX6_offended 14 = .ok (.aload_n 0, 1) := by decide +kernel
theorem dX6_offended_15 : decode cX6_offended 15 = .ok (.getfield 29, 3) := by decide +kernel
theorem dX6_offended_18 : decode cX6_offended 18 = .ok (.invokevirtual 127, 3) := by decide +kernel
theorem dX6_offended_21 : decode cX6_offended 21 = .ok (.iload_n 1, 1) := by decide +kernel
theorem dX6_offended_22 : decode cX6_offended 22 = .ok (.invokestatic 174, 3) := by decide +kernel
theorem dX6_offended_25 : decode cX6_offended 25 = .ok (.ifCond .ne 6, 3) := by decide +kernel
theorem dX6_offended_28 : decode cX6_offended 28 = .ok (.ldc 192, 2) := by decide +kernel
theorem dX6_offended_30 : decode cX6_offended 30 = .ok (.ireturn, 1) := by decide +kernel
theorem dX6_offended_31 : decode cX6_offended 31 = .ok (.aload_n 0, 1) := by decide +kernel
theorem dX6_offended_32 : decode cX6_offended 32 = .ok (.getfield 59, 3) := by decide +kernel
theorem dX6_offended_35 : decode cX6_offended 35 = .ok (.aload_n 0, 1) := by decide +kernel
theorem dX6_offended_36 : decode cX6_offended 36 = .ok (.getfield 29, 3) := by decide +kernel
theorem dX6_offended_39 : decode cX6_offended 39 = .ok (.aload_n 0, 1) := by decide +kernel
theorem dX6_offended_40 : decode cX6_offended 40 = .ok (.getfield 19, 3) := by decide +kernel
theorem dX6_offended_43 : decode cX6_offended 43 = .ok (.invokevirtual 241, 3) := by decide +kernel
theorem dX6_offended_46 : decode cX6_offended 46 = .ok (.aload_n 0, 1) := by decide +kernel
theorem dX6_offended_47 : decode cX6_offended 47 = .ok (.getfield 59, 3) := by decide +kernel
theorem dX6_offended_50 : decode cX6_offended 50 = .ok (.iload_n 1, 1) := by decide +kernel
theorem dX6_offended_51 : decode cX6_offended 51 = .ok (.invokevirtual 245, 3) := by decide +kernel
theorem dX6_offended_54 : decode cX6_offended 54 = .ok (.ireturn, 1) := by decide +kernel
theorem dX6_quarrels_0 : decode cX6_quarrels 0 = .ok (.aload_n 0, 1) := by decide +kernel
theorem dX6_quarrels_1 : decode cX6_quarrels 1 = .ok (.getfield 59, 3) := by decide +kernel
theorem dX6_quarrels_4 : decode cX6_quarrels 4 = .ok (.aload_n 0, 1) := by decide +kernel
theorem dX6_quarrels_5 : decode cX6_quarrels 5 = .ok (.getfield 29, 3) := by decide +kernel
theorem dX6_quarrels_8 : decode cX6_quarrels 8 = .ok (.aload_n 0, 1) := by decide +kernel
theorem dX6_quarrels_9 : decode cX6_quarrels 9 = .ok (.getfield 19, 3) := by decide +kernel
theorem dX6_quarrels_12 : decode cX6_quarrels 12 = .ok (.invokevirtual 241, 3) := by decide +kernel
theorem dX6_quarrels_15 : decode cX6_quarrels 15 = .ok (.aload_n 0, 1) := by decide +kernel
theorem dX6_quarrels_16 : decode cX6_quarrels 16 = .ok (.getfield 59, 3) := by decide +kernel
theorem dX6_quarrels_19 : decode cX6_quarrels 19 = .ok (.invokevirtual 248, 3) := by decide +kernel
theorem dX6_quarrels_22 : decode cX6_quarrels 22 = .ok (.ireturn, 1) := by decide +kernel
theorem dX6_laying_0 : decode cX6_laying 0 = .ok (.iload_n 1, 1) := by decide +kernel
theorem dX6_laying_1 : decode cX6_laying 1 = .ok (.iconst (-1), 1) := by decide +kernel
theorem dX6_laying_2 : decode cX6_laying 2 = .ok (.if_icmp .eq 17, 3) := by decide +kernel
theorem dX6_laying_5 : decode cX6_laying 5 = .ok (.aload_n 0, 1) := by decide +kernel
theorem dX6_laying_6 : decode cX6_laying 6 = .ok (.getfield 29, 3) := by decide +kernel
theorem dX6_laying_9 : decode cX6_laying 9 = .ok (.iload_n 1, 1) := by decide +kernel
theorem dX6_laying_10 : decode cX6_laying 10 = .ok (.invokevirtual 150, 3) := by decide +kernel
theorem dX6_laying_13 : decode cX6_laying 13 = .ok (.ifCond .ne 6, 3) := by decide +kernel
theorem dX6_laying_16 : decode cX6_laying 16 = .ok (.ldc 137, 2) := by decide +kernel
theorem dX6_laying_18 : decode cX6_laying 18 = .ok (.ireturn, 1) := by decide +kernel
theorem dX6_laying_19 : decode cX6_laying 19 = .ok (.aload_n 0, 1) := by decide +kernel
theorem dX6_laying_20 : decode cX6_laying 20 = .ok (.getfield 59, 3) := by decide +kernel
theorem dX6_laying_23 : decode cX6_laying 23 = .ok (.aload_n 0, 1) := by decide +kernel
theorem dX6_laying_24 : decode cX6_laying 24 = .ok (.getfield 29, 3) := by decide +kernel
theorem dX6_laying_27 : decode cX6_laying 27 = .ok (.aload_n 0, 1) := by decide +kernel
theorem dX6_laying_28 : decode cX6_laying 28 = .ok (.getfield 19, 3) := by decide +kernel
theorem dX6_laying_31 : decode cX6_laying 31 = .ok (.invokevirtual 241, 3) := by decide +kernel
theorem dX6_laying_34 : decode cX6_laying 34 = .ok (.aload_n 0, 1) := by decide +kernel
theorem dX6_laying_35 : decode cX6_laying 35 = .ok (.getfield 59, 3) := by decide +kernel
theorem dX6_laying_38 : decode cX6_laying 38 = .ok (.aload_n 0, 1) := by decide +kernel
theorem dX6_laying_39 : decode cX6_laying 39 = .ok (.getfield 29, 3) := by decide +kernel
theorem dX6_laying_42 : decode cX6_laying 42 = .ok (.invokevirtual 123, 3) := by decide +kernel
theorem dX6_laying_45 : decode cX6_laying 45 = .ok (.aload_n 0, 1) := by decide +kernel
theorem dX6_laying_46 : decode cX6_laying 46 = .ok (.getfield 29, 3) := by decide +kernel
theorem dX6_laying_49 : decode cX6_laying 49 = .ok (.invokevirtual 235, 3) := by decide +kernel
theorem dX6_laying_52 : decode cX6_laying 52 = .ok (.invokevirtual 251, 3) := by decide +kernel
theorem dX6_laying_55 : decode cX6_laying 55 = .ok (.aload_n 0, 1) := by decide +kernel
theorem dX6_laying_56 : decode cX6_laying 56 = .ok (.getfield 59, 3) := by decide +kernel
theorem dX6_laying_59 : decode cX6_laying 59 = .ok (.getfield 255, 3) := by decide +kernel
theorem dX6_laying_62 : decode cX6_laying 62 = .ok (.ifCond .ne 5, 3) := by decide +kernel
theorem dX6_laying_65 : decode cX6_laying 65 = .ok (.iconst (-1), 1) := by decide +kernel
theorem dX6_laying_66 : decode cX6_laying 66 = .ok (.ireturn, 1) := by decide +kernel
theorem dX6_laying_67 : decode cX6_laying 67 = .ok (.iload_n 1, 1) := by decide +kernel
theorem dX6_laying_68 : decode cX6_laying 68 = .ok (.iconst (-1), 1) := by decide +kernel
theorem dX6_laying_69 : decode cX6_laying 69 = .ok (.if_icmp .ne 11, 3) := by decide +kernel
theorem dX6_laying_72 : decode cX6_laying 72 = .ok (.aload_n 0, 1) := by decide +kernel
theorem dX6_laying_73 : decode cX6_laying 73 = .ok (.getfield 59, 3) := by decide +kernel
theorem dX6_laying_76 : decode cX6_laying 76 = .ok (.getfield 258, 3) := by decide +kernel
theorem dX6_laying_79 : decode cX6_laying 79 = .ok (.ireturn, 1) := by decide +kernel
theorem dX6_laying_80 : decode cX6_laying 80 = .ok (.aload_n 0, 1) := by decide +kernel
theorem dX6_laying_81 : decode cX6_laying 81 = .ok (.getfield 29, 3) := by decide +kernel
theorem dX6_laying_84 : decode cX6_laying 84 = .ok (.invokevirtual 123, 3) := by decide +kernel
theorem dX6_laying_87 : decode cX6_laying 87 = .ok (.iload_n 1, 1) := by decide +kernel
theorem dX6_laying_88 : decode cX6_laying 88 = .ok (.invokestatic 174, 3) := by decide +kernel
theorem dX6_laying_91 : decode cX6_laying 91 = .ok (.ifCond .eq 17, 3) := by decide +kernel
theorem dX6_laying_94 : decode cX6_laying 94 = .ok (.aload_n 0, 1) := by decide +kernel
theorem dX6_laying_95 : decode cX6_laying 95 = .ok (.getfield 59, 3) := by decide +kernel
theorem dX6_laying_98 : decode cX6_laying 98 = .ok (.getfield 261, 3) := by decide +kernel
theorem dX6_laying_101 : decode cX6_laying 101 = .ok (.iload_n 1, 1) := by decide +kernel
theorem dX6_laying_102 : decode cX6_laying 102 = .ok (.invokestatic 142, 3) := by decide +kernel
theorem dX6_laying_105 : decode cX6_laying 105 = .ok (.goto 4, 3) := by decide +kernel
theorem dX6_laying_108 : decode cX6_laying 108 = .ok (.iconst (-1), 1) := by decide +kernel
theorem dX6_laying_109 : decode cX6_laying 109 = .ok (.ireturn, 1) := by decide +kernel
theorem dX6_when_0 : decode cX6_when 0 = .ok (.iload_n 1, 1) := by decide +kernel
theorem dX6_when_1 : decode cX6_when 1 = .ok (.iconst 1, 1) := by decide +kernel
theorem dX6_when_2 : decode cX6_when 2 = .ok (.if_icmp .lt 20, 3) := by decide +kernel
theorem dX6_when_5 : decode cX6_when 5 = .ok (.iload_n 1, 1) := by decide +kernel
theorem dX6_when_6 : decode cX6_when 6 = .ok (.bipush 8, 2) := by decide +kernel
theorem dX6_when_8 : decode cX6_when 8 = .ok (.if_icmp .gt 14, 3) := by decide +kernel
theorem dX6_when_11 : decode cX6_when 11 = .ok (.iload_n 2, 1) := by decide +kernel
theorem dX6_when_12 : decode cX6_when 12 = .ok (.iconst 1, 1) := by decide +kernel
theorem dX6_when_13 : decode cX6_when 13 = .ok (.if_icmp .lt 9, 3) := by decide +kernel
theorem dX6_when_16 : decode cX6_when 16 = .ok (.iload_n 2, 1) := by decide +kernel
theorem dX6_when_17 : decode cX6_when 17 = .ok (.bipush 9, 2) := by decide +kernel
theorem dX6_when_19 : decode cX6_when 19 = .ok (.if_icmp .le 6, 3) := by decide +kernel
theorem dX6_when_22 : decode cX6_when 22 = .ok (.ldc 77, 2) := by decide +kernel
theorem dX6_when_24 : decode cX6_when 24 = .ok (.ireturn, 1) := by decide +kernel
theorem dX6_when_25 : decode cX6_when 25 = .ok (.aload_n 0, 1) := by decide +kernel
theorem dX6_when_26 : decode cX6_when 26 = .ok (.getfield 29, 3) := by decide +kernel
theorem dX6_when_29 : decode cX6_when 29 = .ok (.iload_n 1, 1) := by decide +kernel
theorem dX6_when_30 : decode cX6_when 30 = .ok (.iload_n 2, 1) := by decide +kernel
theorem dX6_when_31 : decode cX6_when 31 = .ok (.invokevirtual 264, 3) := by decide +kernel
theorem dX6_when_34 : decode cX6_when 34 = .ok (.ireturn, 1) := by decide +kernel
theorem dX6_span_0 : decode cX6_span 0 = .ok (.iload_n 1, 1) := by decide +kernel
theorem dX6_span_1 : decode cX6_span 1 = .ok (.iconst 1, 1) := by decide +kernel
theorem dX6_span_2 : decode cX6_span 2 = .ok (.if_icmp .lt 42, 3) := by decide +kernel
theorem dX6_span_5 : decode cX6_span 5 = .ok (.iload_n 1, 1) := by decide +kernel
theorem dX6_span_6 : decode cX6_span 6 = .ok (.bipush 8, 2) := by decide +kernel
theorem dX6_span_8 : decode cX6_span 8 = .ok (.if_icmp .gt 36, 3) := by decide +kernel
theorem dX6_span_11 : decode cX6_span 11 = .ok (.iload_n 2, 1) := by decide +kernel
theorem dX6_span_12 : decode cX6_span 12 = .ok (.iconst 1, 1) := by decide +kernel
theorem dX6_span_13 : decode cX6_span 13 = .ok (.if_icmp .lt 31, 3) := by decide +kernel
theorem dX6_span_16 : decode cX6_span 16 = .ok (.iload_n 2, 1) := by decide +kernel
theorem dX6_span_17 : decode cX6_span 17 = .ok (.bipush 9, 2) := by decide +kernel
theorem dX6_span_19 : decode cX6_span 19 = .ok (.if_icmp .gt 25, 3) := by decide +kernel
theorem dX6_span_22 : decode cX6_span 22 = .ok (.iload_n 3, 1) := by decide +kernel
theorem dX6_span_23 : decode cX6_span 23 = .ok (.iload_n 2, 1) := by decide +kernel
theorem dX6_span_24 : decode cX6_span 24 = .ok (.if_icmp .lt 20, 3) := by decide +kernel
theorem dX6_span_27 : decode cX6_span 27 = .ok (.iload_n 3, 1) := by decide +kernel
theorem dX6_span_28 : decode cX6_span 28 = .ok (.bipush 9, 2) := by decide +kernel
theorem dX6_span_30 : decode cX6_span 30 = .ok (.if_icmp .gt 14, 3) := by decide +kernel
theorem dX6_span_33 : decode cX6_span 33 = .ok (.iload 4, 2) := by decide +kernel
theorem dX6_span_35 : decode cX6_span 35 = .ok (.ifCond .lt 9, 3) := by decide +kernel
theorem dX6_span_38 : decode cX6_span 38 = .ok (.iload 4, 2) := by decide +kernel
theorem dX6_span_40 : decode cX6_span 40 = .ok (.iconst 1, 1) := by decide +kernel
theorem dX6_span_41 : decode cX6_span 41 = .ok (.if_icmp .le 6, 3) := by decide +kernel
theorem dX6_span_44 : decode cX6_span 44 = .ok (.ldc 77, 2) := by decide +kernel
theorem dX6_span_46 : decode cX6_span 46 = .ok (.ireturn, 1) := by decide +kernel
theorem dX6_span_47 : decode cX6_span 47 = .ok (.aload_n 0, 1) := by decide +kernel
theorem dX6_span_48 : decode cX6_span 48 = .ok (.getfield 29, 3) := by decide +kernel
theorem dX6_span_51 : decode cX6_span 51 = .ok (.iload_n 1, 1) := by decide +kernel
theorem dX6_span_52 : decode cX6_span 52 = .ok (.iload 4, 2) := by decide +kernel
theorem dX6_span_54 : decode cX6_span 54 = .ok (.ifCond .ne 7, 3) := by decide +kernel
theorem dX6_span_57 : decode cX6_span 57 = .ok (.iload_n 3, 1) := by decide +kernel
theorem dX6_span_58 : decode cX6_span 58 = .ok (.goto 4, 3) := by decide +kernel
theorem dX6_span_61 : decode cX6_span 61 = .ok (.iload_n 2, 1) := by decide +kernel
theorem dX6_span_62 : decode cX6_span 62 = .ok (.invokevirtual 264, 3) := by decide +kernel
theorem dX6_span_65 : decode cX6_span 65 = .ok (.ireturn, 1) := by decide +kernel
theorem dX6_bribe_0 : decode cX6_bribe 0 = .ok (.aload_n 0, 1) := by decide +kernel
theorem dX6_bribe_1 : decode cX6_bribe 1 = .ok (.getfield 29, 3) := by decide +kernel
theorem dX6_bribe_4 : decode cX6_bribe 4 = .ok (.iload_n 1, 1) := by decide +kernel
theorem dX6_bribe_5 : decode cX6_bribe 5 = .ok (.invokevirtual 150, 3) := by decide +kernel
theorem dX6_bribe_8 : decode cX6_bribe 8 = .ok (.ifCond .ne 6, 3) := by decide +kernel
theorem dX6_bribe_11 : decode cX6_bribe 11 = .ok (.ldc 137, 2) := by decide +kernel
theorem dX6_bribe_13 : decode cX6_bribe 13 = .ok (.ireturn, 1) := by decide +kernel
theorem dX6_bribe_14 : decode cX6_bribe 14 = .ok (.iload_n 2, 1) := by decide +kernel
theorem dX6_bribe_15 : decode cX6_bribe 15 = .ok (.ifCond .lt 9, 3) := by decide +kernel
theorem dX6_bribe_18 : decode cX6_bribe 18 = .ok (.iload_n 2, 1) := by decide +kernel
theorem dX6_bribe_19 : decode cX6_bribe 19 = .ok (.bipush 6, 2) := by decide +kernel
theorem dX6_bribe_21 : decode cX6_bribe 21 = .ok (.if_icmp .le 6, 3) := by decide +kernel
theorem dX6_bribe_24 : decode cX6_bribe 24 = .ok (.ldc 77, 2) := by decide +kernel
theorem dX6_bribe_26 : decode cX6_bribe 26 = .ok (.ireturn, 1) := by decide +kernel
theorem dX6_bribe_27 : decode cX6_bribe 27 = .ok (.aload_n 0, 1) := by decide +kernel
theorem dX6_bribe_28 : decode cX6_bribe 28 = .ok (.getfield 29, 3) := by decide +kernel
theorem dX6_bribe_31 : decode cX6_bribe 31 = .ok (.invokevirtual 123, 3) := by decide +kernel
theorem dX6_bribe_34 : decode cX6_bribe 34 = .ok (.iload_n 1, 1) := by decide +kernel
theorem dX6_bribe_35 : decode cX6_bribe 35 = .ok (.invokestatic 174, 3) := by decide +kernel
theorem dX6_bribe_38 : decode cX6_bribe 38 = .ok (.ifCond .ne 6, 3) := by decide +kernel
theorem dX6_bribe_41 : decode cX6_bribe 41 = .ok (.ldc 192, 2) := by decide +kernel
theorem dX6_bribe_43 : decode cX6_bribe 43 = .ok (.ireturn, 1) := by decide +kernel
theorem dX6_bribe_44 : decode cX6_bribe 44 = .ok (.aload_n 0, 1) := by decide +kernel
theorem dX6_bribe_45 : decode cX6_bribe 45 = .ok (.iload_n 1, 1) := by decide +kernel
theorem dX6_bribe_46 : decode cX6_bribe 46 = .ok (.iload_n 2, 1) := by decide +kernel
theorem dX6_bribe_47 : decode cX6_bribe 47 = .ok (.invokevirtual 267, 3) := by decide +kernel
theorem dX6_bribe_50 : decode cX6_bribe 50 = .ok (.ireturn, 1) := by decide +kernel
theorem dX6_leastBribe_0 : decode cX6_leastBribe 0 = .ok (.aload_n 0, 1) := by decide +kernel
theorem dX6_leastBribe_1 : decode cX6_leastBribe 1 = .ok (.getfield 29, 3) := by decide +kernel
theorem dX6_leastBribe_4 : decode cX6_leastBribe 4 = .ok (.invokevirtual 123, 3) := by decide +kernel
theorem dX6_leastBribe_7 : decode cX6_leastBribe 7 = .ok (.istore_n 3, 1) := by decide +kernel
theorem dX6_leastBribe_8 : decode cX6_leastBribe 8 = .ok (.aload_n 0, 1) := by decide +kernel
theorem dX6_leastBribe_9 : decode cX6_leastBribe 9 = .ok (.getfield 29, 3) := by decide +kernel
theorem dX6_leastBribe_12 : decode cX6_leastBribe 12 = .ok (.getfield 162, 3) := by decide +kernel
theorem dX6_leastBribe_15 : decode cX6_leastBribe 15 = .ok (.iload_n 1, 1) := by decide +kernel
theorem dX6_leastBribe_16 : decode cX6_leastBribe 16 = .ok (.invokestatic 142, 3) := by decide +kernel
theorem dX6_leastBribe_19 : decode cX6_leastBribe 19 = .ok (.istore 4, 2) := by decide +kernel
theorem dX6_leastBribe_21 : decode cX6_leastBribe 21 = .ok (.sipush 999, 3) := by decide +kernel
theorem dX6_leastBribe_24 : decode cX6_leastBribe 24 = .ok (.sipush 9999, 3) := by decide +kernel
theorem dX6_leastBribe_27 : decode cX6_leastBribe 27 = .ok (.iload 4, 2) := by decide +kernel
theorem dX6_leastBribe_29 : decode cX6_leastBribe 29 = .ok (.isub, 1) := by decide +kernel
theorem dX6_leastBribe_30 : decode cX6_leastBribe 30 = .ok (.invokestatic 193, 3) := by decide +kernel
theorem dX6_leastBribe_33 : decode cX6_leastBribe 33 = .ok (.istore 5, 2) := by decide +kernel
theorem dX6_leastBribe_35 : decode cX6_leastBribe 35 = .ok (.iconst (-1), 1) := by decide +kernel
theorem dX6_leastBribe_36 : decode cX6_leastBribe 36 = .ok (.istore 6, 2) := by decide +kernel
theorem dX6_leastBribe_38 : decode cX6_leastBribe 38 = .ok (.iconst 0, 1) := by decide +kernel
theorem dX6_leastBribe_39 : decode cX6_leastBribe 39 = .ok (.istore 7, 2) := by decide +kernel
theorem dX6_leastBribe_41 : decode cX6_leastBribe 41 = .ok (.iload 7, 2) := by decide +kernel
theorem dX6_leastBribe_43 : decode cX6_leastBribe 43 = .ok (.iload 5, 2) := by decide +kernel
theorem dX6_leastBribe_45 : decode cX6_leastBribe 45 = .ok (.if_icmp .gt 52, 3) := by decide +kernel
theorem dX6_leastBribe_48 : decode cX6_leastBribe 48 = .ok (.iload 6, 2) := by decide +kernel
theorem dX6_leastBribe_50 : decode cX6_leastBribe 50 = .ok (.iconst (-1), 1) := by decide +kernel
theorem dX6_leastBribe_51 : decode cX6_leastBribe 51 = .ok (.if_icmp .ne 46, 3) := by decide +kernel
theorem dX6_leastBribe_54 : decode cX6_leastBribe 54 = .ok (.aload_n 0, 1) := by decide +kernel
theorem dX6_leastBribe_55 : decode cX6_leastBribe 55 = .ok (.getfield 29, 3) := by decide +kernel
theorem dX6_leastBribe_58 : decode cX6_leastBribe 58 = .ok (.getfield 162, 3) := by decide +kernel
theorem dX6_leastBribe_61 : decode cX6_leastBribe 61 = .ok (.iload_n 1, 1) := by decide +kernel
theorem dX6_leastBribe_62 : decode cX6_leastBribe 62 = .ok (.iload 4, 2) := by decide +kernel
theorem dX6_leastBribe_64 : decode cX6_leastBribe 64 = .ok (.iload 7, 2) := by decide +kernel
theorem dX6_leastBribe_66 : decode cX6_leastBribe 66 = .ok (.iadd, 1) := by decide +kernel
theorem dX6_leastBribe_67 : decode cX6_leastBribe 67 = .ok (.invokestatic 188, 3) := by decide +kernel
theorem dX6_leastBribe_70 : decode cX6_leastBribe 70 = .ok (.aload_n 0, 1) := by decide +kernel
theorem dX6_leastBribe_71 : decode cX6_leastBribe 71 = .ok (.getfield 29, 3) := by decide +kernel
theorem dX6_leastBribe_74 : decode cX6_leastBribe 74 = .ok (.aload_n 0, 1) := by decide +kernel
theorem dX6_leastBribe_75 : decode cX6_leastBribe 75 = .ok (.getfield 19, 3) := by decide +kernel
theorem dX6_leastBribe_78 : decode cX6_leastBribe 78 = .ok (.iload_n 3, 1) := by decide +kernel
theorem dX6_leastBribe_79 : decode cX6_leastBribe 79 = .ok (.iload_n 1, 1) := by decide +kernel
theorem dX6_leastBribe_80 : decode cX6_leastBribe 80 = .ok (.invokevirtual 184, 3) := by decide +kernel
theorem dX6_leastBribe_83 : decode cX6_leastBribe 83 = .ok (.iload_n 2, 1) := by decide +kernel
theorem dX6_leastBribe_84 : decode cX6_leastBribe 84 = .ok (.if_icmp .gt 7, 3) := by decide +kernel
theorem dX6_leastBribe_87 : decode cX6_leastBribe 87 = .ok (.iload 7, 2) := by decide +kernel
theorem dX6_leastBribe_89 : decode cX6_leastBribe 89 = .ok (.istore 6, 2) := by decide +kernel
theorem dX6_leastBribe_91 : decode cX6_leastBribe 91 = .ok (.iinc 7 1, 3) := by decide +kernel
theorem dX6_leastBribe_94 : decode cX6_leastBribe 94 = .ok (.goto (-53), 3) := by decide +kernel
theorem dX6_leastBribe_97 : decode cX6_leastBribe 97 = .ok (.aload_n 0, 1) := by decide +kernel
theorem dX6_leastBribe_98 : decode cX6_leastBribe 98 = .ok (.getfield 29, 3) := by decide +kernel
theorem dX6_leastBribe_101 : decode cX6_leastBribe 101 = .ok (.getfield 162, 3) := by decide +kernel
theorem dX6_leastBribe_104 : decode cX6_leastBribe 104 = .ok (.iload_n 1, 1) := by decide +kernel
theorem dX6_leastBribe_105 : decode cX6_leastBribe 105 = .ok (.iload 4, 2) := by decide +kernel
theorem dX6_leastBribe_107 : decode cX6_leastBribe 107 = .ok (.invokestatic 188, 3) := by decide +kernel
theorem dX6_leastBribe_110 : decode cX6_leastBribe 110 = .ok (.iload 6, 2) := by decide +kernel
theorem dX6_leastBribe_112 : decode cX6_leastBribe 112 = .ok (.ireturn, 1) := by decide +kernel
theorem dX6_label_0 : decode cX6_label 0 = .ok (.aload_n 0, 1) := by decide +kernel
theorem dX6_label_1 : decode cX6_label 1 = .ok (.getfield 29, 3) := by decide +kernel
theorem dX6_label_4 : decode cX6_label 4 = .ok (.iload_n 1, 1) := by decide +kernel
theorem dX6_label_5 : decode cX6_label 5 = .ok (.invokevirtual 150, 3) := by decide +kernel
theorem dX6_label_8 : decode cX6_label 8 = .ok (.ifCond .eq 14, 3) := by decide +kernel
theorem dX6_label_11 : decode cX6_label 11 = .ok (.aload_n 0, 1) := by decide +kernel
theorem dX6_label_12 : decode cX6_label 12 = .ok (.getfield 29, 3) := by decide +kernel
theorem dX6_label_15 : decode cX6_label 15 = .ok (.iload_n 2, 1) := by decide +kernel
theorem dX6_label_16 : decode cX6_label 16 = .ok (.invokevirtual 150, 3) := by decide +kernel
theorem dX6_label_19 : decode cX6_label 19 = .ok (.ifCond .ne 6, 3) := by decide +kernel
theorem dX6_label_22 : decode cX6_label 22 = .ok (.ldc 137, 2) := by decide +kernel
theorem dX6_label_24 : decode cX6_label 24 = .ok (.ireturn, 1) := by decide +kernel
theorem dX6_label_25 : decode cX6_label 25 = .ok (.aload_n 0, 1) := by decide +kernel
theorem dX6_label_26 : decode cX6_label 26 = .ok (.getfield 29, 3) := by decide +kernel
theorem dX6_label_29 : decode cX6_label 29 = .ok (.getfield 178, 3) := by decide +kernel
theorem dX6_label_32 : decode cX6_label 32 = .ok (.iload_n 1, 1) := by decide +kernel
theorem dX6_label_33 : decode cX6_label 33 = .ok (.invokestatic 142, 3) := by decide +kernel
theorem dX6_label_36 : decode cX6_label 36 = .ok (.istore_n 3, 1) := by decide +kernel
theorem dX6_label_37 : decode cX6_label 37 = .ok (.aload_n 0, 1) := by decide +kernel
theorem dX6_label_38 : decode cX6_label 38 = .ok (.getfield 29, 3) := by decide +kernel
theorem dX6_label_41 : decode cX6_label 41 = .ok (.getfield 178, 3) := by decide +kernel
theorem dX6_label_44 : decode cX6_label 44 = .ok (.iload_n 1, 1) := by decide +kernel
theorem dX6_label_45 : decode cX6_label 45 = .ok (.iload_n 2, 1) := by decide +kernel
theorem dX6_label_46 : decode cX6_label 46 = .ok (.invokestatic 188, 3) := by decide +kernel
theorem dX6_label_49 : decode cX6_label 49 = .ok (.iload_n 3, 1) := by decide +kernel
theorem dX6_label_50 : decode cX6_label 50 = .ok (.ireturn, 1) := by decide +kernel
theorem dX6_mark_0 : decode cX6_mark 0 = .ok (.aload_n 0, 1) := by decide +kernel
theorem dX6_mark_1 : decode cX6_mark 1 = .ok (.getfield 29, 3) := by decide +kernel
theorem dX6_mark_4 : decode cX6_mark 4 = .ok (.iload_n 1, 1) := by decide +kernel
theorem dX6_mark_5 : decode cX6_mark 5 = .ok (.invokevirtual 150, 3) := by decide +kernel
theorem dX6_mark_8 : decode cX6_mark 8 = .ok (.ifCond .eq 20, 3) := by decide +kernel
theorem dX6_mark_11 : decode cX6_mark 11 = .ok (.iload_n 2, 1) := by decide +kernel
theorem dX6_mark_12 : decode cX6_mark 12 = .ok (.aload_n 0, 1) := by decide +kernel
theorem dX6_mark_13 : decode cX6_mark 13 = .ok (.getfield 29, 3) := by decide +kernel
theorem dX6_mark_16 : decode cX6_mark 16 = .ok (.getfield 103, 3) := by decide +kernel
theorem dX6_mark_19 : decode cX6_mark 19 = .ok (.invokestatic 270, 3) := by decide +kernel
theorem dX6_mark_22 : decode cX6_mark 22 = .ok (.iconst (-1), 1) := by decide +kernel
theorem dX6_mark_23 : decode cX6_mark 23 = .ok (.ixor, 1) := by decide +kernel
theorem dX6_mark_24 : decode cX6_mark 24 = .ok (.iand, 1) := by decide +kernel
theorem dX6_mark_25 : decode cX6_mark 25 = .ok (.ifCond .eq 6, 3) := by decide +kernel
theorem dX6_mark_28 : decode cX6_mark 28 = .ok (.ldc 137, 2) := by decide +kernel
theorem dX6_mark_30 : decode cX6_mark 30 = .ok (.ireturn, 1) := by decide +kernel
theorem dX6_mark_31 : decode cX6_mark 31 = .ok (.aload_n 0, 1) := by decide +kernel
