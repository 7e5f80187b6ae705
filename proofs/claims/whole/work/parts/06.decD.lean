theorem dX10_goesOn_15 : decode cX10_goesOn 15 = .ok (.aload_n 0, 1) := by decide +kernel
theorem dX10_goesOn_16 : decode cX10_goesOn 16 = .ok (.iload_n 1, 1) := by decide +kernel
theorem dX10_goesOn_17 : decode cX10_goesOn 17 = .ok (.invokevirtual 146, 3) := by decide +kernel
theorem dX10_goesOn_20 : decode cX10_goesOn 20 = .ok (.iadd, 1) := by decide +kernel
theorem dX10_goesOn_21 : decode cX10_goesOn 21 = .ok (.invokestatic 70, 3) := by decide +kernel
theorem dX10_goesOn_24 : decode cX10_goesOn 24 = .ok (.iastore, 1) := by decide +kernel
theorem dX10_goesOn_25 : decode cX10_goesOn 25 = .ok (.aload_n 0, 1) := by decide +kernel
theorem dX10_goesOn_26 : decode cX10_goesOn 26 = .ok (.getfield 9, 3) := by decide +kernel
theorem dX10_goesOn_29 : decode cX10_goesOn 29 = .ok (.iconst 0, 1) := by decide +kernel
theorem dX10_goesOn_30 : decode cX10_goesOn 30 = .ok (.iaload, 1) := by decide +kernel
theorem dX10_goesOn_31 : decode cX10_goesOn 31 = .ok (.iload_n 2, 1) := by decide +kernel
theorem dX10_goesOn_32 : decode cX10_goesOn 32 = .ok (.isub, 1) := by decide +kernel
theorem dX10_goesOn_33 : decode cX10_goesOn 33 = .ok (.ireturn, 1) := by decide +kernel
theorem dX10_oneLess_0 : decode cX10_oneLess 0 = .ok (.aload_n 0, 1) := by decide +kernel
theorem dX10_oneLess_1 : decode cX10_oneLess 1 = .ok (.getfield 9, 3) := by decide +kernel
theorem dX10_oneLess_4 : decode cX10_oneLess 4 = .ok (.bipush 12, 2) := by decide +kernel
theorem dX10_oneLess_6 : decode cX10_oneLess 6 = .ok (.dup2, 1) := by decide +kernel
theorem dX10_oneLess_7 : decode cX10_oneLess 7 = .ok (.iaload, 1) := by decide +kernel
theorem dX10_oneLess_8 : decode cX10_oneLess 8 = .ok (.iconst 1, 1) := by decide +kernel
theorem dX10_oneLess_9 : decode cX10_oneLess 9 = .ok (.isub, 1) := by decide +kernel
theorem dX10_oneLess_10 : decode cX10_oneLess 10 = .ok (.iastore, 1) := by decide +kernel
theorem dX10_oneLess_11 : decode cX10_oneLess 11 = .ok (.aload_n 0, 1) := by decide +kernel
theorem dX10_oneLess_12 : decode cX10_oneLess 12 = .ok (.getfield 9, 3) := by decide +kernel
theorem dX10_oneLess_15 : decode cX10_oneLess 15 = .ok (.bipush 12, 2) := by decide +kernel
theorem dX10_oneLess_17 : decode cX10_oneLess 17 = .ok (.iaload, 1) := by decide +kernel
theorem dX10_oneLess_18 : decode cX10_oneLess 18 = .ok (.ifCond .ne 24, 3) := by decide +kernel
theorem dX10_oneLess_21 : decode cX10_oneLess 21 = .ok (.aload_n 0, 1) := by decide +kernel
theorem dX10_oneLess_22 : decode cX10_oneLess 22 = .ok (.aload_n 0, 1) := by decide +kernel
theorem dX10_oneLess_23 : decode cX10_oneLess 23 = .ok (.getfield 9, 3) := by decide +kernel
theorem dX10_oneLess_26 : decode cX10_oneLess 26 = .ok (.bipush 11, 2) := by decide +kernel
theorem dX10_oneLess_28 : decode cX10_oneLess 28 = .ok (.iaload, 1) := by decide +kernel
theorem dX10_oneLess_29 : decode cX10_oneLess 29 = .ok (.iconst 1, 1) := by decide +kernel
theorem dX10_oneLess_30 : decode cX10_oneLess 30 = .ok (.iadd, 1) := by decide +kernel
theorem dX10_oneLess_31 : decode cX10_oneLess 31 = .ok (.aload_n 0, 1) := by decide +kernel
theorem dX10_oneLess_32 : decode cX10_oneLess 32 = .ok (.getfield 9, 3) := by decide +kernel
theorem dX10_oneLess_35 : decode cX10_oneLess 35 = .ok (.bipush 15, 2) := by decide +kernel
theorem dX10_oneLess_37 : decode cX10_oneLess 37 = .ok (.iaload, 1) := by decide +kernel
theorem dX10_oneLess_38 : decode cX10_oneLess 38 = .ok (.irem, 1) := by decide +kernel
theorem dX10_oneLess_39 : decode cX10_oneLess 39 = .ok (.invokevirtual 128, 3) := by decide +kernel
theorem dX10_oneLess_42 : decode cX10_oneLess 42 = .ok (.return_, 1) := by decide +kernel
theorem dX10_falls_0 : decode cX10_falls 0 = .ok (.aload_n 0, 1) := by decide +kernel
theorem dX10_falls_1 : decode cX10_falls 1 = .ok (.getfield 9, 3) := by decide +kernel
theorem dX10_falls_4 : decode cX10_falls 4 = .ok (.iconst 1, 1) := by decide +kernel
theorem dX10_falls_5 : decode cX10_falls 5 = .ok (.iconst 0, 1) := by decide +kernel
theorem dX10_falls_6 : decode cX10_falls 6 = .ok (.iastore, 1) := by decide +kernel
theorem dX10_falls_7 : decode cX10_falls 7 = .ok (.aload_n 0, 1) := by decide +kernel
theorem dX10_falls_8 : decode cX10_falls 8 = .ok (.bipush 7, 2) := by decide +kernel
theorem dX10_falls_10 : decode cX10_falls 10 = .ok (.iconst 1, 1) := by decide +kernel
theorem dX10_falls_11 : decode cX10_falls 11 = .ok (.invokevirtual 229, 3) := by decide +kernel
theorem dX10_falls_14 : decode cX10_falls 14 = .ok (.aload_n 0, 1) := by decide +kernel
theorem dX10_falls_15 : decode cX10_falls 15 = .ok (.invokevirtual 120, 3) := by decide +kernel
theorem dX10_falls_18 : decode cX10_falls 18 = .ok (.istore_n 1, 1) := by decide +kernel
theorem dX10_falls_19 : decode cX10_falls 19 = .ok (.iload_n 1, 1) := by decide +kernel
theorem dX10_falls_20 : decode cX10_falls 20 = .ok (.ifCond .lt 29, 3) := by decide +kernel
theorem dX10_falls_23 : decode cX10_falls 23 = .ok (.aload_n 0, 1) := by decide +kernel
theorem dX10_falls_24 : decode cX10_falls 24 = .ok (.iload_n 1, 1) := by decide +kernel
theorem dX10_falls_25 : decode cX10_falls 25 = .ok (.invokevirtual 116, 3) := by decide +kernel
theorem dX10_falls_28 : decode cX10_falls 28 = .ok (.ifCond .eq 21, 3) := by decide +kernel
theorem dX10_falls_31 : decode cX10_falls 31 = .ok (.aload_n 0, 1) := by decide +kernel
theorem dX10_falls_32 : decode cX10_falls 32 = .ok (.iload_n 1, 1) := by decide +kernel
theorem dX10_falls_33 : decode cX10_falls 33 = .ok (.iconst 2, 1) := by decide +kernel
theorem dX10_falls_34 : decode cX10_falls 34 = .ok (.invokevirtual 104, 3) := by decide +kernel
theorem dX10_falls_37 : decode cX10_falls 37 = .ok (.ifCond .ne 12, 3) := by decide +kernel
theorem dX10_falls_40 : decode cX10_falls 40 = .ok (.aload_n 0, 1) := by decide +kernel
theorem dX10_falls_41 : decode cX10_falls 41 = .ok (.iload_n 1, 1) := by decide +kernel
theorem dX10_falls_42 : decode cX10_falls 42 = .ok (.iconst 1, 1) := by decide +kernel
theorem dX10_falls_43 : decode cX10_falls 43 = .ok (.invokevirtual 104, 3) := by decide +kernel
theorem dX10_falls_46 : decode cX10_falls 46 = .ok (.goto 4, 3) := by decide +kernel
theorem dX10_falls_49 : decode cX10_falls 49 = .ok (.iconst 0, 1) := by decide +kernel
theorem dX10_falls_50 : decode cX10_falls 50 = .ok (.istore_n 2, 1) := by decide +kernel
theorem dX10_falls_51 : decode cX10_falls 51 = .ok (.aload_n 0, 1) := by decide +kernel
theorem dX10_falls_52 : decode cX10_falls 52 = .ok (.bipush 9, 2) := by decide +kernel
theorem dX10_falls_54 : decode cX10_falls 54 = .ok (.iload_n 2, 1) := by decide +kernel
theorem dX10_falls_55 : decode cX10_falls 55 = .ok (.invokevirtual 229, 3) := by decide +kernel
theorem dX10_falls_58 : decode cX10_falls 58 = .ok (.aload_n 0, 1) := by decide +kernel
theorem dX10_falls_59 : decode cX10_falls 59 = .ok (.getfield 9, 3) := by decide +kernel
theorem dX10_falls_62 : decode cX10_falls 62 = .ok (.bipush 6, 2) := by decide +kernel
theorem dX10_falls_64 : decode cX10_falls 64 = .ok (.sipush 9999, 3) := by decide +kernel
theorem dX10_falls_67 : decode cX10_falls 67 = .ok (.aload_n 0, 1) := by decide +kernel
theorem dX10_falls_68 : decode cX10_falls 68 = .ok (.getfield 9, 3) := by decide +kernel
theorem dX10_falls_71 : decode cX10_falls 71 = .ok (.bipush 6, 2) := by decide +kernel
theorem dX10_falls_73 : decode cX10_falls 73 = .ok (.iaload, 1) := by decide +kernel
theorem dX10_falls_74 : decode cX10_falls 74 = .ok (.aload_n 0, 1) := by decide +kernel
theorem dX10_falls_75 : decode cX10_falls 75 = .ok (.iload_n 2, 1) := by decide +kernel
theorem dX10_falls_76 : decode cX10_falls 76 = .ok (.invokevirtual 233, 3) := by decide +kernel
theorem dX10_falls_79 : decode cX10_falls 79 = .ok (.iadd, 1) := by decide +kernel
theorem dX10_falls_80 : decode cX10_falls 80 = .ok (.invokestatic 70, 3) := by decide +kernel
theorem dX10_falls_83 : decode cX10_falls 83 = .ok (.iastore, 1) := by decide +kernel
theorem dX10_falls_84 : decode cX10_falls 84 = .ok (.return_, 1) := by decide +kernel
theorem dX10_tenth_0 : decode cX10_tenth 0 = .ok (.aload_n 0, 1) := by decide +kernel
theorem dX10_tenth_1 : decode cX10_tenth 1 = .ok (.getfield 9, 3) := by decide +kernel
theorem dX10_tenth_4 : decode cX10_tenth 4 = .ok (.bipush 11, 2) := by decide +kernel
theorem dX10_tenth_6 : decode cX10_tenth 6 = .ok (.iaload, 1) := by decide +kernel
theorem dX10_tenth_7 : decode cX10_tenth 7 = .ok (.istore_n 1, 1) := by decide +kernel
theorem dX10_tenth_8 : decode cX10_tenth 8 = .ok (.aload_n 0, 1) := by decide +kernel
theorem dX10_tenth_9 : decode cX10_tenth 9 = .ok (.iload_n 1, 1) := by decide +kernel
theorem dX10_tenth_10 : decode cX10_tenth 10 = .ok (.invokevirtual 143, 3) := by decide +kernel
theorem dX10_tenth_13 : decode cX10_tenth 13 = .ok (.istore_n 2, 1) := by decide +kernel
theorem dX10_tenth_14 : decode cX10_tenth 14 = .ok (.aload_n 0, 1) := by decide +kernel
theorem dX10_tenth_15 : decode cX10_tenth 15 = .ok (.getfield 9, 3) := by decide +kernel
theorem dX10_tenth_18 : decode cX10_tenth 18 = .ok (.iconst 1, 1) := by decide +kernel
theorem dX10_tenth_19 : decode cX10_tenth 19 = .ok (.iaload, 1) := by decide +kernel
theorem dX10_tenth_20 : decode cX10_tenth 20 = .ok (.aload_n 0, 1) := by decide +kernel
theorem dX10_tenth_21 : decode cX10_tenth 21 = .ok (.getfield 9, 3) := by decide +kernel
theorem dX10_tenth_24 : decode cX10_tenth 24 = .ok (.iconst 1, 1) := by decide +kernel
theorem dX10_tenth_25 : decode cX10_tenth 25 = .ok (.iaload, 1) := by decide +kernel
theorem dX10_tenth_26 : decode cX10_tenth 26 = .ok (.iconst 5, 1) := by decide +kernel
theorem dX10_tenth_27 : decode cX10_tenth 27 = .ok (.idiv, 1) := by decide +kernel
theorem dX10_tenth_28 : decode cX10_tenth 28 = .ok (.iadd, 1) := by decide +kernel
theorem dX10_tenth_29 : decode cX10_tenth 29 = .ok (.aload_n 0, 1) := by decide +kernel
theorem dX10_tenth_30 : decode cX10_tenth 30 = .ok (.iconst 2, 1) := by decide +kernel
theorem dX10_tenth_31 : decode cX10_tenth 31 = .ok (.iload_n 2, 1) := by decide +kernel
theorem dX10_tenth_32 : decode cX10_tenth 32 = .ok (.imul, 1) := by decide +kernel
theorem dX10_tenth_33 : decode cX10_tenth 33 = .ok (.iconst 1, 1) := by decide +kernel
theorem dX10_tenth_34 : decode cX10_tenth 34 = .ok (.iadd, 1) := by decide +kernel
theorem dX10_tenth_35 : decode cX10_tenth 35 = .ok (.invokevirtual 236, 3) := by decide +kernel
theorem dX10_tenth_38 : decode cX10_tenth 38 = .ok (.iadd, 1) := by decide +kernel
theorem dX10_tenth_39 : decode cX10_tenth 39 = .ok (.iload_n 2, 1) := by decide +kernel
theorem dX10_tenth_40 : decode cX10_tenth 40 = .ok (.isub, 1) := by decide +kernel
theorem dX10_tenth_41 : decode cX10_tenth 41 = .ok (.aload_n 0, 1) := by decide +kernel
theorem dX10_tenth_42 : decode cX10_tenth 42 = .ok (.invokevirtual 140, 3) := by decide +kernel
theorem dX10_tenth_45 : decode cX10_tenth 45 = .ok (.iadd, 1) := by decide +kernel
theorem dX10_tenth_46 : decode cX10_tenth 46 = .ok (.istore_n 3, 1) := by decide +kernel
theorem dX10_tenth_47 : decode cX10_tenth 47 = .ok (.iload_n 3, 1) := by decide +kernel
theorem dX10_tenth_48 : decode cX10_tenth 48 = .ok (.bipush (-99), 2) := by decide +kernel
theorem dX10_tenth_50 : decode cX10_tenth 50 = .ok (.bipush 99, 2) := by decide +kernel
theorem dX10_tenth_52 : decode cX10_tenth 52 = .ok (.invokestatic 79, 3) := by decide +kernel
theorem dX10_tenth_55 : decode cX10_tenth 55 = .ok (.ifCond .eq 71, 3) := by decide +kernel
theorem dX10_tenth_58 : decode cX10_tenth 58 = .ok (.aload_n 0, 1) := by decide +kernel
theorem dX10_tenth_59 : decode cX10_tenth 59 = .ok (.iload_n 1, 1) := by decide +kernel
theorem dX10_tenth_60 : decode cX10_tenth 60 = .ok (.invokevirtual 239, 3) := by decide +kernel
theorem dX10_tenth_63 : decode cX10_tenth 63 = .ok (.istore 4, 2) := by decide +kernel
theorem dX10_tenth_65 : decode cX10_tenth 65 = .ok (.aload_n 0, 1) := by decide +kernel
theorem dX10_tenth_66 : decode cX10_tenth 66 = .ok (.getfield 9, 3) := by decide +kernel
theorem dX10_tenth_69 : decode cX10_tenth 69 = .ok (.iconst 1, 1) := by decide +kernel
theorem dX10_tenth_70 : decode cX10_tenth 70 = .ok (.iload 4, 2) := by decide +kernel
theorem dX10_tenth_72 : decode cX10_tenth 72 = .ok (.ifCond .eq 26, 3) := by decide +kernel
theorem dX10_tenth_75 : decode cX10_tenth 75 = .ok (.iload_n 3, 1) := by decide +kernel
theorem dX10_tenth_76 : decode cX10_tenth 76 = .ok (.iconst 0, 1) := by decide +kernel
theorem dX10_tenth_77 : decode cX10_tenth 77 = .ok (.aload_n 0, 1) := by decide +kernel
theorem dX10_tenth_78 : decode cX10_tenth 78 = .ok (.iload_n 1, 1) := by decide +kernel
theorem dX10_tenth_79 : decode cX10_tenth 79 = .ok (.invokevirtual 152, 3) := by decide +kernel
theorem dX10_tenth_82 : decode cX10_tenth 82 = .ok (.iconst 2, 1) := by decide +kernel
theorem dX10_tenth_83 : decode cX10_tenth 83 = .ok (.aload_n 0, 1) := by decide +kernel
theorem dX10_tenth_84 : decode cX10_tenth 84 = .ok (.invokevirtual 242, 3) := by decide +kernel
theorem dX10_tenth_87 : decode cX10_tenth 87 = .ok (.imul, 1) := by decide +kernel
theorem dX10_tenth_88 : decode cX10_tenth 88 = .ok (.isub, 1) := by decide +kernel
theorem dX10_tenth_89 : decode cX10_tenth 89 = .ok (.invokestatic 76, 3) := by decide +kernel
theorem dX10_tenth_92 : decode cX10_tenth 92 = .ok (.invokestatic 245, 3) := by decide +kernel
theorem dX10_tenth_95 : decode cX10_tenth 95 = .ok (.goto 4, 3) := by decide +kernel
theorem dX10_tenth_98 : decode cX10_tenth 98 = .ok (.iload_n 3, 1) := by decide +kernel
theorem dX10_tenth_99 : decode cX10_tenth 99 = .ok (.iastore, 1) := by decide +kernel
theorem dX10_tenth_100 : decode cX10_tenth 100 = .ok (.iload 4, 2) := by decide +kernel
theorem dX10_tenth_102 : decode cX10_tenth 102 = .ok (.ifCond .eq 21, 3) := by decide +kernel
theorem dX10_tenth_105 : decode cX10_tenth 105 = .ok (.aload_n 0, 1) := by decide +kernel
theorem dX10_tenth_106 : decode cX10_tenth 106 = .ok (.bipush 8, 2) := by decide +kernel
theorem dX10_tenth_108 : decode cX10_tenth 108 = .ok (.iconst 1, 1) := by decide +kernel
theorem dX10_tenth_109 : decode cX10_tenth 109 = .ok (.invokevirtual 229, 3) := by decide +kernel
theorem dX10_tenth_112 : decode cX10_tenth 112 = .ok (.aload_n 0, 1) := by decide +kernel
theorem dX10_tenth_113 : decode cX10_tenth 113 = .ok (.bipush 10, 2) := by decide +kernel
theorem dX10_tenth_115 : decode cX10_tenth 115 = .ok (.aload_n 0, 1) := by decide +kernel
theorem dX10_tenth_116 : decode cX10_tenth 116 = .ok (.iload_n 1, 1) := by decide +kernel
theorem dX10_tenth_117 : decode cX10_tenth 117 = .ok (.invokevirtual 248, 3) := by decide +kernel
theorem dX10_tenth_120 : decode cX10_tenth 120 = .ok (.invokevirtual 229, 3) := by decide +kernel
theorem dX10_tenth_123 : decode cX10_tenth 123 = .ok (.goto 7, 3) := by decide +kernel
theorem dX10_tenth_126 : decode cX10_tenth 126 = .ok (.aload_n 0, 1) := by decide +kernel
theorem dX10_tenth_127 : decode cX10_tenth 127 = .ok (.invokevirtual 251, 3) := by decide +kernel
theorem dX10_tenth_130 : decode cX10_tenth 130 = .ok (.aload_n 0, 1) := by decide +kernel
theorem dX10_tenth_131 : decode cX10_tenth 131 = .ok (.invokevirtual 254, 3) := by decide +kernel
theorem dX10_tenth_134 : decode cX10_tenth 134 = .ok (.return_, 1) := by decide +kernel
theorem dX10_tenthsGo_0 : decode cX10_tenthsGo 0 = .ok (.iconst 0, 1) := by decide +kernel
theorem dX10_tenthsGo_1 : decode cX10_tenthsGo 1 = .ok (.istore_n 2, 1) := by decide +kernel
theorem dX10_tenthsGo_2 : decode cX10_tenthsGo 2 = .ok (.iload_n 2, 1) := by decide +kernel
theorem dX10_tenthsGo_3 : decode cX10_tenthsGo 3 = .ok (.iload_n 1, 1) := by decide +kernel
theorem dX10_tenthsGo_4 : decode cX10_tenthsGo 4 = .ok (.if_icmp .ge 23, 3) := by decide +kernel
theorem dX10_tenthsGo_7 : decode cX10_tenthsGo 7 = .ok (.aload_n 0, 1) := by decide +kernel
theorem dX10_tenthsGo_8 : decode cX10_tenthsGo 8 = .ok (.getfield 9, 3) := by decide +kernel
theorem dX10_tenthsGo_11 : decode cX10_tenthsGo 11 = .ok (.bipush 15, 2) := by decide +kernel
theorem dX10_tenthsGo_13 : decode cX10_tenthsGo 13 = .ok (.iaload, 1) := by decide +kernel
theorem dX10_tenthsGo_14 : decode cX10_tenthsGo 14 = .ok (.ifCond .le 13, 3) := by decide +kernel
theorem dX10_tenthsGo_17 : decode cX10_tenthsGo 17 = .ok (.aload_n 0, 1) := by decide +kernel
theorem dX10_tenthsGo_18 : decode cX10_tenthsGo 18 = .ok (.invokevirtual 257, 3) := by decide +kernel
theorem dX10_tenthsGo_21 : decode cX10_tenthsGo 21 = .ok (.iinc 2 1, 3) := by decide +kernel
theorem dX10_tenthsGo_24 : decode cX10_tenthsGo 24 = .ok (.goto (-22), 3) := by decide +kernel
theorem dX10_tenthsGo_27 : decode cX10_tenthsGo 27 = .ok (.return_, 1) := by decide +kernel
theorem dX10_tenths_0 : decode cX10_tenths 0 = .ok (.iload_n 1, 1) := by decide +kernel
theorem dX10_tenths_1 : decode cX10_tenths 1 = .ok (.iconst 1, 1) := by decide +kernel
theorem dX10_tenths_2 : decode cX10_tenths 2 = .ok (.sipush 200, 3) := by decide +kernel
theorem dX10_tenths_5 : decode cX10_tenths 5 = .ok (.invokestatic 79, 3) := by decide +kernel
theorem dX10_tenths_8 : decode cX10_tenths 8 = .ok (.ifCond .ne 10, 3) := by decide +kernel
theorem dX10_tenths_11 : decode cX10_tenths 11 = .ok (.aload_n 0, 1) := by decide +kernel
theorem dX10_tenths_12 : decode cX10_tenths 12 = .ok (.ldc 91, 2) := by decide +kernel
theorem dX10_tenths_14 : decode cX10_tenths 14 = .ok (.invokevirtual 92, 3) := by decide +kernel
theorem dX10_tenths_17 : decode cX10_tenths 17 = .ok (.ireturn, 1) := by decide +kernel
theorem dX10_tenths_18 : decode cX10_tenths 18 = .ok (.aload_n 0, 1) := by decide +kernel
theorem dX10_tenths_19 : decode cX10_tenths 19 = .ok (.getfield 9, 3) := by decide +kernel
theorem dX10_tenths_22 : decode cX10_tenths 22 = .ok (.bipush 15, 2) := by decide +kernel
theorem dX10_tenths_24 : decode cX10_tenths 24 = .ok (.iaload, 1) := by decide +kernel
theorem dX10_tenths_25 : decode cX10_tenths 25 = .ok (.ifCond .ne 11, 3) := by decide +kernel
theorem dX10_tenths_28 : decode cX10_tenths 28 = .ok (.aload_n 0, 1) := by decide +kernel
theorem dX10_tenths_29 : decode cX10_tenths 29 = .ok (.ldc_w 260, 3) := by decide +kernel
theorem dX10_tenths_32 : decode cX10_tenths 32 = .ok (.invokevirtual 92, 3) := by decide +kernel
theorem dX10_tenths_35 : decode cX10_tenths 35 = .ok (.ireturn, 1) := by decide +kernel
theorem dX10_tenths_36 : decode cX10_tenths 36 = .ok (.aload_n 0, 1) := by decide +kernel
theorem dX10_tenths_37 : decode cX10_tenths 37 = .ok (.iload_n 1, 1) := by decide +kernel
theorem dX10_tenths_38 : decode cX10_tenths 38 = .ok (.invokevirtual 261, 3) := by decide +kernel
theorem dX10_tenths_41 : decode cX10_tenths 41 = .ok (.aload_n 0, 1) := by decide +kernel
theorem dX10_tenths_42 : decode cX10_tenths 42 = .ok (.getfield 9, 3) := by decide +kernel
theorem dX10_tenths_45 : decode cX10_tenths 45 = .ok (.bipush 7, 2) := by decide +kernel
theorem dX10_tenths_47 : decode cX10_tenths 47 = .ok (.iaload, 1) := by decide +kernel
theorem dX10_tenths_48 : decode cX10_tenths 48 = .ok (.ireturn, 1) := by decide +kernel
theorem dX10_days_0 : decode cX10_days 0 = .ok (.iload_n 1, 1) := by decide +kernel
theorem dX10_days_1 : decode cX10_days 1 = .ok (.iconst 1, 1) := by decide +kernel
theorem dX10_days_2 : decode cX10_days 2 = .ok (.bipush 60, 2) := by decide +kernel
theorem dX10_days_4 : decode cX10_days 4 = .ok (.invokestatic 79, 3) := by decide +kernel
theorem dX10_days_7 : decode cX10_days 7 = .ok (.ifCond .ne 10, 3) := by decide +kernel
theorem dX10_days_10 : decode cX10_days 10 = .ok (.aload_n 0, 1) := by decide +kernel
theorem dX10_days_11 : decode cX10_days 11 = .ok (.ldc 91, 2) := by decide +kernel
theorem dX10_days_13 : decode cX10_days 13 = .ok (.invokevirtual 92, 3) := by decide +kernel
theorem dX10_days_16 : decode cX10_days 16 = .ok (.ireturn, 1) := by decide +kernel
theorem dX10_days_17 : decode cX10_days 17 = .ok (.aload_n 0, 1) := by decide +kernel
theorem dX10_days_18 : decode cX10_days 18 = .ok (.getfield 9, 3) := by decide +kernel
theorem dX10_days_21 : decode cX10_days 21 = .ok (.bipush 13, 2) := by decide +kernel
theorem dX10_days_23 : decode cX10_days 23 = .ok (.iaload, 1) := by decide +kernel
theorem dX10_days_24 : decode cX10_days 24 = .ok (.iload_n 1, 1) := by decide +kernel
theorem dX10_days_25 : decode cX10_days 25 = .ok (.iadd, 1) := by decide +kernel
theorem dX10_days_26 : decode cX10_days 26 = .ok (.sipush 9999, 3) := by decide +kernel
theorem dX10_days_29 : decode cX10_days 29 = .ok (.if_icmp .le 11, 3) := by decide +kernel
theorem dX10_days_32 : decode cX10_days 32 = .ok (.aload_n 0, 1) := by decide +kernel
theorem dX10_days_33 : decode cX10_days 33 = .ok (.ldc_w 260, 3) := by decide +kernel
theorem dX10_days_36 : decode cX10_days 36 = .ok (.invokevirtual 92, 3) := by decide +kernel
theorem dX10_days_39 : decode cX10_days 39 = .ok (.ireturn, 1) := by decide +kernel
theorem dX10_days_40 : decode cX10_days 40 = .ok (.iconst 0, 1) := by decide +kernel
theorem dX10_days_41 : decode cX10_days 41 = .ok (.istore_n 2, 1) := by decide +kernel
theorem dX10_days_42 : decode cX10_days 42 = .ok (.iload_n 2, 1) := by decide +kernel
theorem dX10_days_43 : decode cX10_days 43 = .ok (.iload_n 1, 1) := by decide +kernel
theorem dX10_days_44 : decode cX10_days 44 = .ok (.if_icmp .ge 61, 3) := by decide +kernel
theorem dX10_days_47 : decode cX10_days 47 = .ok (.aload_n 0, 1) := by decide +kernel
theorem dX10_days_48 : decode cX10_days 48 = .ok (.getfield 9, 3) := by decide +kernel
theorem dX10_days_51 : decode cX10_days 51 = .ok (.bipush 13, 2) := by decide +kernel
theorem dX10_days_53 : decode cX10_days 53 = .ok (.dup2, 1) := by decide +kernel
theorem dX10_days_54 : decode cX10_days 54 = .ok (.iaload, 1) := by decide +kernel
theorem dX10_days_55 : decode cX10_days 55 = .ok (.iconst 1, 1) := by decide +kernel
theorem dX10_days_56 : decode cX10_days 56 = .ok (.iadd, 1) := by decide +kernel
theorem dX10_days_57 : decode cX10_days 57 = .ok (.iastore, 1) := by decide +kernel
theorem dX10_days_58 : decode cX10_days 58 = .ok (.aload_n 0, 1) := by decide +kernel
theorem dX10_days_59 : decode cX10_days 59 = .ok (.getfield 9, 3) := by decide +kernel
theorem dX10_days_62 : decode cX10_days 62 = .ok (.iconst 5, 1) := by decide +kernel
theorem dX10_days_63 : decode cX10_days 63 = .ok (.aload_n 0, 1) := by decide +kernel
theorem dX10_days_64 : decode cX10_days 64 = .ok (.getfield 9, 3) := by decide +kernel
theorem dX10_days_67 : decode cX10_days 67 = .ok (.bipush 13, 2) := by decide +kernel
theorem dX10_days_69 : decode cX10_days 69 = .ok (.iaload, 1) := by decide +kernel
theorem dX10_days_70 : decode cX10_days 70 = .ok (.bipush 7, 2) := by decide +kernel
theorem dX10_days_72 : decode cX10_days 72 = .ok (.irem, 1) := by decide +kernel
theorem dX10_days_73 : decode cX10_days 73 = .ok (.ifCond .ne 19, 3) := by decide +kernel
theorem dX10_days_76 : decode cX10_days 76 = .ok (.bipush 60, 2) := by decide +kernel
theorem dX10_days_78 : decode cX10_days 78 = .ok (.aload_n 0, 1) := by decide +kernel
theorem dX10_days_79 : decode cX10_days 79 = .ok (.getfield 9, 3) := by decide +kernel
theorem dX10_days_82 : decode cX10_days 82 = .ok (.iconst 5, 1) := by decide +kernel
theorem dX10_days_83 : decode cX10_days 83 = .ok (.iaload, 1) := by decide +kernel
theorem dX10_days_84 : decode cX10_days 84 = .ok (.iconst 1, 1) := by decide +kernel
theorem dX10_days_85 : decode cX10_days 85 = .ok (.iadd, 1) := by decide +kernel
theorem dX10_days_86 : decode cX10_days 86 = .ok (.invokestatic 70, 3) := by decide +kernel
theorem dX10_days_89 : decode cX10_days 89 = .ok (.goto 9, 3) := by decide +kernel
theorem dX10_days_92 : decode cX10_days 92 = .ok (.aload_n 0, 1) := by decide +kernel
theorem dX10_days_93 : decode cX10_days 93 = .ok (.getfield 9, 3) := by decide +kernel
theorem dX10_days_96 : decode cX10_days 96 = .ok (.iconst 5, 1) := by decide +kernel
theorem dX10_days_97 : decode cX10_days 97 = .ok (.iaload, 1) := by decide +kernel
theorem dX10_days_98 : decode cX10_days 98 = .ok (.iastore, 1) := by decide +kernel
theorem dX10_days_99 : decode cX10_days 99 = .ok (.iinc 2 1, 3) := by decide +kernel
theorem dX10_days_102 : decode cX10_days 102 = .ok (.goto (-60), 3) := by decide +kernel
theorem dX10_days_105 : decode cX10_days 105 = .ok (.aload_n 0, 1) := by decide +kernel
theorem dX10_days_106 : decode cX10_days 106 = .ok (.getfield 9, 3) := by decide +kernel
theorem dX10_days_109 : decode cX10_days 109 = .ok (.iconst 0, 1) := by decide +kernel
theorem dX10_days_110 : decode cX10_days 110 = .ok (.iconst 0, 1) := by decide +kernel
theorem dX10_days_111 : decode cX10_days 111 = .ok (.iastore, 1) := by decide +kernel
theorem dX10_days_112 : decode cX10_days 112 = .ok (.aload_n 0, 1) := by decide +kernel
theorem dX10_days_113 : decode cX10_days 113 = .ok (.getfield 9, 3) := by decide +kernel
theorem dX10_days_116 : decode cX10_days 116 = .ok (.iconst 1, 1) := by decide +kernel
theorem dX10_days_117 : decode cX10_days 117 = .ok (.iconst 0, 1) := by decide +kernel
theorem dX10_days_118 : decode cX10_days 118 = .ok (.iastore, 1) := by decide +kernel
theorem dX10_days_119 : decode cX10_days 119 = .ok (.aload_n 0, 1) := by decide +kernel
theorem dX10_days_120 : decode cX10_days 120 = .ok (.iconst 0, 1) := by decide +kernel
theorem dX10_days_121 : decode cX10_days 121 = .ok (.invokevirtual 128, 3) := by decide +kernel
theorem dX10_days_124 : decode cX10_days 124 = .ok (.aload_n 0, 1) := by decide +kernel
theorem dX10_days_125 : decode cX10_days 125 = .ok (.getfield 9, 3) := by decide +kernel
theorem dX10_days_128 : decode cX10_days 128 = .ok (.iconst 5, 1) := by decide +kernel
theorem dX10_days_129 : decode cX10_days 129 = .ok (.iaload, 1) := by decide +kernel
theorem dX10_days_130 : decode cX10_days 130 = .ok (.ireturn, 1) := by decide +kernel
theorem dX10_seed_0 : decode cX10_seed 0 = .ok (.aload_n 0, 1) := by decide +kernel
theorem dX10_seed_1 : decode cX10_seed 1 = .ok (.bipush 18, 2) := by decide +kernel
theorem dX10_seed_3 : decode cX10_seed 3 = .ok (.iload_n 1, 1) := by decide +kernel
theorem dX10_seed_4 : decode cX10_seed 4 = .ok (.invokevirtual 88, 3) := by decide +kernel
theorem dX10_seed_7 : decode cX10_seed 7 = .ok (.ireturn, 1) := by decide +kernel
theorem dX10_isAhead_0 : decode cX10_isAhead 0 = .ok (.iload_n 0, 1) := by decide +kernel
theorem dX10_isAhead_1 : decode cX10_isAhead 1 = .ok (.iconst 0, 1) := by decide +kernel
theorem dX10_isAhead_2 : decode cX10_isAhead 2 = .ok (.sipush 200, 3) := by decide +kernel
theorem dX10_isAhead_5 : decode cX10_isAhead 5 = .ok (.invokestatic 79, 3) := by decide +kernel
theorem dX10_isAhead_8 : decode cX10_isAhead 8 = .ok (.ireturn, 1) := by decide +kernel
theorem dX10_then_0 : decode cX10_then 0 = .ok (.iload_n 1, 1) := by decide +kernel
theorem dX10_then_1 : decode cX10_then 1 = .ok (.invokestatic 264, 3) := by decide +kernel
theorem dX10_then_4 : decode cX10_then 4 = .ok (.ifCond .eq 13, 3) := by decide +kernel
theorem dX10_then_7 : decode cX10_then 7 = .ok (.iload_n 2, 1) := by decide +kernel
theorem dX10_then_8 : decode cX10_then 8 = .ok (.iconst 0, 1) := by decide +kernel
theorem dX10_then_9 : decode cX10_then 9 = .ok (.bipush 13, 2) := by decide +kernel
theorem dX10_then_11 : decode cX10_then 11 = .ok (.invokestatic 79, 3) := by decide +kernel
theorem dX10_then_14 : decode cX10_then 14 = .ok (.ifCond .ne 10, 3) := by decide +kernel
theorem dX10_then_17 : decode cX10_then 17 = .ok (.aload_n 0, 1) := by decide +kernel
theorem dX10_then_18 : decode cX10_then 18 = .ok (.ldc 91, 2) := by decide +kernel
theorem dX10_then_20 : decode cX10_then 20 = .ok (.invokevirtual 92, 3) := by decide +kernel
theorem dX10_then_23 : decode cX10_then 23 = .ok (.ireturn, 1) := by decide +kernel
theorem dX10_then_24 : decode cX10_then 24 = .ok (.aload_n 0, 1) := by decide +kernel
theorem dX10_then_25 : decode cX10_then 25 = .ok (.getfield 9, 3) := by decide +kernel
theorem dX10_then_28 : decode cX10_then 28 = .ok (.aload_n 0, 1) := by decide +kernel
theorem dX10_then_29 : decode cX10_then 29 = .ok (.getfield 16, 3) := by decide +kernel
theorem dX10_then_32 : decode cX10_then 32 = .ok (.invokestatic 83, 3) := by decide +kernel
theorem dX10_then_35 : decode cX10_then 35 = .ok (.aload_n 0, 1) := by decide +kernel
theorem dX10_then_36 : decode cX10_then 36 = .ok (.iload_n 1, 1) := by decide +kernel
theorem dX10_then_37 : decode cX10_then 37 = .ok (.invokevirtual 261, 3) := by decide +kernel
theorem dX10_then_40 : decode cX10_then 40 = .ok (.aload_n 0, 1) := by decide +kernel
theorem dX10_then_41 : decode cX10_then 41 = .ok (.aload_n 0, 1) := by decide +kernel
theorem dX10_then_42 : decode cX10_then 42 = .ok (.getfield 9, 3) := by decide +kernel
theorem dX10_then_45 : decode cX10_then 45 = .ok (.iload_n 2, 1) := by decide +kernel
theorem dX10_then_46 : decode cX10_then 46 = .ok (.iaload, 1) := by decide +kernel
theorem dX10_then_47 : decode cX10_then 47 = .ok (.invokevirtual 267, 3) := by decide +kernel
theorem dX10_then_50 : decode cX10_then 50 = .ok (.ireturn, 1) := by decide +kernel
theorem dX10_rowsGo_0 : decode cX10_rowsGo 0 = .ok (.aload_n 0, 1) := by decide +kernel
theorem dX10_rowsGo_1 : decode cX10_rowsGo 1 = .ok (.getfield 9, 3) := by decide +kernel
theorem dX10_rowsGo_4 : decode cX10_rowsGo 4 = .ok (.bipush 11, 2) := by decide +kernel
theorem dX10_rowsGo_6 : decode cX10_rowsGo 6 = .ok (.iaload, 1) := by decide +kernel
theorem dX10_rowsGo_7 : decode cX10_rowsGo 7 = .ok (.istore_n 1, 1) := by decide +kernel
theorem dX10_rowsGo_8 : decode cX10_rowsGo 8 = .ok (.aload_n 0, 1) := by decide +kernel
theorem dX10_rowsGo_9 : decode cX10_rowsGo 9 = .ok (.iload_n 1, 1) := by decide +kernel
theorem dX10_rowsGo_10 : decode cX10_rowsGo 10 = .ok (.invokevirtual 143, 3) := by decide +kernel
theorem dX10_rowsGo_13 : decode cX10_rowsGo 13 = .ok (.istore_n 2, 1) := by decide +kernel
theorem dX10_rowsGo_14 : decode cX10_rowsGo 14 = .ok (.aload_n 0, 1) := by decide +kernel
theorem dX10_rowsGo_15 : decode cX10_rowsGo 15 = .ok (.iload_n 1, 1) := by decide +kernel
theorem dX10_rowsGo_16 : decode cX10_rowsGo 16 = .ok (.invokevirtual 239, 3) := by decide +kernel
theorem dX10_rowsGo_19 : decode cX10_rowsGo 19 = .ok (.istore_n 3, 1) := by decide +kernel
theorem dX10_rowsGo_20 : decode cX10_rowsGo 20 = .ok (.iconst 0, 1) := by decide +kernel
theorem dX10_rowsGo_21 : decode cX10_rowsGo 21 = .ok (.aload_n 0, 1) := by decide +kernel
theorem dX10_rowsGo_22 : decode cX10_rowsGo 22 = .ok (.iload_n 1, 1) := by decide +kernel
theorem dX10_rowsGo_23 : decode cX10_rowsGo 23 = .ok (.invokevirtual 152, 3) := by decide +kernel
theorem dX10_rowsGo_26 : decode cX10_rowsGo 26 = .ok (.iconst 2, 1) := by decide +kernel
theorem dX10_rowsGo_27 : decode cX10_rowsGo 27 = .ok (.aload_n 0, 1) := by decide +kernel
theorem dX10_rowsGo_28 : decode cX10_rowsGo 28 = .ok (.invokevirtual 242, 3) := by decide +kernel
theorem dX10_rowsGo_31 : decode cX10_rowsGo 31 = .ok (.imul, 1) := by decide +kernel
theorem dX10_rowsGo_32 : decode cX10_rowsGo 32 = .ok (.isub, 1) := by decide +kernel
theorem dX10_rowsGo_33 : decode cX10_rowsGo 33 = .ok (.invokestatic 76, 3) := by decide +kernel
theorem dX10_rowsGo_36 : decode cX10_rowsGo 36 = .ok (.istore 4, 2) := by decide +kernel
theorem dX10_rowsGo_38 : decode cX10_rowsGo 38 = .ok (.iconst 0, 1) := by decide +kernel
theorem dX10_rowsGo_39 : decode cX10_rowsGo 39 = .ok (.istore 5, 2) := by decide +kernel
theorem dX10_rowsGo_41 : decode cX10_rowsGo 41 = .ok (.iload 5, 2) := by decide +kernel
theorem dX10_rowsGo_43 : decode cX10_rowsGo 43 = .ok (.aload_n 0, 1) := by decide +kernel
theorem dX10_rowsGo_44 : decode cX10_rowsGo 44 = .ok (.getfield 51, 3) := by decide +kernel
theorem dX10_rowsGo_47 : decode cX10_rowsGo 47 = .ok (.arraylength, 1) := by decide +kernel
theorem dX10_rowsGo_48 : decode cX10_rowsGo 48 = .ok (.if_icmp .ge 17, 3) := by decide +kernel
theorem dX10_rowsGo_51 : decode cX10_rowsGo 51 = .ok (.aload_n 0, 1) := by decide +kernel
theorem dX10_rowsGo_52 : decode cX10_rowsGo 52 = .ok (.getfield 51, 3) := by decide +kernel
theorem dX10_rowsGo_55 : decode cX10_rowsGo 55 = .ok (.iload 5, 2) := by decide +kernel
theorem dX10_rowsGo_57 : decode cX10_rowsGo 57 = .ok (.lconst 0, 1) := by decide +kernel
theorem dX10_rowsGo_58 : decode cX10_rowsGo 58 = .ok (.lastore, 1) := by decide +kernel
theorem dX10_rowsGo_59 : decode cX10_rowsGo 59 = .ok (.iinc 5 1, 3) := by decide +kernel
theorem dX10_rowsGo_62 : decode cX10_rowsGo 62 = .ok (.goto (-21), 3) := by decide +kernel
theorem dX10_rowsGo_65 : decode cX10_rowsGo 65 = .ok (.aload_n 0, 1) := by decide +kernel
theorem dX10_rowsGo_66 : decode cX10_rowsGo 66 = .ok (.dup, 1) := by decide +kernel
theorem dX10_rowsGo_67 : decode cX10_rowsGo 67 = .ok (.getfield 270, 3) := by decide +kernel
theorem dX10_rowsGo_70 : decode cX10_rowsGo 70 = .ok (.iconst 2, 1) := by decide +kernel
theorem dX10_rowsGo_71 : decode cX10_rowsGo 71 = .ok (.iload_n 2, 1) := by decide +kernel
theorem dX10_rowsGo_72 : decode cX10_rowsGo 72 = .ok (.imul, 1) := by decide +kernel
theorem dX10_rowsGo_73 : decode cX10_rowsGo 73 = .ok (.iconst 1, 1) := by decide +kernel
theorem dX10_rowsGo_74 : decode cX10_rowsGo 74 = .ok (.iadd, 1) := by decide +kernel
theorem dX10_rowsGo_75 : decode cX10_rowsGo 75 = .ok (.i2l, 1) := by decide +kernel
theorem dX10_rowsGo_76 : decode cX10_rowsGo 76 = .ok (.lmul, 1) := by decide +kernel
theorem dX10_rowsGo_77 : decode cX10_rowsGo 77 = .ok (.putfield 270, 3) := by decide +kernel
theorem dX10_rowsGo_80 : decode cX10_rowsGo 80 = .ok (.aload_n 0, 1) := by decide +kernel
theorem dX10_rowsGo_81 : decode cX10_rowsGo 81 = .ok (.dup, 1) := by decide +kernel
theorem dX10_rowsGo_82 : decode cX10_rowsGo 82 = .ok (.getfield 274, 3) := by decide +kernel
theorem dX10_rowsGo_85 : decode cX10_rowsGo 85 = .ok (.iconst 2, 1) := by decide +kernel
theorem dX10_rowsGo_86 : decode cX10_rowsGo 86 = .ok (.iload_n 2, 1) := by decide +kernel
theorem dX10_rowsGo_87 : decode cX10_rowsGo 87 = .ok (.imul, 1) := by decide +kernel
theorem dX10_rowsGo_88 : decode cX10_rowsGo 88 = .ok (.iconst 1, 1) := by decide +kernel
theorem dX10_rowsGo_89 : decode cX10_rowsGo 89 = .ok (.iadd, 1) := by decide +kernel
theorem dX10_rowsGo_90 : decode cX10_rowsGo 90 = .ok (.i2l, 1) := by decide +kernel
theorem dX10_rowsGo_91 : decode cX10_rowsGo 91 = .ok (.lmul, 1) := by decide +kernel
theorem dX10_rowsGo_92 : decode cX10_rowsGo 92 = .ok (.putfield 274, 3) := by decide +kernel
theorem dX10_rowsGo_95 : decode cX10_rowsGo 95 = .ok (.iconst 0, 1) := by decide +kernel
theorem dX10_rowsGo_96 : decode cX10_rowsGo 96 = .ok (.istore 5, 2) := by decide +kernel
theorem dX10_rowsGo_98 : decode cX10_rowsGo 98 = .ok (.iload 5, 2) := by decide +kernel
theorem dX10_rowsGo_100 : decode cX10_rowsGo 100 = .ok (.aload_n 0, 1) := by decide +kernel
theorem dX10_rowsGo_101 : decode cX10_rowsGo 101 = .ok (.getfield 47, 3) := by decide +kernel
theorem dX10_rowsGo_104 : decode cX10_rowsGo 104 = .ok (.arraylength, 1) := by decide +kernel
theorem dX10_rowsGo_105 : decode cX10_rowsGo 105 = .ok (.if_icmp .ge 126, 3) := by decide +kernel
theorem dX10_rowsGo_108 : decode cX10_rowsGo 108 = .ok (.iload_n 2, 1) := by decide +kernel
theorem dX10_rowsGo_109 : decode cX10_rowsGo 109 = .ok (.ineg, 1) := by decide +kernel
theorem dX10_rowsGo_110 : decode cX10_rowsGo 110 = .ok (.istore 6, 2) := by decide +kernel
theorem dX10_rowsGo_112 : decode cX10_rowsGo 112 = .ok (.iload 6, 2) := by decide +kernel
theorem dX10_rowsGo_114 : decode cX10_rowsGo 114 = .ok (.iload_n 2, 1) := by decide +kernel
theorem dX10_rowsGo_115 : decode cX10_rowsGo 115 = .ok (.if_icmp .gt 110, 3) := by decide +kernel
theorem dX10_rowsGo_118 : decode cX10_rowsGo 118 = .ok (.aload_n 0, 1) := by decide +kernel
theorem dX10_rowsGo_119 : decode cX10_rowsGo 119 = .ok (.getfield 47, 3) := by decide +kernel
theorem dX10_rowsGo_122 : decode cX10_rowsGo 122 = .ok (.iload 5, 2) := by decide +kernel
theorem dX10_rowsGo_124 : decode cX10_rowsGo 124 = .ok (.laload, 1) := by decide +kernel
theorem dX10_rowsGo_125 : decode cX10_rowsGo 125 = .ok (.lconst 0, 1) := by decide +kernel
theorem dX10_rowsGo_126 : decode cX10_rowsGo 126 = .ok (.lcmp, 1) := by decide +kernel
theorem dX10_rowsGo_127 : decode cX10_rowsGo 127 = .ok (.ifCond .le 98, 3) := by decide +kernel
theorem dX10_rowsGo_130 : decode cX10_rowsGo 130 = .ok (.iload 5, 2) := by decide +kernel
theorem dX10_rowsGo_132 : decode cX10_rowsGo 132 = .ok (.bipush 99, 2) := by decide +kernel
theorem dX10_rowsGo_134 : decode cX10_rowsGo 134 = .ok (.isub, 1) := by decide +kernel
theorem dX10_rowsGo_135 : decode cX10_rowsGo 135 = .ok (.istore 7, 2) := by decide +kernel
theorem dX10_rowsGo_137 : decode cX10_rowsGo 137 = .ok (.iload 7, 2) := by decide +kernel
theorem dX10_rowsGo_139 : decode cX10_rowsGo 139 = .ok (.iload 7, 2) := by decide +kernel
theorem dX10_rowsGo_141 : decode cX10_rowsGo 141 = .ok (.iconst 5, 1) := by decide +kernel
theorem dX10_rowsGo_142 : decode cX10_rowsGo 142 = .ok (.idiv, 1) := by decide +kernel
theorem dX10_rowsGo_143 : decode cX10_rowsGo 143 = .ok (.iadd, 1) := by decide +kernel
theorem dX10_rowsGo_144 : decode cX10_rowsGo 144 = .ok (.iload 6, 2) := by decide +kernel
theorem dX10_rowsGo_146 : decode cX10_rowsGo 146 = .ok (.iadd, 1) := by decide +kernel
theorem dX10_rowsGo_147 : decode cX10_rowsGo 147 = .ok (.aload_n 0, 1) := by decide +kernel
theorem dX10_rowsGo_148 : decode cX10_rowsGo 148 = .ok (.invokevirtual 140, 3) := by decide +kernel
theorem dX10_rowsGo_151 : decode cX10_rowsGo 151 = .ok (.iadd, 1) := by decide +kernel
theorem dX10_rowsGo_152 : decode cX10_rowsGo 152 = .ok (.istore 8, 2) := by decide +kernel
theorem dX10_rowsGo_154 : decode cX10_rowsGo 154 = .ok (.iload 8, 2) := by decide +kernel
theorem dX10_rowsGo_156 : decode cX10_rowsGo 156 = .ok (.bipush (-99), 2) := by decide +kernel
theorem dX10_rowsGo_158 : decode cX10_rowsGo 158 = .ok (.bipush 99, 2) := by decide +kernel
theorem dX10_rowsGo_160 : decode cX10_rowsGo 160 = .ok (.invokestatic 79, 3) := by decide +kernel
theorem dX10_rowsGo_163 : decode cX10_rowsGo 163 = .ok (.ifCond .eq 40, 3) := by decide +kernel
theorem dX10_rowsGo_166 : decode cX10_rowsGo 166 = .ok (.aload_n 0, 1) := by decide +kernel
theorem dX10_rowsGo_167 : decode cX10_rowsGo 167 = .ok (.getfield 51, 3) := by decide +kernel
theorem dX10_rowsGo_170 : decode cX10_rowsGo 170 = .ok (.bipush 99, 2) := by decide +kernel
theorem dX10_rowsGo_172 : decode cX10_rowsGo 172 = .ok (.iload_n 3, 1) := by decide +kernel
theorem dX10_rowsGo_173 : decode cX10_rowsGo 173 = .ok (.ifCond .eq 13, 3) := by decide +kernel
theorem dX10_rowsGo_176 : decode cX10_rowsGo 176 = .ok (.iload 8, 2) := by decide +kernel
theorem dX10_rowsGo_178 : decode cX10_rowsGo 178 = .ok (.iload 4, 2) := by decide +kernel
theorem dX10_rowsGo_180 : decode cX10_rowsGo 180 = .ok (.invokestatic 245, 3) := by decide +kernel
theorem dX10_rowsGo_183 : decode cX10_rowsGo 183 = .ok (.goto 5, 3) := by decide +kernel
theorem dX10_rowsGo_186 : decode cX10_rowsGo 186 = .ok (.iload 8, 2) := by decide +kernel
theorem dX10_rowsGo_188 : decode cX10_rowsGo 188 = .ok (.iadd, 1) := by decide +kernel
theorem dX10_rowsGo_189 : decode cX10_rowsGo 189 = .ok (.dup2, 1) := by decide +kernel
theorem dX10_rowsGo_190 : decode cX10_rowsGo 190 = .ok (.laload, 1) := by decide +kernel
theorem dX10_rowsGo_191 : decode cX10_rowsGo 191 = .ok (.aload_n 0, 1) := by decide +kernel
theorem dX10_rowsGo_192 : decode cX10_rowsGo 192 = .ok (.getfield 47, 3) := by decide +kernel
theorem dX10_rowsGo_195 : decode cX10_rowsGo 195 = .ok (.iload 5, 2) := by decide +kernel
theorem dX10_rowsGo_197 : decode cX10_rowsGo 197 = .ok (.laload, 1) := by decide +kernel
theorem dX10_rowsGo_198 : decode cX10_rowsGo 198 = .ok (.ladd, 1) := by decide +kernel
theorem dX10_rowsGo_199 : decode cX10_rowsGo 199 = .ok (.lastore, 1) := by decide +kernel
theorem dX10_rowsGo_200 : decode cX10_rowsGo 200 = .ok (.goto 19, 3) := by decide +kernel
theorem dX10_rowsGo_203 : decode cX10_rowsGo 203 = .ok (.aload_n 0, 1) := by decide +kernel
theorem dX10_rowsGo_204 : decode cX10_rowsGo 204 = .ok (.dup, 1) := by decide +kernel
theorem dX10_rowsGo_205 : decode cX10_rowsGo 205 = .ok (.getfield 270, 3) := by decide +kernel
theorem dX10_rowsGo_208 : decode cX10_rowsGo 208 = .ok (.aload_n 0, 1) := by decide +kernel
theorem dX10_rowsGo_209 : decode cX10_rowsGo 209 = .ok (.getfield 47, 3) := by decide +kernel
theorem dX10_rowsGo_212 : decode cX10_rowsGo 212 = .ok (.iload 5, 2) := by decide +kernel
theorem dX10_rowsGo_214 : decode cX10_rowsGo 214 = .ok (.laload, 1) := by decide +kernel
theorem dX10_rowsGo_215 : decode cX10_rowsGo 215 = .ok (.ladd, 1) := by decide +kernel
theorem dX10_rowsGo_216 : decode cX10_rowsGo 216 = .ok (.putfield 270, 3) := by decide +kernel
theorem dX10_rowsGo_219 : decode cX10_rowsGo 219 = .ok (.iinc 6 1, 3) := by decide +kernel
theorem dX10_rowsGo_222 : decode cX10_rowsGo 222 = .ok (.goto (-110), 3) := by decide +kernel
theorem dX10_rowsGo_225 : decode cX10_rowsGo 225 = .ok (.iinc 5 1, 3) := by decide +kernel
theorem dX10_rowsGo_228 : decode cX10_rowsGo 228 = .ok (.goto (-130), 3) := by decide +kernel
theorem dX10_rowsGo_231 : decode cX10_rowsGo 231 = .ok (.iconst 0, 1) := by decide +kernel
theorem dX10_rowsGo_232 : decode cX10_rowsGo 232 = .ok (.istore 5, 2) := by decide +kernel
theorem dX10_rowsGo_234 : decode cX10_rowsGo 234 = .ok (.iload 5, 2) := by decide +kernel
theorem dX10_rowsGo_236 : decode cX10_rowsGo 236 = .ok (.aload_n 0, 1) := by decide +kernel
theorem dX10_rowsGo_237 : decode cX10_rowsGo 237 = .ok (.getfield 47, 3) := by decide +kernel
theorem dX10_rowsGo_240 : decode cX10_rowsGo 240 = .ok (.arraylength, 1) := by decide +kernel
theorem dX10_rowsGo_241 : decode cX10_rowsGo 241 = .ok (.if_icmp .ge 23, 3) := by decide +kernel
theorem dX10_rowsGo_244 : decode cX10_rowsGo 244 = .ok (.aload_n 0, 1) := by decide +kernel
theorem dX10_rowsGo_245 : decode cX10_rowsGo 245 = .ok (.getfield 47, 3) := by decide +kernel
theorem dX10_rowsGo_248 : decode cX10_rowsGo 248 = .ok (.iload 5, 2) := by decide +kernel
theorem dX10_rowsGo_250 : decode cX10_rowsGo 250 = .ok (.aload_n 0, 1) := by decide +kernel
theorem dX10_rowsGo_251 : decode cX10_rowsGo 251 = .ok (.getfield 51, 3) := by decide +kernel
theorem dX10_rowsGo_254 : decode cX10_rowsGo 254 = .ok (.iload 5, 2) := by decide +kernel
theorem dX10_rowsGo_256 : decode cX10_rowsGo 256 = .ok (.laload, 1) := by decide +kernel
theorem dX10_rowsGo_257 : decode cX10_rowsGo 257 = .ok (.lastore, 1) := by decide +kernel
theorem dX10_rowsGo_258 : decode cX10_rowsGo 258 = .ok (.iinc 5 1, 3) := by decide +kernel
theorem dX10_rowsGo_261 : decode cX10_rowsGo 261 = .ok (.goto (-27), 3) := by decide +kernel
theorem dX10_rowsGo_264 : decode cX10_rowsGo 264 = .ok (.iload_n 3, 1) := by decide +kernel
theorem dX10_rowsGo_265 : decode cX10_rowsGo 265 = .ok (.ifCond .eq 10, 3) := by decide +kernel
theorem dX10_rowsGo_268 : decode cX10_rowsGo 268 = .ok (.aload_n 0, 1) := by decide +kernel
theorem dX10_rowsGo_269 : decode cX10_rowsGo 269 = .ok (.iload_n 1, 1) := by decide +kernel
theorem dX10_rowsGo_270 : decode cX10_rowsGo 270 = .ok (.invokevirtual 248, 3) := by decide +kernel
theorem dX10_rowsGo_273 : decode cX10_rowsGo 273 = .ok (.istore 5, 2) := by decide +kernel
theorem dX10_rowsGo_275 : decode cX10_rowsGo 275 = .ok (.aload_n 0, 1) := by decide +kernel
theorem dX10_rowsGo_276 : decode cX10_rowsGo 276 = .ok (.invokevirtual 254, 3) := by decide +kernel
theorem dX10_rowsGo_279 : decode cX10_rowsGo 279 = .ok (.return_, 1) := by decide +kernel
theorem dX10_divisor_0 : decode cX10_divisor 0 = .ok (.lload_n 2, 1) := by decide +kernel
theorem dX10_divisor_1 : decode cX10_divisor 1 = .ok (.lconst 0, 1) := by decide +kernel
theorem dX10_divisor_2 : decode cX10_divisor 2 = .ok (.lcmp, 1) := by decide +kernel
theorem dX10_divisor_3 : decode cX10_divisor 3 = .ok (.ifCond .ne 7, 3) := by decide +kernel
theorem dX10_divisor_6 : decode cX10_divisor 6 = .ok (.lload_n 0, 1) := by decide +kernel
theorem dX10_divisor_7 : decode cX10_divisor 7 = .ok (.goto 10, 3) := by decide +kernel
theorem dX10_divisor_10 : decode cX10_divisor 10 = .ok (.lload_n 2, 1) := by decide +kernel
theorem dX10_divisor_11 : decode cX10_divisor 11 = .ok (.lload_n 0, 1) := by decide +kernel
theorem dX10_divisor_12 : decode cX10_divisor 12 = .ok (.lload_n 2, 1) := by decide +kernel
theorem dX10_divisor_13 : decode cX10_divisor 13 = .ok (.lrem, 1) := by decide +kernel
theorem dX10_divisor_14 : decode cX10_divisor 14 = .ok (.invokestatic 277, 3) := by decide +kernel
theorem dX10_divisor_17 : decode cX10_divisor 17 = .ok (.lreturn, 1) := by decide +kernel
theorem dX10_ways_0 : decode cX10_ways 0 = .ok (.iload_n 1, 1) := by decide +kernel
theorem dX10_ways_1 : decode cX10_ways 1 = .ok (.iconst 1, 1) := by decide +kernel
theorem dX10_ways_2 : decode cX10_ways 2 = .ok (.bipush 8, 2) := by decide +kernel
theorem dX10_ways_4 : decode cX10_ways 4 = .ok (.invokestatic 79, 3) := by decide +kernel
theorem dX10_ways_7 : decode cX10_ways 7 = .ok (.ifCond .eq 12, 3) := by decide +kernel
theorem dX10_ways_10 : decode cX10_ways 10 = .ok (.iload_n 2, 1) := by decide +kernel
theorem dX10_ways_11 : decode cX10_ways 11 = .ok (.iconst 0, 1) := by decide +kernel
theorem dX10_ways_12 : decode cX10_ways 12 = .ok (.iconst 1, 1) := by decide +kernel
theorem dX10_ways_13 : decode cX10_ways 13 = .ok (.invokestatic 79, 3) := by decide +kernel
theorem dX10_ways_16 : decode cX10_ways 16 = .ok (.ifCond .ne 11, 3) := by decide +kernel
theorem dX10_ways_19 : decode cX10_ways 19 = .ok (.aload_n 0, 1) := by decide +kernel
theorem dX10_ways_20 : decode cX10_ways 20 = .ok (.ldc 91, 2) := by decide +kernel
theorem dX10_ways_22 : decode cX10_ways 22 = .ok (.invokevirtual 92, 3) := by decide +kernel
theorem dX10_ways_25 : decode cX10_ways 25 = .ok (.i2l, 1) := by decide +kernel
theorem dX10_ways_26 : decode cX10_ways 26 = .ok (.lreturn, 1) := by decide +kernel
theorem dX10_ways_27 : decode cX10_ways 27 = .ok (.aload_n 0, 1) := by decide +kernel
theorem dX10_ways_28 : decode cX10_ways 28 = .ok (.getfield 9, 3) := by decide +kernel
theorem dX10_ways_31 : decode cX10_ways 31 = .ok (.bipush 15, 2) := by decide +kernel
theorem dX10_ways_33 : decode cX10_ways 33 = .ok (.iaload, 1) := by decide +kernel
theorem dX10_ways_34 : decode cX10_ways 34 = .ok (.ifCond .ne 12, 3) := by decide +kernel
theorem dX10_ways_37 : decode cX10_ways 37 = .ok (.aload_n 0, 1) := by decide +kernel
theorem dX10_ways_38 : decode cX10_ways 38 = .ok (.ldc_w 260, 3) := by decide +kernel
theorem dX10_ways_41 : decode cX10_ways 41 = .ok (.invokevirtual 92, 3) := by decide +kernel
theorem dX10_ways_44 : decode cX10_ways 44 = .ok (.i2l, 1) := by decide +kernel
theorem dX10_ways_45 : decode cX10_ways 45 = .ok (.lreturn, 1) := by decide +kernel
theorem dX10_ways_46 : decode cX10_ways 46 = .ok (.aload_n 0, 1) := by decide +kernel
theorem dX10_ways_47 : decode cX10_ways 47 = .ok (.getfield 9, 3) := by decide +kernel
theorem dX10_ways_50 : decode cX10_ways 50 = .ok (.aload_n 0, 1) := by decide +kernel
theorem dX10_ways_51 : decode cX10_ways 51 = .ok (.getfield 16, 3) := by decide +kernel
theorem dX10_ways_54 : decode cX10_ways 54 = .ok (.invokestatic 83, 3) := by decide +kernel
theorem dX10_ways_57 : decode cX10_ways 57 = .ok (.iconst 0, 1) := by decide +kernel
theorem dX10_ways_58 : decode cX10_ways 58 = .ok (.istore_n 3, 1) := by decide +kernel
theorem dX10_ways_59 : decode cX10_ways 59 = .ok (.iload_n 3, 1) := by decide +kernel
theorem dX10_ways_60 : decode cX10_ways 60 = .ok (.aload_n 0, 1) := by decide +kernel
theorem dX10_ways_61 : decode cX10_ways 61 = .ok (.getfield 47, 3) := by decide +kernel
theorem dX10_ways_64 : decode cX10_ways 64 = .ok (.arraylength, 1) := by decide +kernel
theorem dX10_ways_65 : decode cX10_ways 65 = .ok (.if_icmp .ge 33, 3) := by decide +kernel
theorem dX10_ways_68 : decode cX10_ways 68 = .ok (.aload_n 0, 1) := by decide +kernel
theorem dX10_ways_69 : decode cX10_ways 69 = .ok (.getfield 47, 3) := by decide +kernel
theorem dX10_ways_72 : decode cX10_ways 72 = .ok (.iload_n 3, 1) := by decide +kernel
theorem dX10_ways_73 : decode cX10_ways 73 = .ok (.iload_n 3, 1) := by decide +kernel
theorem dX10_ways_74 : decode cX10_ways 74 = .ok (.bipush 99, 2) := by decide +kernel
theorem dX10_ways_76 : decode cX10_ways 76 = .ok (.aload_n 0, 1) := by decide +kernel
theorem dX10_ways_77 : decode cX10_ways 77 = .ok (.getfield 9, 3) := by decide +kernel
theorem dX10_ways_80 : decode cX10_ways 80 = .ok (.iconst 1, 1) := by decide +kernel
theorem dX10_ways_81 : decode cX10_ways 81 = .ok (.iaload, 1) := by decide +kernel
theorem dX10_ways_82 : decode cX10_ways 82 = .ok (.iadd, 1) := by decide +kernel
theorem dX10_ways_83 : decode cX10_ways 83 = .ok (.if_icmp .ne 7, 3) := by decide +kernel
theorem dX10_ways_86 : decode cX10_ways 86 = .ok (.lconst 1, 1) := by decide +kernel
theorem dX10_ways_87 : decode cX10_ways 87 = .ok (.goto 4, 3) := by decide +kernel
theorem dX10_ways_90 : decode cX10_ways 90 = .ok (.lconst 0, 1) := by decide +kernel
theorem dX10_ways_91 : decode cX10_ways 91 = .ok (.lastore, 1) := by decide +kernel
theorem dX10_ways_92 : decode cX10_ways 92 = .ok (.iinc 3 1, 3) := by decide +kernel
theorem dX10_ways_95 : decode cX10_ways 95 = .ok (.goto (-36), 3) := by decide +kernel
theorem dX10_ways_98 : decode cX10_ways 98 = .ok (.aload_n 0, 1) := by decide +kernel
theorem dX10_ways_99 : decode cX10_ways 99 = .ok (.lconst 0, 1) := by decide +kernel
theorem dX10_ways_100 : decode cX10_ways 100 = .ok (.putfield 270, 3) := by decide +kernel
theorem dX10_ways_103 : decode cX10_ways 103 = .ok (.aload_n 0, 1) := by decide +kernel
theorem dX10_ways_104 : decode cX10_ways 104 = .ok (.lconst 1, 1) := by decide +kernel
theorem dX10_ways_105 : decode cX10_ways 105 = .ok (.putfield 274, 3) := by decide +kernel
theorem dX10_ways_108 : decode cX10_ways 108 = .ok (.iconst 0, 1) := by decide +kernel
theorem dX10_ways_109 : decode cX10_ways 109 = .ok (.istore_n 3, 1) := by decide +kernel
theorem dX10_ways_110 : decode cX10_ways 110 = .ok (.iload_n 3, 1) := by decide +kernel
theorem dX10_ways_111 : decode cX10_ways 111 = .ok (.iload_n 1, 1) := by decide +kernel
theorem dX10_ways_112 : decode cX10_ways 112 = .ok (.if_icmp .ge 13, 3) := by decide +kernel
theorem dX10_ways_115 : decode cX10_ways 115 = .ok (.aload_n 0, 1) := by decide +kernel
theorem dX10_ways_116 : decode cX10_ways 116 = .ok (.invokevirtual 281, 3) := by decide +kernel
theorem dX10_ways_119 : decode cX10_ways 119 = .ok (.iinc 3 1, 3) := by decide +kernel
theorem dX10_ways_122 : decode cX10_ways 122 = .ok (.goto (-12), 3) := by decide +kernel
theorem dX10_ways_125 : decode cX10_ways 125 = .ok (.aload_n 0, 1) := by decide +kernel
theorem dX10_ways_126 : decode cX10_ways 126 = .ok (.getfield 16, 3) := by decide +kernel
theorem dX10_ways_129 : decode cX10_ways 129 = .ok (.aload_n 0, 1) := by decide +kernel
theorem dX10_ways_130 : decode cX10_ways 130 = .ok (.getfield 9, 3) := by decide +kernel
theorem dX10_ways_133 : decode cX10_ways 133 = .ok (.invokestatic 83, 3) := by decide +kernel
theorem dX10_ways_136 : decode cX10_ways 136 = .ok (.aload_n 0, 1) := by decide +kernel
theorem dX10_ways_137 : decode cX10_ways 137 = .ok (.getfield 274, 3) := by decide +kernel
theorem dX10_ways_140 : decode cX10_ways 140 = .ok (.aload_n 0, 1) := by decide +kernel
theorem dX10_ways_141 : decode cX10_ways 141 = .ok (.getfield 270, 3) := by decide +kernel
theorem dX10_ways_144 : decode cX10_ways 144 = .ok (.invokestatic 277, 3) := by decide +kernel
theorem dX10_ways_147 : decode cX10_ways 147 = .ok (.lstore_n 3, 1) := by decide +kernel
theorem dX10_ways_148 : decode cX10_ways 148 = .ok (.iload_n 2, 1) := by decide +kernel
theorem dX10_ways_149 : decode cX10_ways 149 = .ok (.ifCond .ne 12, 3) := by decide +kernel
theorem dX10_ways_152 : decode cX10_ways 152 = .ok (.aload_n 0, 1) := by decide +kernel
theorem dX10_ways_153 : decode cX10_ways 153 = .ok (.getfield 270, 3) := by decide +kernel
theorem dX10_ways_156 : decode cX10_ways 156 = .ok (.lload_n 3, 1) := by decide +kernel
theorem dX10_ways_157 : decode cX10_ways 157 = .ok (.ldiv, 1) := by decide +kernel
theorem dX10_ways_158 : decode cX10_ways 158 = .ok (.goto 9, 3) := by decide +kernel
theorem dX10_ways_161 : decode cX10_ways 161 = .ok (.aload_n 0, 1) := by decide +kernel
theorem dX10_ways_162 : decode cX10_ways 162 = .ok (.getfield 274, 3) := by decide +kernel
theorem dX10_ways_165 : decode cX10_ways 165 = .ok (.lload_n 3, 1) := by decide +kernel
theorem dX10_ways_166 : decode cX10_ways 166 = .ok (.ldiv, 1) := by decide +kernel
theorem dX10_ways_167 : decode cX10_ways 167 = .ok (.lreturn, 1) := by decide +kernel
theorem dX10_nextCell_0 : decode cX10_nextCell 0 = .ok (.iconst (-1), 1) := by decide +kernel
theorem dX10_nextCell_1 : decode cX10_nextCell 1 = .ok (.istore_n 2, 1) := by decide +kernel
theorem dX10_nextCell_2 : decode cX10_nextCell 2 = .ok (.iconst 0, 1) := by decide +kernel
theorem dX10_nextCell_3 : decode cX10_nextCell 3 = .ok (.istore_n 3, 1) := by decide +kernel
theorem dX10_nextCell_4 : decode cX10_nextCell 4 = .ok (.iload_n 3, 1) := by decide +kernel
theorem dX10_nextCell_5 : decode cX10_nextCell 5 = .ok (.aload_n 0, 1) := by decide +kernel
theorem dX10_nextCell_6 : decode cX10_nextCell 6 = .ok (.getfield 9, 3) := by decide +kernel
theorem dX10_nextCell_9 : decode cX10_nextCell 9 = .ok (.bipush 14, 2) := by decide +kernel
theorem dX10_nextCell_11 : decode cX10_nextCell 11 = .ok (.iaload, 1) := by decide +kernel
theorem dX10_nextCell_12 : decode cX10_nextCell 12 = .ok (.if_icmp .ge 40, 3) := by decide +kernel
theorem dX10_nextCell_15 : decode cX10_nextCell 15 = .ok (.aload_n 0, 1) := by decide +kernel
theorem dX10_nextCell_16 : decode cX10_nextCell 16 = .ok (.iload_n 3, 1) := by decide +kernel
theorem dX10_nextCell_17 : decode cX10_nextCell 17 = .ok (.iconst 0, 1) := by decide +kernel
theorem dX10_nextCell_18 : decode cX10_nextCell 18 = .ok (.invokevirtual 104, 3) := by decide +kernel
theorem dX10_nextCell_21 : decode cX10_nextCell 21 = .ok (.istore 4, 2) := by decide +kernel
theorem dX10_nextCell_23 : decode cX10_nextCell 23 = .ok (.iload 4, 2) := by decide +kernel
theorem dX10_nextCell_25 : decode cX10_nextCell 25 = .ok (.iload_n 1, 1) := by decide +kernel
theorem dX10_nextCell_26 : decode cX10_nextCell 26 = .ok (.if_icmp .le 18, 3) := by decide +kernel
theorem dX10_nextCell_29 : decode cX10_nextCell 29 = .ok (.iload_n 2, 1) := by decide +kernel
theorem dX10_nextCell_30 : decode cX10_nextCell 30 = .ok (.ifCond .lt 9, 3) := by decide +kernel
theorem dX10_nextCell_33 : decode cX10_nextCell 33 = .ok (.iload 4, 2) := by decide +kernel
theorem dX10_nextCell_35 : decode cX10_nextCell 35 = .ok (.iload_n 2, 1) := by decide +kernel
theorem dX10_nextCell_36 : decode cX10_nextCell 36 = .ok (.if_icmp .ge 8, 3) := by decide +kernel
theorem dX10_nextCell_39 : decode cX10_nextCell 39 = .ok (.iload 4, 2) := by decide +kernel
theorem dX10_nextCell_41 : decode cX10_nextCell 41 = .ok (.goto 4, 3) := by decide +kernel
theorem dX10_nextCell_44 : decode cX10_nextCell 44 = .ok (.iload_n 2, 1) := by decide +kernel
theorem dX10_nextCell_45 : decode cX10_nextCell 45 = .ok (.istore_n 2, 1) := by decide +kernel
theorem dX10_nextCell_46 : decode cX10_nextCell 46 = .ok (.iinc 3 1, 3) := by decide +kernel
theorem dX10_nextCell_49 : decode cX10_nextCell 49 = .ok (.goto (-45), 3) := by decide +kernel
theorem dX10_nextCell_52 : decode cX10_nextCell 52 = .ok (.iload_n 2, 1) := by decide +kernel
theorem dX10_nextCell_53 : decode cX10_nextCell 53 = .ok (.ireturn, 1) := by decide +kernel
theorem dX10_way_0 : decode cX10_way 0 = .ok (.aload_n 0, 1) := by decide +kernel
theorem dX10_way_1 : decode cX10_way 1 = .ok (.iload_n 1, 1) := by decide +kernel
theorem dX10_way_2 : decode cX10_way 2 = .ok (.bipush 14, 2) := by decide +kernel
theorem dX10_way_4 : decode cX10_way 4 = .ok (.invokevirtual 113, 3) := by decide +kernel
theorem dX10_way_7 : decode cX10_way 7 = .ok (.ifCond .eq 13, 3) := by decide +kernel
theorem dX10_way_10 : decode cX10_way 10 = .ok (.aload_n 0, 1) := by decide +kernel
theorem dX10_way_11 : decode cX10_way 11 = .ok (.iload_n 2, 1) := by decide +kernel
theorem dX10_way_12 : decode cX10_way 12 = .ok (.bipush 14, 2) := by decide +kernel
theorem dX10_way_14 : decode cX10_way 14 = .ok (.invokevirtual 113, 3) := by decide +kernel
theorem dX10_way_17 : decode cX10_way 17 = .ok (.ifCond .ne 10, 3) := by decide +kernel
theorem dX10_way_20 : decode cX10_way 20 = .ok (.aload_n 0, 1) := by decide +kernel
theorem dX10_way_21 : decode cX10_way 21 = .ok (.ldc 91, 2) := by decide +kernel
theorem dX10_way_23 : decode cX10_way 23 = .ok (.invokevirtual 92, 3) := by decide +kernel
theorem dX10_way_26 : decode cX10_way 26 = .ok (.ireturn, 1) := by decide +kernel
theorem dX10_way_27 : decode cX10_way 27 = .ok (.aload_n 0, 1) := by decide +kernel
theorem dX10_way_28 : decode cX10_way 28 = .ok (.iload_n 1, 1) := by decide +kernel
theorem dX10_way_29 : decode cX10_way 29 = .ok (.iconst 0, 1) := by decide +kernel
theorem dX10_way_30 : decode cX10_way 30 = .ok (.invokevirtual 104, 3) := by decide +kernel
theorem dX10_way_33 : decode cX10_way 33 = .ok (.aload_n 0, 1) := by decide +kernel
theorem dX10_way_34 : decode cX10_way 34 = .ok (.iload_n 2, 1) := by decide +kernel
theorem dX10_way_35 : decode cX10_way 35 = .ok (.iconst 0, 1) := by decide +kernel
theorem dX10_way_36 : decode cX10_way 36 = .ok (.invokevirtual 104, 3) := by decide +kernel
theorem dX10_way_39 : decode cX10_way 39 = .ok (.invokestatic 70, 3) := by decide +kernel
theorem dX10_way_42 : decode cX10_way 42 = .ok (.istore_n 3, 1) := by decide +kernel
theorem dX10_way_43 : decode cX10_way 43 = .ok (.aload_n 0, 1) := by decide +kernel
theorem dX10_way_44 : decode cX10_way 44 = .ok (.iload_n 1, 1) := by decide +kernel
theorem dX10_way_45 : decode cX10_way 45 = .ok (.iconst 0, 1) := by decide +kernel
theorem dX10_way_46 : decode cX10_way 46 = .ok (.invokevirtual 104, 3) := by decide +kernel
theorem dX10_way_49 : decode cX10_way 49 = .ok (.aload_n 0, 1) := by decide +kernel
theorem dX10_way_50 : decode cX10_way 50 = .ok (.iload_n 2, 1) := by decide +kernel
theorem dX10_way_51 : decode cX10_way 51 = .ok (.iconst 0, 1) := by decide +kernel
theorem dX10_way_52 : decode cX10_way 52 = .ok (.invokevirtual 104, 3) := by decide +kernel
theorem dX10_way_55 : decode cX10_way 55 = .ok (.invokestatic 76, 3) := by decide +kernel
theorem dX10_way_58 : decode cX10_way 58 = .ok (.istore 4, 2) := by decide +kernel
theorem dX10_way_60 : decode cX10_way 60 = .ok (.iconst 1, 1) := by decide +kernel
theorem dX10_way_61 : decode cX10_way 61 = .ok (.istore 5, 2) := by decide +kernel
theorem dX10_way_63 : decode cX10_way 63 = .ok (.iload_n 3, 1) := by decide +kernel
theorem dX10_way_64 : decode cX10_way 64 = .ok (.iload 4, 2) := by decide +kernel
theorem dX10_way_66 : decode cX10_way 66 = .ok (.if_icmp .ge 31, 3) := by decide +kernel
theorem dX10_way_69 : decode cX10_way 69 = .ok (.iload 5, 2) := by decide +kernel
theorem dX10_way_71 : decode cX10_way 71 = .ok (.ifCond .eq 26, 3) := by decide +kernel
theorem dX10_way_74 : decode cX10_way 74 = .ok (.aload_n 0, 1) := by decide +kernel
theorem dX10_way_75 : decode cX10_way 75 = .ok (.iload_n 3, 1) := by decide +kernel
theorem dX10_way_76 : decode cX10_way 76 = .ok (.invokevirtual 284, 3) := by decide +kernel
theorem dX10_way_79 : decode cX10_way 79 = .ok (.istore 6, 2) := by decide +kernel
theorem dX10_way_81 : decode cX10_way 81 = .ok (.aload_n 0, 1) := by decide +kernel
theorem dX10_way_82 : decode cX10_way 82 = .ok (.iload 6, 2) := by decide +kernel
theorem dX10_way_84 : decode cX10_way 84 = .ok (.iload_n 3, 1) := by decide +kernel
theorem dX10_way_85 : decode cX10_way 85 = .ok (.isub, 1) := by decide +kernel
theorem dX10_way_86 : decode cX10_way 86 = .ok (.invokevirtual 287, 3) := by decide +kernel
theorem dX10_way_89 : decode cX10_way 89 = .ok (.istore 5, 2) := by decide +kernel
theorem dX10_way_91 : decode cX10_way 91 = .ok (.iload 6, 2) := by decide +kernel
theorem dX10_way_93 : decode cX10_way 93 = .ok (.istore_n 3, 1) := by decide +kernel
theorem dX10_way_94 : decode cX10_way 94 = .ok (.goto (-31), 3) := by decide +kernel
theorem dX10_way_97 : decode cX10_way 97 = .ok (.iload 5, 2) := by decide +kernel
theorem dX10_way_99 : decode cX10_way 99 = .ok (.ifCond .eq 7, 3) := by decide +kernel
theorem dX10_way_102 : decode cX10_way 102 = .ok (.iconst 1, 1) := by decide +kernel
theorem dX10_way_103 : decode cX10_way 103 = .ok (.goto 4, 3) := by decide +kernel
theorem dX10_way_106 : decode cX10_way 106 = .ok (.iconst 0, 1) := by decide +kernel
theorem dX10_way_107 : decode cX10_way 107 = .ok (.ireturn, 1) := by decide +kernel
theorem dX10_gaps_0 : decode cX10_gaps 0 = .ok (.iload_n 1, 1) := by decide +kernel
theorem dX10_gaps_1 : decode cX10_gaps 1 = .ok (.iconst 0, 1) := by decide +kernel
theorem dX10_gaps_2 : decode cX10_gaps 2 = .ok (.iconst 2, 1) := by decide +kernel
theorem dX10_gaps_3 : decode cX10_gaps 3 = .ok (.invokestatic 79, 3) := by decide +kernel
theorem dX10_gaps_6 : decode cX10_gaps 6 = .ok (.ifCond .ne 10, 3) := by decide +kernel
theorem dX10_gaps_9 : decode cX10_gaps 9 = .ok (.aload_n 0, 1) := by decide +kernel
theorem dX10_gaps_10 : decode cX10_gaps 10 = .ok (.ldc 91, 2) := by decide +kernel
theorem dX10_gaps_12 : decode cX10_gaps 12 = .ok (.invokevirtual 92, 3) := by decide +kernel
theorem dX10_gaps_15 : decode cX10_gaps 15 = .ok (.ireturn, 1) := by decide +kernel
theorem dX10_gaps_16 : decode cX10_gaps 16 = .ok (.iconst 0, 1) := by decide +kernel
theorem dX10_gaps_17 : decode cX10_gaps 17 = .ok (.istore_n 2, 1) := by decide +kernel
theorem dX10_gaps_18 : decode cX10_gaps 18 = .ok (.iconst 0, 1) := by decide +kernel
theorem dX10_gaps_19 : decode cX10_gaps 19 = .ok (.istore_n 3, 1) := by decide +kernel
theorem dX10_gaps_20 : decode cX10_gaps 20 = .ok (.iconst 0, 1) := by decide +kernel
theorem dX10_gaps_21 : decode cX10_gaps 21 = .ok (.istore 4, 2) := by decide +kernel
theorem dX10_gaps_23 : decode cX10_gaps 23 = .ok (.aload_n 0, 1) := by decide +kernel
theorem dX10_gaps_24 : decode cX10_gaps 24 = .ok (.iconst (-1), 1) := by decide +kernel
theorem dX10_gaps_25 : decode cX10_gaps 25 = .ok (.invokevirtual 284, 3) := by decide +kernel
theorem dX10_gaps_28 : decode cX10_gaps 28 = .ok (.istore 5, 2) := by decide +kernel
theorem dX10_gaps_30 : decode cX10_gaps 30 = .ok (.iload 5, 2) := by decide +kernel
theorem dX10_gaps_32 : decode cX10_gaps 32 = .ok (.ifCond .ge 7, 3) := by decide +kernel
theorem dX10_gaps_35 : decode cX10_gaps 35 = .ok (.iconst (-1), 1) := by decide +kernel
theorem dX10_gaps_36 : decode cX10_gaps 36 = .ok (.goto 9, 3) := by decide +kernel
theorem dX10_gaps_39 : decode cX10_gaps 39 = .ok (.aload_n 0, 1) := by decide +kernel
theorem dX10_gaps_40 : decode cX10_gaps 40 = .ok (.iload 5, 2) := by decide +kernel
theorem dX10_gaps_42 : decode cX10_gaps 42 = .ok (.invokevirtual 284, 3) := by decide +kernel
theorem dX10_gaps_45 : decode cX10_gaps 45 = .ok (.istore 6, 2) := by decide +kernel
theorem dX10_gaps_47 : decode cX10_gaps 47 = .ok (.iload 6, 2) := by decide +kernel
theorem dX10_gaps_49 : decode cX10_gaps 49 = .ok (.ifCond .lt 67, 3) := by decide +kernel
theorem dX10_gaps_52 : decode cX10_gaps 52 = .ok (.aload_n 0, 1) := by decide +kernel
theorem dX10_gaps_53 : decode cX10_gaps 53 = .ok (.iload 6, 2) := by decide +kernel
theorem dX10_gaps_55 : decode cX10_gaps 55 = .ok (.iload 5, 2) := by decide +kernel
theorem dX10_gaps_57 : decode cX10_gaps 57 = .ok (.isub, 1) := by decide +kernel
theorem dX10_gaps_58 : decode cX10_gaps 58 = .ok (.invokevirtual 287, 3) := by decide +kernel
theorem dX10_gaps_61 : decode cX10_gaps 61 = .ok (.istore 7, 2) := by decide +kernel
theorem dX10_gaps_63 : decode cX10_gaps 63 = .ok (.iinc 2 1, 3) := by decide +kernel
theorem dX10_gaps_66 : decode cX10_gaps 66 = .ok (.iload_n 3, 1) := by decide +kernel
theorem dX10_gaps_67 : decode cX10_gaps 67 = .ok (.iload 7, 2) := by decide +kernel
theorem dX10_gaps_69 : decode cX10_gaps 69 = .ok (.ifCond .eq 7, 3) := by decide +kernel
theorem dX10_gaps_72 : decode cX10_gaps 72 = .ok (.iconst 1, 1) := by decide +kernel
theorem dX10_gaps_73 : decode cX10_gaps 73 = .ok (.goto 4, 3) := by decide +kernel
theorem dX10_gaps_76 : decode cX10_gaps 76 = .ok (.iconst 0, 1) := by decide +kernel
theorem dX10_gaps_77 : decode cX10_gaps 77 = .ok (.iadd, 1) := by decide +kernel
theorem dX10_gaps_78 : decode cX10_gaps 78 = .ok (.istore_n 3, 1) := by decide +kernel
theorem dX10_gaps_79 : decode cX10_gaps 79 = .ok (.iload 7, 2) := by decide +kernel
theorem dX10_gaps_81 : decode cX10_gaps 81 = .ok (.ifCond .eq 8, 3) := by decide +kernel
theorem dX10_gaps_84 : decode cX10_gaps 84 = .ok (.iload 4, 2) := by decide +kernel
theorem dX10_gaps_86 : decode cX10_gaps 86 = .ok (.goto 13, 3) := by decide +kernel
theorem dX10_gaps_89 : decode cX10_gaps 89 = .ok (.iload 4, 2) := by decide +kernel
theorem dX10_gaps_91 : decode cX10_gaps 91 = .ok (.iload 6, 2) := by decide +kernel
theorem dX10_gaps_93 : decode cX10_gaps 93 = .ok (.iload 5, 2) := by decide +kernel
theorem dX10_gaps_95 : decode cX10_gaps 95 = .ok (.isub, 1) := by decide +kernel
theorem dX10_gaps_96 : decode cX10_gaps 96 = .ok (.invokestatic 76, 3) := by decide +kernel
theorem dX10_gaps_99 : decode cX10_gaps 99 = .ok (.istore 4, 2) := by decide +kernel
theorem dX10_gaps_101 : decode cX10_gaps 101 = .ok (.iload 6, 2) := by decide +kernel
theorem dX10_gaps_103 : decode cX10_gaps 103 = .ok (.istore 5, 2) := by decide +kernel
theorem dX10_gaps_105 : decode cX10_gaps 105 = .ok (.aload_n 0, 1) := by decide +kernel
theorem dX10_gaps_106 : decode cX10_gaps 106 = .ok (.iload 5, 2) := by decide +kernel
theorem dX10_gaps_108 : decode cX10_gaps 108 = .ok (.invokevirtual 284, 3) := by decide +kernel
theorem dX10_gaps_111 : decode cX10_gaps 111 = .ok (.istore 6, 2) := by decide +kernel
theorem dX10_gaps_113 : decode cX10_gaps 113 = .ok (.goto (-66), 3) := by decide +kernel
theorem dX10_gaps_116 : decode cX10_gaps 116 = .ok (.iload_n 1, 1) := by decide +kernel
theorem dX10_gaps_117 : decode cX10_gaps 117 = .ok (.ifCond .ne 7, 3) := by decide +kernel
theorem dX10_gaps_120 : decode cX10_gaps 120 = .ok (.iload_n 2, 1) := by decide +kernel
theorem dX10_gaps_121 : decode cX10_gaps 121 = .ok (.goto 14, 3) := by decide +kernel
theorem dX10_gaps_124 : decode cX10_gaps 124 = .ok (.iload_n 1, 1) := by decide +kernel
theorem dX10_gaps_125 : decode cX10_gaps 125 = .ok (.iconst 1, 1) := by decide +kernel
theorem dX10_gaps_126 : decode cX10_gaps 126 = .ok (.if_icmp .ne 7, 3) := by decide +kernel
theorem dX10_gaps_129 : decode cX10_gaps 129 = .ok (.iload_n 3, 1) := by decide +kernel
theorem dX10_gaps_130 : decode cX10_gaps 130 = .ok (.goto 5, 3) := by decide +kernel
theorem dX10_gaps_133 : decode cX10_gaps 133 = .ok (.iload 4, 2) := by decide +kernel
theorem dX10_gaps_135 : decode cX10_gaps 135 = .ok (.ireturn, 1) := by decide +kernel
theorem dX10_pad_0 : decode cX10_pad 0 = .ok (.iload_n 1, 1) := by decide +kernel
theorem dX10_pad_1 : decode cX10_pad 1 = .ok (.invokestatic 264, 3) := by decide +kernel
theorem dX10_pad_4 : decode cX10_pad 4 = .ok (.ifCond .ne 10, 3) := by decide +kernel
theorem dX10_pad_7 : decode cX10_pad 7 = .ok (.aload_n 0, 1) := by decide +kernel
theorem dX10_pad_8 : decode cX10_pad 8 = .ok (.ldc 91, 2) := by decide +kernel
theorem dX10_pad_10 : decode cX10_pad 10 = .ok (.invokevirtual 92, 3) := by decide +kernel
theorem dX10_pad_13 : decode cX10_pad 13 = .ok (.ireturn, 1) := by decide +kernel
theorem dX10_pad_14 : decode cX10_pad 14 = .ok (.aload_n 0, 1) := by decide +kernel
theorem dX10_pad_15 : decode cX10_pad 15 = .ok (.getfield 9, 3) := by decide +kernel
theorem dX10_pad_18 : decode cX10_pad 18 = .ok (.aload_n 0, 1) := by decide +kernel
theorem dX10_pad_19 : decode cX10_pad 19 = .ok (.getfield 16, 3) := by decide +kernel
theorem dX10_pad_22 : decode cX10_pad 22 = .ok (.invokestatic 83, 3) := by decide +kernel
theorem dX10_pad_25 : decode cX10_pad 25 = .ok (.iconst (-1), 1) := by decide +kernel
theorem dX10_pad_26 : decode cX10_pad 26 = .ok (.istore_n 2, 1) := by decide +kernel
theorem dX10_pad_27 : decode cX10_pad 27 = .ok (.iconst 0, 1) := by decide +kernel
theorem dX10_pad_28 : decode cX10_pad 28 = .ok (.istore_n 3, 1) := by decide +kernel
theorem dX10_pad_29 : decode cX10_pad 29 = .ok (.iconst 0, 1) := by decide +kernel
theorem dX10_pad_30 : decode cX10_pad 30 = .ok (.istore 4, 2) := by decide +kernel
theorem dX10_pad_32 : decode cX10_pad 32 = .ok (.iload 4, 2) := by decide +kernel
theorem dX10_pad_34 : decode cX10_pad 34 = .ok (.aload_n 0, 1) := by decide +kernel
theorem dX10_pad_35 : decode cX10_pad 35 = .ok (.getfield 9, 3) := by decide +kernel
theorem dX10_pad_38 : decode cX10_pad 38 = .ok (.bipush 14, 2) := by decide +kernel
theorem dX10_pad_40 : decode cX10_pad 40 = .ok (.iaload, 1) := by decide +kernel
theorem dX10_pad_41 : decode cX10_pad 41 = .ok (.if_icmp .ge 58, 3) := by decide +kernel
theorem dX10_pad_44 : decode cX10_pad 44 = .ok (.aload_n 0, 1) := by decide +kernel
theorem dX10_pad_45 : decode cX10_pad 45 = .ok (.getfield 9, 3) := by decide +kernel
theorem dX10_pad_48 : decode cX10_pad 48 = .ok (.bipush 39, 2) := by decide +kernel
theorem dX10_pad_50 : decode cX10_pad 50 = .ok (.iconst 3, 1) := by decide +kernel
theorem dX10_pad_51 : decode cX10_pad 51 = .ok (.iload 4, 2) := by decide +kernel
theorem dX10_pad_53 : decode cX10_pad 53 = .ok (.imul, 1) := by decide +kernel
theorem dX10_pad_54 : decode cX10_pad 54 = .ok (.iadd, 1) := by decide +kernel
theorem dX10_pad_55 : decode cX10_pad 55 = .ok (.iconst 2, 1) := by decide +kernel
theorem dX10_pad_56 : decode cX10_pad 56 = .ok (.iadd, 1) := by decide +kernel
theorem dX10_pad_57 : decode cX10_pad 57 = .ok (.iconst 1, 1) := by decide +kernel
theorem dX10_pad_58 : decode cX10_pad 58 = .ok (.iastore, 1) := by decide +kernel
theorem dX10_pad_59 : decode cX10_pad 59 = .ok (.aload_n 0, 1) := by decide +kernel
theorem dX10_pad_60 : decode cX10_pad 60 = .ok (.iload_n 1, 1) := by decide +kernel
theorem dX10_pad_61 : decode cX10_pad 61 = .ok (.invokevirtual 261, 3) := by decide +kernel
theorem dX10_pad_64 : decode cX10_pad 64 = .ok (.aload_n 0, 1) := by decide +kernel
theorem dX10_pad_65 : decode cX10_pad 65 = .ok (.aload_n 0, 1) := by decide +kernel
theorem dX10_pad_66 : decode cX10_pad 66 = .ok (.getfield 9, 3) := by decide +kernel
theorem dX10_pad_69 : decode cX10_pad 69 = .ok (.bipush 9, 2) := by decide +kernel
theorem dX10_pad_71 : decode cX10_pad 71 = .ok (.iaload, 1) := by decide +kernel
theorem dX10_pad_72 : decode cX10_pad 72 = .ok (.invokevirtual 267, 3) := by decide +kernel
theorem dX10_pad_75 : decode cX10_pad 75 = .ok (.istore 5, 2) := by decide +kernel
theorem dX10_pad_77 : decode cX10_pad 77 = .ok (.iload_n 2, 1) := by decide +kernel
theorem dX10_pad_78 : decode cX10_pad 78 = .ok (.ifCond .lt 9, 3) := by decide +kernel
theorem dX10_pad_81 : decode cX10_pad 81 = .ok (.iload 5, 2) := by decide +kernel
theorem dX10_pad_83 : decode cX10_pad 83 = .ok (.iload_n 3, 1) := by decide +kernel
theorem dX10_pad_84 : decode cX10_pad 84 = .ok (.if_icmp .ge 9, 3) := by decide +kernel
theorem dX10_pad_87 : decode cX10_pad 87 = .ok (.iload 4, 2) := by decide +kernel
theorem dX10_pad_89 : decode cX10_pad 89 = .ok (.istore_n 2, 1) := by decide +kernel
theorem dX10_pad_90 : decode cX10_pad 90 = .ok (.iload 5, 2) := by decide +kernel
theorem dX10_pad_92 : decode cX10_pad 92 = .ok (.istore_n 3, 1) := by decide +kernel
theorem dX10_pad_93 : decode cX10_pad 93 = .ok (.iinc 4 1, 3) := by decide +kernel
theorem dX10_pad_96 : decode cX10_pad 96 = .ok (.goto (-64), 3) := by decide +kernel
theorem dX10_pad_99 : decode cX10_pad 99 = .ok (.iload_n 2, 1) := by decide +kernel
theorem dX10_pad_100 : decode cX10_pad 100 = .ok (.ifCond .ge 12, 3) := by decide +kernel
theorem dX10_pad_103 : decode cX10_pad 103 = .ok (.aload_n 0, 1) := by decide +kernel
theorem dX10_pad_104 : decode cX10_pad 104 = .ok (.ldc 124, 2) := by decide +kernel
theorem dX10_pad_106 : decode cX10_pad 106 = .ok (.invokevirtual 92, 3) := by decide +kernel
theorem dX10_pad_109 : decode cX10_pad 109 = .ok (.goto 4, 3) := by decide +kernel
theorem dX10_pad_112 : decode cX10_pad 112 = .ok (.iload_n 2, 1) := by decide +kernel
theorem dX10_pad_113 : decode cX10_pad 113 = .ok (.ireturn, 1) := by decide +kernel
theorem dX10_stand_0 : decode cX10_stand 0 = .ok (.aload_n 0, 1) := by decide +kernel
theorem dX10_stand_1 : decode cX10_stand 1 = .ok (.iload_n 1, 1) := by decide +kernel
theorem dX10_stand_2 : decode cX10_stand 2 = .ok (.bipush 14, 2) := by decide +kernel
theorem dX10_stand_4 : decode cX10_stand 4 = .ok (.invokevirtual 113, 3) := by decide +kernel
theorem dX10_stand_7 : decode cX10_stand 7 = .ok (.ifCond .eq 13, 3) := by decide +kernel
theorem dX10_stand_10 : decode cX10_stand 10 = .ok (.iload_n 2, 1) := by decide +kernel
theorem dX10_stand_11 : decode cX10_stand 11 = .ok (.iconst 0, 1) := by decide +kernel
theorem dX10_stand_12 : decode cX10_stand 12 = .ok (.bipush 60, 2) := by decide +kernel
theorem dX10_stand_14 : decode cX10_stand 14 = .ok (.invokestatic 79, 3) := by decide +kernel
theorem dX10_stand_17 : decode cX10_stand 17 = .ok (.ifCond .ne 10, 3) := by decide +kernel
theorem dX10_stand_20 : decode cX10_stand 20 = .ok (.aload_n 0, 1) := by decide +kernel
theorem dX10_stand_21 : decode cX10_stand 21 = .ok (.ldc 91, 2) := by decide +kernel
theorem dX10_stand_23 : decode cX10_stand 23 = .ok (.invokevirtual 92, 3) := by decide +kernel
theorem dX10_stand_26 : decode cX10_stand 26 = .ok (.ireturn, 1) := by decide +kernel
theorem dX10_stand_27 : decode cX10_stand 27 = .ok (.aload_n 0, 1) := by decide +kernel
theorem dX10_stand_28 : decode cX10_stand 28 = .ok (.getfield 9, 3) := by decide +kernel
theorem dX10_stand_31 : decode cX10_stand 31 = .ok (.aload_n 0, 1) := by decide +kernel
theorem dX10_stand_32 : decode cX10_stand 32 = .ok (.getfield 16, 3) := by decide +kernel
theorem dX10_stand_35 : decode cX10_stand 35 = .ok (.invokestatic 83, 3) := by decide +kernel
theorem dX10_stand_38 : decode cX10_stand 38 = .ok (.iconst (-1), 1) := by decide +kernel
theorem dX10_stand_39 : decode cX10_stand 39 = .ok (.istore_n 3, 1) := by decide +kernel
theorem dX10_stand_40 : decode cX10_stand 40 = .ok (.iconst 0, 1) := by decide +kernel
theorem dX10_stand_41 : decode cX10_stand 41 = .ok (.istore 4, 2) := by decide +kernel
theorem dX10_stand_43 : decode cX10_stand 43 = .ok (.iconst 0, 1) := by decide +kernel
theorem dX10_stand_44 : decode cX10_stand 44 = .ok (.istore 5, 2) := by decide +kernel
theorem dX10_stand_46 : decode cX10_stand 46 = .ok (.iload 5, 2) := by decide +kernel
theorem dX10_stand_48 : decode cX10_stand 48 = .ok (.bipush 100, 2) := by decide +kernel
theorem dX10_stand_50 : decode cX10_stand 50 = .ok (.if_icmp .ge 60, 3) := by decide +kernel
theorem dX10_stand_53 : decode cX10_stand 53 = .ok (.aload_n 0, 1) := by decide +kernel
theorem dX10_stand_54 : decode cX10_stand 54 = .ok (.getfield 9, 3) := by decide +kernel
theorem dX10_stand_57 : decode cX10_stand 57 = .ok (.bipush 39, 2) := by decide +kernel
theorem dX10_stand_59 : decode cX10_stand 59 = .ok (.iconst 3, 1) := by decide +kernel
theorem dX10_stand_60 : decode cX10_stand 60 = .ok (.iload_n 1, 1) := by decide +kernel
theorem dX10_stand_61 : decode cX10_stand 61 = .ok (.imul, 1) := by decide +kernel
theorem dX10_stand_62 : decode cX10_stand 62 = .ok (.iadd, 1) := by decide +kernel
theorem dX10_stand_63 : decode cX10_stand 63 = .ok (.iconst 0, 1) := by decide +kernel
theorem dX10_stand_64 : decode cX10_stand 64 = .ok (.iadd, 1) := by decide +kernel
theorem dX10_stand_65 : decode cX10_stand 65 = .ok (.iload 5, 2) := by decide +kernel
theorem dX10_stand_67 : decode cX10_stand 67 = .ok (.iastore, 1) := by decide +kernel
theorem dX10_stand_68 : decode cX10_stand 68 = .ok (.aload_n 0, 1) := by decide +kernel
theorem dX10_stand_69 : decode cX10_stand 69 = .ok (.iload_n 2, 1) := by decide +kernel
theorem dX10_stand_70 : decode cX10_stand 70 = .ok (.invokevirtual 261, 3) := by decide +kernel
theorem dX10_stand_73 : decode cX10_stand 73 = .ok (.aload_n 0, 1) := by decide +kernel
theorem dX10_stand_74 : decode cX10_stand 74 = .ok (.aload_n 0, 1) := by decide +kernel
theorem dX10_stand_75 : decode cX10_stand 75 = .ok (.getfield 9, 3) := by decide +kernel
theorem dX10_stand_78 : decode cX10_stand 78 = .ok (.bipush 10, 2) := by decide +kernel
theorem dX10_stand_80 : decode cX10_stand 80 = .ok (.iaload, 1) := by decide +kernel
theorem dX10_stand_81 : decode cX10_stand 81 = .ok (.invokevirtual 267, 3) := by decide +kernel
theorem dX10_stand_84 : decode cX10_stand 84 = .ok (.istore 6, 2) := by decide +kernel
theorem dX10_stand_86 : decode cX10_stand 86 = .ok (.iload_n 3, 1) := by decide +kernel
theorem dX10_stand_87 : decode cX10_stand 87 = .ok (.ifCond .lt 10, 3) := by decide +kernel
theorem dX10_stand_90 : decode cX10_stand 90 = .ok (.iload 6, 2) := by decide +kernel
theorem dX10_stand_92 : decode cX10_stand 92 = .ok (.iload 4, 2) := by decide +kernel
theorem dX10_stand_94 : decode cX10_stand 94 = .ok (.if_icmp .le 10, 3) := by decide +kernel
theorem dX10_stand_97 : decode cX10_stand 97 = .ok (.iload 5, 2) := by decide +kernel
theorem dX10_stand_99 : decode cX10_stand 99 = .ok (.istore_n 3, 1) := by decide +kernel
theorem dX10_stand_100 : decode cX10_stand 100 = .ok (.iload 6, 2) := by decide +kernel
theorem dX10_stand_102 : decode cX10_stand 102 = .ok (.istore 4, 2) := by decide +kernel
theorem dX10_stand_104 : decode cX10_stand 104 = .ok (.iinc 5 1, 3) := by decide +kernel
theorem dX10_stand_107 : decode cX10_stand 107 = .ok (.goto (-61), 3) := by decide +kernel
theorem dX10_stand_110 : decode cX10_stand 110 = .ok (.iload_n 3, 1) := by decide +kernel
theorem dX10_stand_111 : decode cX10_stand 111 = .ok (.ireturn, 1) := by decide +kernel
theorem dX10_go_0 : decode cX10_go 0 = .ok (.iload_n 1, 1) := by decide +kernel
theorem dX10_go_1 : decode cX10_go 1 = .ok (.invokestatic 264, 3) := by decide +kernel
theorem dX10_go_4 : decode cX10_go 4 = .ok (.ifCond .ne 10, 3) := by decide +kernel
theorem dX10_go_7 : decode cX10_go 7 = .ok (.aload_n 0, 1) := by decide +kernel
theorem dX10_go_8 : decode cX10_go 8 = .ok (.ldc 91, 2) := by decide +kernel
theorem dX10_go_10 : decode cX10_go 10 = .ok (.invokevirtual 92, 3) := by decide +kernel
theorem dX10_go_13 : decode cX10_go 13 = .ok (.ireturn, 1) := by decide +kernel
theorem dX10_go_14 : decode cX10_go 14 = .ok (.aload_n 0, 1) := by decide +kernel
theorem dX10_go_15 : decode cX10_go 15 = .ok (.getfield 9, 3) := by decide +kernel
theorem dX10_go_18 : decode cX10_go 18 = .ok (.bipush 15, 2) := by decide +kernel
theorem dX10_go_20 : decode cX10_go 20 = .ok (.iaload, 1) := by decide +kernel
theorem dX10_go_21 : decode cX10_go 21 = .ok (.ifCond .ne 11, 3) := by decide +kernel
theorem dX10_go_24 : decode cX10_go 24 = .ok (.aload_n 0, 1) := by decide +kernel
theorem dX10_go_25 : decode cX10_go 25 = .ok (.ldc_w 260, 3) := by decide +kernel
theorem dX10_go_28 : decode cX10_go 28 = .ok (.invokevirtual 92, 3) := by decide +kernel
theorem dX10_go_31 : decode cX10_go 31 = .ok (.ireturn, 1) := by decide +kernel
theorem dX10_go_32 : decode cX10_go 32 = .ok (.aload_n 0, 1) := by decide +kernel
theorem dX10_go_33 : decode cX10_go 33 = .ok (.getfield 9, 3) := by decide +kernel
theorem dX10_go_36 : decode cX10_go 36 = .ok (.aload_n 0, 1) := by decide +kernel
theorem dX10_go_37 : decode cX10_go 37 = .ok (.getfield 16, 3) := by decide +kernel
theorem dX10_go_40 : decode cX10_go 40 = .ok (.invokestatic 83, 3) := by decide +kernel
theorem dX10_go_43 : decode cX10_go 43 = .ok (.iconst (-1), 1) := by decide +kernel
theorem dX10_go_44 : decode cX10_go 44 = .ok (.istore_n 2, 1) := by decide +kernel
theorem dX10_go_45 : decode cX10_go 45 = .ok (.iconst 0, 1) := by decide +kernel
theorem dX10_go_46 : decode cX10_go 46 = .ok (.istore_n 3, 1) := by decide +kernel
theorem dX10_go_47 : decode cX10_go 47 = .ok (.iconst 0, 1) := by decide +kernel
theorem dX10_go_48 : decode cX10_go 48 = .ok (.istore 4, 2) := by decide +kernel
theorem dX10_go_50 : decode cX10_go 50 = .ok (.iload 4, 2) := by decide +kernel
theorem dX10_go_52 : decode cX10_go 52 = .ok (.bipush 6, 2) := by decide +kernel
theorem dX10_go_54 : decode cX10_go 54 = .ok (.if_icmp .gt 75, 3) := by decide +kernel
theorem dX10_go_57 : decode cX10_go 57 = .ok (.aload_n 0, 1) := by decide +kernel
theorem dX10_go_58 : decode cX10_go 58 = .ok (.getfield 9, 3) := by decide +kernel
theorem dX10_go_61 : decode cX10_go 61 = .ok (.bipush 63, 2) := by decide +kernel
theorem dX10_go_63 : decode cX10_go 63 = .ok (.iconst 3, 1) := by decide +kernel
theorem dX10_go_64 : decode cX10_go 64 = .ok (.aload_n 0, 1) := by decide +kernel
theorem dX10_go_65 : decode cX10_go 65 = .ok (.getfield 9, 3) := by decide +kernel
theorem dX10_go_68 : decode cX10_go 68 = .ok (.bipush 11, 2) := by decide +kernel
theorem dX10_go_70 : decode cX10_go 70 = .ok (.iaload, 1) := by decide +kernel
theorem dX10_go_71 : decode cX10_go 71 = .ok (.imul, 1) := by decide +kernel
theorem dX10_go_72 : decode cX10_go 72 = .ok (.iadd, 1) := by decide +kernel
theorem dX10_go_73 : decode cX10_go 73 = .ok (.iconst 0, 1) := by decide +kernel
theorem dX10_go_74 : decode cX10_go 74 = .ok (.iadd, 1) := by decide +kernel
theorem dX10_go_75 : decode cX10_go 75 = .ok (.iload 4, 2) := by decide +kernel
theorem dX10_go_77 : decode cX10_go 77 = .ok (.iastore, 1) := by decide +kernel
theorem dX10_go_78 : decode cX10_go 78 = .ok (.aload_n 0, 1) := by decide +kernel
theorem dX10_go_79 : decode cX10_go 79 = .ok (.iload_n 1, 1) := by decide +kernel
theorem dX10_go_80 : decode cX10_go 80 = .ok (.invokevirtual 261, 3) := by decide +kernel
theorem dX10_go_83 : decode cX10_go 83 = .ok (.aload_n 0, 1) := by decide +kernel
theorem dX10_go_84 : decode cX10_go 84 = .ok (.aload_n 0, 1) := by decide +kernel
theorem dX10_go_85 : decode cX10_go 85 = .ok (.getfield 9, 3) := by decide +kernel
theorem dX10_go_88 : decode cX10_go 88 = .ok (.bipush 10, 2) := by decide +kernel
theorem dX10_go_90 : decode cX10_go 90 = .ok (.iaload, 1) := by decide +kernel
theorem dX10_go_91 : decode cX10_go 91 = .ok (.bipush 10, 2) := by decide +kernel
theorem dX10_go_93 : decode cX10_go 93 = .ok (.aload_n 0, 1) := by decide +kernel
theorem dX10_go_94 : decode cX10_go 94 = .ok (.getfield 9, 3) := by decide +kernel
theorem dX10_go_97 : decode cX10_go 97 = .ok (.bipush 7, 2) := by decide +kernel
theorem dX10_go_99 : decode cX10_go 99 = .ok (.iaload, 1) := by decide +kernel
theorem dX10_go_100 : decode cX10_go 100 = .ok (.imul, 1) := by decide +kernel
theorem dX10_go_101 : decode cX10_go 101 = .ok (.isub, 1) := by decide +kernel
theorem dX10_go_102 : decode cX10_go 102 = .ok (.invokevirtual 267, 3) := by decide +kernel
theorem dX10_go_105 : decode cX10_go 105 = .ok (.istore 5, 2) := by decide +kernel
theorem dX10_go_107 : decode cX10_go 107 = .ok (.iload_n 2, 1) := by decide +kernel
theorem dX10_go_108 : decode cX10_go 108 = .ok (.ifCond .lt 9, 3) := by decide +kernel
theorem dX10_go_111 : decode cX10_go 111 = .ok (.iload 5, 2) := by decide +kernel
theorem dX10_go_113 : decode cX10_go 113 = .ok (.iload_n 3, 1) := by decide +kernel
theorem dX10_go_114 : decode cX10_go 114 = .ok (.if_icmp .le 9, 3) := by decide +kernel
theorem dX10_go_117 : decode cX10_go 117 = .ok (.iload 4, 2) := by decide +kernel
theorem dX10_go_119 : decode cX10_go 119 = .ok (.istore_n 2, 1) := by decide +kernel
theorem dX10_go_120 : decode cX10_go 120 = .ok (.iload 5, 2) := by decide +kernel
theorem dX10_go_122 : decode cX10_go 122 = .ok (.istore_n 3, 1) := by decide +kernel
theorem dX10_go_123 : decode cX10_go 123 = .ok (.iinc 4 1, 3) := by decide +kernel
theorem dX10_go_126 : decode cX10_go 126 = .ok (.goto (-76), 3) := by decide +kernel
theorem dX10_go_129 : decode cX10_go 129 = .ok (.iload_n 2, 1) := by decide +kernel
theorem dX10_go_130 : decode cX10_go 130 = .ok (.ireturn, 1) := by decide +kernel
theorem dX10_began_0 : decode cX10_began 0 = .ok (.aload_n 0, 1) := by decide +kernel
theorem dX10_began_1 : decode cX10_began 1 = .ok (.getfield 290, 3) := by decide +kernel
theorem dX10_began_4 : decode cX10_began 4 = .ok (.bipush 30, 2) := by decide +kernel
theorem dX10_began_6 : decode cX10_began 6 = .ok (.if_icmp .ge 23, 3) := by decide +kernel
theorem dX10_began_9 : decode cX10_began 9 = .ok (.aload_n 0, 1) := by decide +kernel
theorem dX10_began_10 : decode cX10_began 10 = .ok (.getfield 54, 3) := by decide +kernel
theorem dX10_began_13 : decode cX10_began 13 = .ok (.aload_n 0, 1) := by decide +kernel
theorem dX10_began_14 : decode cX10_began 14 = .ok (.getfield 290, 3) := by decide +kernel
theorem dX10_began_17 : decode cX10_began 17 = .ok (.iload_n 1, 1) := by decide +kernel
theorem dX10_began_18 : decode cX10_began 18 = .ok (.iastore, 1) := by decide +kernel
theorem dX10_began_19 : decode cX10_began 19 = .ok (.aload_n 0, 1) := by decide +kernel
theorem dX10_began_20 : decode cX10_began 20 = .ok (.dup, 1) := by decide +kernel
theorem dX10_began_21 : decode cX10_began 21 = .ok (.getfield 290, 3) := by decide +kernel
theorem dX10_began_24 : decode cX10_began 24 = .ok (.iconst 1, 1) := by decide +kernel
theorem dX10_began_25 : decode cX10_began 25 = .ok (.iadd, 1) := by decide +kernel
theorem dX10_began_26 : decode cX10_began 26 = .ok (.putfield 290, 3) := by decide +kernel
theorem dX10_began_29 : decode cX10_began 29 = .ok (.return_, 1) := by decide +kernel
theorem dX10_hasOwn_0 : decode cX10_hasOwn 0 = .ok (.iload_n 0, 1) := by decide +kernel
theorem dX10_hasOwn_1 : decode cX10_hasOwn 1 = .ok (.tableswitch 93 0 5 #[39, 41, 56, 67, 78, 56], 39) := by decide +kernel
theorem dX10_hasOwn_40 : decode cX10_hasOwn 40 = .ok (.iconst 1, 1) := by decide +kernel
theorem dX10_hasOwn_41 : decode cX10_hasOwn 41 = .ok (.ireturn, 1) := by decide +kernel
theorem dX10_hasOwn_42 : decode cX10_hasOwn 42 = .ok (.iload_n 1, 1) := by decide +kernel
theorem dX10_hasOwn_43 : decode cX10_hasOwn 43 = .ok (.ifCond .eq 8, 3) := by decide +kernel
theorem dX10_hasOwn_46 : decode cX10_hasOwn 46 = .ok (.iload_n 1, 1) := by decide +kernel
theorem dX10_hasOwn_47 : decode cX10_hasOwn 47 = .ok (.iconst 3, 1) := by decide +kernel
theorem dX10_hasOwn_48 : decode cX10_hasOwn 48 = .ok (.if_icmp .ne 7, 3) := by decide +kernel
theorem dX10_hasOwn_51 : decode cX10_hasOwn 51 = .ok (.iconst 1, 1) := by decide +kernel
theorem dX10_hasOwn_52 : decode cX10_hasOwn 52 = .ok (.goto 4, 3) := by decide +kernel
theorem dX10_hasOwn_55 : decode cX10_hasOwn 55 = .ok (.iconst 0, 1) := by decide +kernel
theorem dX10_hasOwn_56 : decode cX10_hasOwn 56 = .ok (.ireturn, 1) := by decide +kernel
theorem dX10_hasOwn_57 : decode cX10_hasOwn 57 = .ok (.iload_n 1, 1) := by decide +kernel
theorem dX10_hasOwn_58 : decode cX10_hasOwn 58 = .ok (.iconst 1, 1) := by decide +kernel
theorem dX10_hasOwn_59 : decode cX10_hasOwn 59 = .ok (.if_icmp .ne 7, 3) := by decide +kernel
theorem dX10_hasOwn_62 : decode cX10_hasOwn 62 = .ok (.iconst 1, 1) := by decide +kernel
theorem dX10_hasOwn_63 : decode cX10_hasOwn 63 = .ok (.goto 4, 3) := by decide +kernel
theorem dX10_hasOwn_66 : decode cX10_hasOwn 66 = .ok (.iconst 0, 1) := by decide +kernel
theorem dX10_hasOwn_67 : decode cX10_hasOwn 67 = .ok (.ireturn, 1) := by decide +kernel
theorem dX10_hasOwn_68 : decode cX10_hasOwn 68 = .ok (.iload_n 1, 1) := by decide +kernel
theorem dX10_hasOwn_69 : decode cX10_hasOwn 69 = .ok (.iconst 2, 1) := by decide +kernel
theorem dX10_hasOwn_70 : decode cX10_hasOwn 70 = .ok (.if_icmp .ne 7, 3) := by decide +kernel
theorem dX10_hasOwn_73 : decode cX10_hasOwn 73 = .ok (.iconst 1, 1) := by decide +kernel
theorem dX10_hasOwn_74 : decode cX10_hasOwn 74 = .ok (.goto 4, 3) := by decide +kernel
theorem dX10_hasOwn_77 : decode cX10_hasOwn 77 = .ok (.iconst 0, 1) := by decide +kernel
theorem dX10_hasOwn_78 : decode cX10_hasOwn 78 = .ok (.ireturn, 1) := by decide +kernel
theorem dX10_hasOwn_79 : decode cX10_hasOwn 79 = .ok (.iload_n 1, 1) := by decide +kernel
theorem dX10_hasOwn_80 : decode cX10_hasOwn 80 = .ok (.ifCond .eq 8, 3) := by decide +kernel
theorem dX10_hasOwn_83 : decode cX10_hasOwn 83 = .ok (.iload_n 1, 1) := by decide +kernel
theorem dX10_hasOwn_84 : decode cX10_hasOwn 84 = .ok (.iconst 2, 1) := by decide +kernel
theorem dX10_hasOwn_85 : decode cX10_hasOwn 85 = .ok (.if_icmp .ne 7, 3) := by decide +kernel
theorem dX10_hasOwn_88 : decode cX10_hasOwn 88 = .ok (.iconst 1, 1) := by decide +kernel
theorem dX10_hasOwn_89 : decode cX10_hasOwn 89 = .ok (.goto 4, 3) := by decide +kernel
theorem dX10_hasOwn_92 : decode cX10_hasOwn 92 = .ok (.iconst 0, 1) := by decide +kernel
theorem dX10_hasOwn_93 : decode cX10_hasOwn 93 = .ok (.ireturn, 1) := by decide +kernel
theorem dX10_hasOwn_94 : decode cX10_hasOwn 94 = .ok (.iload_n 1, 1) := by decide +kernel
theorem dX10_hasOwn_95 : decode cX10_hasOwn 95 = .ok (.iconst 2, 1) := by decide +kernel
theorem dX10_hasOwn_96 : decode cX10_hasOwn 96 = .ok (.if_icmp .ge 7, 3) := by decide +kernel
theorem dX10_hasOwn_99 : decode cX10_hasOwn 99 = .ok (.iconst 1, 1) := by decide +kernel
theorem dX10_hasOwn_100 : decode cX10_hasOwn 100 = .ok (.goto 4, 3) := by decide +kernel
theorem dX10_hasOwn_103 : decode cX10_hasOwn 103 = .ok (.iconst 0, 1) := by decide +kernel
theorem dX10_hasOwn_104 : decode cX10_hasOwn 104 = .ok (.ireturn, 1) := by decide +kernel
theorem dX10_voiced_0 : decode cX10_voiced 0 = .ok (.aload_n 0, 1) := by decide +kernel
theorem dX10_voiced_1 : decode cX10_voiced 1 = .ok (.aload_n 0, 1) := by decide +kernel
theorem dX10_voiced_2 : decode cX10_voiced 2 = .ok (.aload_n 0, 1) := by decide +kernel
theorem dX10_voiced_3 : decode cX10_voiced 3 = .ok (.getfield 293, 3) := by decide +kernel
theorem dX10_voiced_6 : decode cX10_voiced 6 = .ok (.iconst 0, 1) := by decide +kernel
theorem dX10_voiced_7 : decode cX10_voiced 7 = .ok (.invokevirtual 125, 3) := by decide +kernel
theorem dX10_voiced_10 : decode cX10_voiced 10 = .ok (.iload_n 1, 1) := by decide +kernel
theorem dX10_voiced_11 : decode cX10_voiced 11 = .ok (.iload_n 2, 1) := by decide +kernel
theorem dX10_voiced_12 : decode cX10_voiced 12 = .ok (.invokevirtual 296, 3) := by decide +kernel
theorem dX10_voiced_15 : decode cX10_voiced 15 = .ok (.ireturn, 1) := by decide +kernel
theorem dX10_bodyFrom_0 : decode cX10_bodyFrom 0 = .ok (.iload_n 1, 1) := by decide +kernel
theorem dX10_bodyFrom_1 : decode cX10_bodyFrom 1 = .ok (.istore 4, 2) := by decide +kernel
theorem dX10_bodyFrom_3 : decode cX10_bodyFrom 3 = .ok (.iload 4, 2) := by decide +kernel
theorem dX10_bodyFrom_5 : decode cX10_bodyFrom 5 = .ok (.iload_n 2, 1) := by decide +kernel
theorem dX10_bodyFrom_6 : decode cX10_bodyFrom 6 = .ok (.invokestatic 299, 3) := by decide +kernel
theorem dX10_bodyFrom_9 : decode cX10_bodyFrom 9 = .ok (.ifCond .ne 13, 3) := by decide +kernel
theorem dX10_bodyFrom_12 : decode cX10_bodyFrom 12 = .ok (.iload 4, 2) := by decide +kernel
theorem dX10_bodyFrom_14 : decode cX10_bodyFrom 14 = .ok (.invokestatic 155, 3) := by decide +kernel
theorem dX10_bodyFrom_17 : decode cX10_bodyFrom 17 = .ok (.istore 4, 2) := by decide +kernel
theorem dX10_bodyFrom_19 : decode cX10_bodyFrom 19 = .ok (.goto (-16), 3) := by decide +kernel
theorem dX10_bodyFrom_22 : decode cX10_bodyFrom 22 = .ok (.aload_n 0, 1) := by decide +kernel
theorem dX10_bodyFrom_23 : decode cX10_bodyFrom 23 = .ok (.getfield 302, 3) := by decide +kernel
theorem dX10_bodyFrom_26 : decode cX10_bodyFrom 26 = .ok (.ifCond .eq 7, 3) := by decide +kernel
theorem dX10_bodyFrom_29 : decode cX10_bodyFrom 29 = .ok (.iconst 0, 1) := by decide +kernel
theorem dX10_bodyFrom_30 : decode cX10_bodyFrom 30 = .ok (.goto 11, 3) := by decide +kernel
theorem dX10_bodyFrom_33 : decode cX10_bodyFrom 33 = .ok (.aload_n 0, 1) := by decide +kernel
theorem dX10_bodyFrom_34 : decode cX10_bodyFrom 34 = .ok (.iload 4, 2) := by decide +kernel
theorem dX10_bodyFrom_36 : decode cX10_bodyFrom 36 = .ok (.iload_n 2, 1) := by decide +kernel
theorem dX10_bodyFrom_37 : decode cX10_bodyFrom 37 = .ok (.iload_n 3, 1) := by decide +kernel
theorem dX10_bodyFrom_38 : decode cX10_bodyFrom 38 = .ok (.invokevirtual 305, 3) := by decide +kernel
theorem dX10_bodyFrom_41 : decode cX10_bodyFrom 41 = .ok (.ireturn, 1) := by decide +kernel
theorem dX10_body_0 : decode cX10_body 0 = .ok (.aload_n 0, 1) := by decide +kernel
theorem dX10_body_1 : decode cX10_body 1 = .ok (.aload_n 0, 1) := by decide +kernel
theorem dX10_body_2 : decode cX10_body 2 = .ok (.getfield 293, 3) := by decide +kernel
theorem dX10_body_5 : decode cX10_body 5 = .ok (.iconst 1, 1) := by decide +kernel
theorem dX10_body_6 : decode cX10_body 6 = .ok (.invokevirtual 125, 3) := by decide +kernel
theorem dX10_body_9 : decode cX10_body 9 = .ok (.istore 4, 2) := by decide +kernel
theorem dX10_body_11 : decode cX10_body 11 = .ok (.iconst 4, 1) := by decide +kernel
theorem dX10_body_12 : decode cX10_body 12 = .ok (.iload_n 1, 1) := by decide +kernel
theorem dX10_body_13 : decode cX10_body 13 = .ok (.imul, 1) := by decide +kernel
theorem dX10_body_14 : decode cX10_body 14 = .ok (.iload_n 2, 1) := by decide +kernel
theorem dX10_body_15 : decode cX10_body 15 = .ok (.iadd, 1) := by decide +kernel
theorem dX10_body_16 : decode cX10_body 16 = .ok (.tableswitch 336 0 24 #[116, 129, 144, 160, 205, 336, 336, 221, 336, 246, 336, 336, 336, 336, 261, 336, 277, 336, 293, 336, 336, 312, 336, 336, 328], 116) := by decide +kernel
theorem dX10_body_132 : decode cX10_body 132 = .ok (.aload_n 0, 1) := by decide +kernel
theorem dX10_body_133 : decode cX10_body 133 = .ok (.bipush 10, 2) := by decide +kernel
theorem dX10_body_135 : decode cX10_body 135 = .ok (.invokevirtual 308, 3) := by decide +kernel
theorem dX10_body_138 : decode cX10_body 138 = .ok (.iload_n 3, 1) := by decide +kernel
theorem dX10_body_139 : decode cX10_body 139 = .ok (.aload_n 0, 1) := by decide +kernel
theorem dX10_body_140 : decode cX10_body 140 = .ok (.getfield 293, 3) := by decide +kernel
theorem dX10_body_143 : decode cX10_body 143 = .ok (.iadd, 1) := by decide +kernel
theorem dX10_body_144 : decode cX10_body 144 = .ok (.ireturn, 1) := by decide +kernel
theorem dX10_body_145 : decode cX10_body 145 = .ok (.aload_n 0, 1) := by decide +kernel
theorem dX10_body_146 : decode cX10_body 146 = .ok (.bipush 11, 2) := by decide +kernel
theorem dX10_body_148 : decode cX10_body 148 = .ok (.invokevirtual 308, 3) := by decide +kernel
theorem dX10_body_151 : decode cX10_body 151 = .ok (.aload_n 0, 1) := by decide +kernel
theorem dX10_body_152 : decode cX10_body 152 = .ok (.iconst 0, 1) := by decide +kernel
theorem dX10_body_153 : decode cX10_body 153 = .ok (.iload_n 3, 1) := by decide +kernel
theorem dX10_body_154 : decode cX10_body 154 = .ok (.invokevirtual 311, 3) := by decide +kernel
theorem dX10_body_157 : decode cX10_body 157 = .ok (.iconst 2, 1) := by decide +kernel
theorem dX10_body_158 : decode cX10_body 158 = .ok (.imul, 1) := by decide +kernel
theorem dX10_body_159 : decode cX10_body 159 = .ok (.ireturn, 1) := by decide +kernel
theorem dX10_body_160 : decode cX10_body 160 = .ok (.aload_n 0, 1) := by decide +kernel
theorem dX10_body_161 : decode cX10_body 161 = .ok (.bipush 12, 2) := by decide +kernel
theorem dX10_body_163 : decode cX10_body 163 = .ok (.invokevirtual 308, 3) := by decide +kernel
theorem dX10_body_166 : decode cX10_body 166 = .ok (.aload_n 0, 1) := by decide +kernel
theorem dX10_body_167 : decode cX10_body 167 = .ok (.iconst 1, 1) := by decide +kernel
theorem dX10_body_168 : decode cX10_body 168 = .ok (.iload_n 3, 1) := by decide +kernel
theorem dX10_body_169 : decode cX10_body 169 = .ok (.invokevirtual 311, 3) := by decide +kernel
theorem dX10_body_172 : decode cX10_body 172 = .ok (.iload 4, 2) := by decide +kernel
theorem dX10_body_174 : decode cX10_body 174 = .ok (.isub, 1) := by decide +kernel
theorem dX10_body_175 : decode cX10_body 175 = .ok (.ireturn, 1) := by decide +kernel
theorem dX10_body_176 : decode cX10_body 176 = .ok (.aload_n 0, 1) := by decide +kernel
theorem dX10_body_177 : decode cX10_body 177 = .ok (.bipush 13, 2) := by decide +kernel
theorem dX10_body_179 : decode cX10_body 179 = .ok (.invokevirtual 308, 3) := by decide +kernel
theorem dX10_body_182 : decode cX10_body 182 = .ok (.aload_n 0, 1) := by decide +kernel
theorem dX10_body_183 : decode cX10_body 183 = .ok (.iload 4, 2) := by decide +kernel
theorem dX10_body_185 : decode cX10_body 185 = .ok (.aload_n 0, 1) := by decide +kernel
theorem dX10_body_186 : decode cX10_body 186 = .ok (.getfield 293, 3) := by decide +kernel
theorem dX10_body_189 : decode cX10_body 189 = .ok (.if_icmp .ne 7, 3) := by decide +kernel
theorem dX10_body_192 : decode cX10_body 192 = .ok (.iconst 1, 1) := by decide +kernel
theorem dX10_body_193 : decode cX10_body 193 = .ok (.goto 4, 3) := by decide +kernel
theorem dX10_body_196 : decode cX10_body 196 = .ok (.iconst 0, 1) := by decide +kernel
theorem dX10_body_197 : decode cX10_body 197 = .ok (.putfield 302, 3) := by decide +kernel
theorem dX10_body_200 : decode cX10_body 200 = .ok (.aload_n 0, 1) := by decide +kernel
theorem dX10_body_201 : decode cX10_body 201 = .ok (.getfield 302, 3) := by decide +kernel
theorem dX10_body_204 : decode cX10_body 204 = .ok (.ifCond .eq 7, 3) := by decide +kernel
theorem dX10_body_207 : decode cX10_body 207 = .ok (.iconst 0, 1) := by decide +kernel
theorem dX10_body_208 : decode cX10_body 208 = .ok (.goto 12, 3) := by decide +kernel
theorem dX10_body_211 : decode cX10_body 211 = .ok (.iload_n 3, 1) := by decide +kernel
theorem dX10_body_212 : decode cX10_body 212 = .ok (.iload 4, 2) := by decide +kernel
theorem dX10_body_214 : decode cX10_body 214 = .ok (.aload_n 0, 1) := by decide +kernel
theorem dX10_body_215 : decode cX10_body 215 = .ok (.getfield 293, 3) := by decide +kernel
theorem dX10_body_218 : decode cX10_body 218 = .ok (.isub, 1) := by decide +kernel
theorem dX10_body_219 : decode cX10_body 219 = .ok (.idiv, 1) := by decide +kernel
theorem dX10_body_220 : decode cX10_body 220 = .ok (.ireturn, 1) := by decide +kernel
theorem dX10_body_221 : decode cX10_body 221 = .ok (.aload_n 0, 1) := by decide +kernel
theorem dX10_body_222 : decode cX10_body 222 = .ok (.bipush 20, 2) := by decide +kernel
theorem dX10_body_224 : decode cX10_body 224 = .ok (.invokevirtual 308, 3) := by decide +kernel
theorem dX10_body_227 : decode cX10_body 227 = .ok (.aload_n 0, 1) := by decide +kernel
theorem dX10_body_228 : decode cX10_body 228 = .ok (.iconst 0, 1) := by decide +kernel
theorem dX10_body_229 : decode cX10_body 229 = .ok (.iconst 0, 1) := by decide +kernel
theorem dX10_body_230 : decode cX10_body 230 = .ok (.iload_n 3, 1) := by decide +kernel
theorem dX10_body_231 : decode cX10_body 231 = .ok (.invokevirtual 296, 3) := by decide +kernel
theorem dX10_body_234 : decode cX10_body 234 = .ok (.iconst 3, 1) := by decide +kernel
theorem dX10_body_235 : decode cX10_body 235 = .ok (.isub, 1) := by decide +kernel
theorem dX10_body_236 : decode cX10_body 236 = .ok (.ireturn, 1) := by decide +kernel
theorem dX10_body_237 : decode cX10_body 237 = .ok (.aload_n 0, 1) := by decide +kernel
theorem dX10_body_238 : decode cX10_body 238 = .ok (.bipush 21, 2) := by decide +kernel
theorem dX10_body_240 : decode cX10_body 240 = .ok (.invokevirtual 308, 3) := by decide +kernel
theorem dX10_body_243 : decode cX10_body 243 = .ok (.aload_n 0, 1) := by decide +kernel
theorem dX10_body_244 : decode cX10_body 244 = .ok (.iconst 0, 1) := by decide +kernel
theorem dX10_body_245 : decode cX10_body 245 = .ok (.iconst 3, 1) := by decide +kernel
theorem dX10_body_246 : decode cX10_body 246 = .ok (.iload_n 3, 1) := by decide +kernel
theorem dX10_body_247 : decode cX10_body 247 = .ok (.invokevirtual 296, 3) := by decide +kernel
theorem dX10_body_250 : decode cX10_body 250 = .ok (.istore 5, 2) := by decide +kernel
theorem dX10_body_252 : decode cX10_body 252 = .ok (.iload 5, 2) := by decide +kernel
theorem dX10_body_254 : decode cX10_body 254 = .ok (.aload_n 0, 1) := by decide +kernel
theorem dX10_body_255 : decode cX10_body 255 = .ok (.iconst 1, 1) := by decide +kernel
theorem dX10_body_256 : decode cX10_body 256 = .ok (.iconst 1, 1) := by decide +kernel
theorem dX10_body_257 : decode cX10_body 257 = .ok (.invokevirtual 311, 3) := by decide +kernel
theorem dX10_body_260 : decode cX10_body 260 = .ok (.iadd, 1) := by decide +kernel
theorem dX10_body_261 : decode cX10_body 261 = .ok (.ireturn, 1) := by decide +kernel
theorem dX10_body_262 : decode cX10_body 262 = .ok (.aload_n 0, 1) := by decide +kernel
theorem dX10_body_263 : decode cX10_body 263 = .ok (.bipush 30, 2) := by decide +kernel
theorem dX10_body_265 : decode cX10_body 265 = .ok (.invokevirtual 308, 3) := by decide +kernel
theorem dX10_body_268 : decode cX10_body 268 = .ok (.aload_n 0, 1) := by decide +kernel
theorem dX10_body_269 : decode cX10_body 269 = .ok (.iconst 1, 1) := by decide +kernel
theorem dX10_body_270 : decode cX10_body 270 = .ok (.iconst 1, 1) := by decide +kernel
theorem dX10_body_271 : decode cX10_body 271 = .ok (.iload_n 3, 1) := by decide +kernel
theorem dX10_body_272 : decode cX10_body 272 = .ok (.invokevirtual 296, 3) := by decide +kernel
theorem dX10_body_275 : decode cX10_body 275 = .ok (.ineg, 1) := by decide +kernel
theorem dX10_body_276 : decode cX10_body 276 = .ok (.ireturn, 1) := by decide +kernel
theorem dX10_body_277 : decode cX10_body 277 = .ok (.aload_n 0, 1) := by decide +kernel
theorem dX10_body_278 : decode cX10_body 278 = .ok (.bipush 40, 2) := by decide +kernel
theorem dX10_body_280 : decode cX10_body 280 = .ok (.invokevirtual 308, 3) := by decide +kernel
theorem dX10_body_283 : decode cX10_body 283 = .ok (.aload_n 0, 1) := by decide +kernel
theorem dX10_body_284 : decode cX10_body 284 = .ok (.iconst 0, 1) := by decide +kernel
theorem dX10_body_285 : decode cX10_body 285 = .ok (.iconst 2, 1) := by decide +kernel
theorem dX10_body_286 : decode cX10_body 286 = .ok (.iload_n 3, 1) := by decide +kernel
theorem dX10_body_287 : decode cX10_body 287 = .ok (.iconst 2, 1) := by decide +kernel
theorem dX10_body_288 : decode cX10_body 288 = .ok (.idiv, 1) := by decide +kernel
theorem dX10_body_289 : decode cX10_body 289 = .ok (.invokevirtual 296, 3) := by decide +kernel
theorem dX10_body_292 : decode cX10_body 292 = .ok (.ireturn, 1) := by decide +kernel
theorem dX10_body_293 : decode cX10_body 293 = .ok (.aload_n 0, 1) := by decide +kernel
theorem dX10_body_294 : decode cX10_body 294 = .ok (.bipush 50, 2) := by decide +kernel
theorem dX10_body_296 : decode cX10_body 296 = .ok (.invokevirtual 308, 3) := by decide +kernel
theorem dX10_body_299 : decode cX10_body 299 = .ok (.aload_n 0, 1) := by decide +kernel
theorem dX10_body_300 : decode cX10_body 300 = .ok (.iconst 3, 1) := by decide +kernel
theorem dX10_body_301 : decode cX10_body 301 = .ok (.iconst 0, 1) := by decide +kernel
theorem dX10_body_302 : decode cX10_body 302 = .ok (.iload_n 3, 1) := by decide +kernel
theorem dX10_body_303 : decode cX10_body 303 = .ok (.invokevirtual 296, 3) := by decide +kernel
theorem dX10_body_306 : decode cX10_body 306 = .ok (.iconst 3, 1) := by decide +kernel
theorem dX10_body_307 : decode cX10_body 307 = .ok (.imul, 1) := by decide +kernel
theorem dX10_body_308 : decode cX10_body 308 = .ok (.ireturn, 1) := by decide +kernel
theorem dX10_body_309 : decode cX10_body 309 = .ok (.aload_n 0, 1) := by decide +kernel
theorem dX10_body_310 : decode cX10_body 310 = .ok (.bipush 51, 2) := by decide +kernel
theorem dX10_body_312 : decode cX10_body 312 = .ok (.invokevirtual 308, 3) := by decide +kernel
theorem dX10_body_315 : decode cX10_body 315 = .ok (.aload_n 0, 1) := by decide +kernel
theorem dX10_body_316 : decode cX10_body 316 = .ok (.iconst 3, 1) := by decide +kernel
theorem dX10_body_317 : decode cX10_body 317 = .ok (.iconst 2, 1) := by decide +kernel
theorem dX10_body_318 : decode cX10_body 318 = .ok (.iload_n 3, 1) := by decide +kernel
theorem dX10_body_319 : decode cX10_body 319 = .ok (.invokevirtual 296, 3) := by decide +kernel
theorem dX10_body_322 : decode cX10_body 322 = .ok (.aload_n 0, 1) := by decide +kernel
theorem dX10_body_323 : decode cX10_body 323 = .ok (.getfield 293, 3) := by decide +kernel
theorem dX10_body_326 : decode cX10_body 326 = .ok (.ixor, 1) := by decide +kernel
theorem dX10_body_327 : decode cX10_body 327 = .ok (.ireturn, 1) := by decide +kernel
theorem dX10_body_328 : decode cX10_body 328 = .ok (.aload_n 0, 1) := by decide +kernel
theorem dX10_body_329 : decode cX10_body 329 = .ok (.bipush 60, 2) := by decide +kernel
theorem dX10_body_331 : decode cX10_body 331 = .ok (.invokevirtual 308, 3) := by decide +kernel
theorem dX10_body_334 : decode cX10_body 334 = .ok (.aload_n 0, 1) := by decide +kernel
theorem dX10_body_335 : decode cX10_body 335 = .ok (.iconst 3, 1) := by decide +kernel
theorem dX10_body_336 : decode cX10_body 336 = .ok (.iconst 1, 1) := by decide +kernel
theorem dX10_body_337 : decode cX10_body 337 = .ok (.iload_n 3, 1) := by decide +kernel
theorem dX10_body_338 : decode cX10_body 338 = .ok (.iconst 1, 1) := by decide +kernel
theorem dX10_body_339 : decode cX10_body 339 = .ok (.iadd, 1) := by decide +kernel
theorem dX10_body_340 : decode cX10_body 340 = .ok (.invokevirtual 296, 3) := by decide +kernel
theorem dX10_body_343 : decode cX10_body 343 = .ok (.ireturn, 1) := by decide +kernel
theorem dX10_body_344 : decode cX10_body 344 = .ok (.aload_n 0, 1) := by decide +kernel
theorem dX10_body_345 : decode cX10_body 345 = .ok (.bipush 70, 2) := by decide +kernel
theorem dX10_body_347 : decode cX10_body 347 = .ok (.invokevirtual 308, 3) := by decide +kernel
theorem dX10_body_350 : decode cX10_body 350 = .ok (.iconst 4, 1) := by decide +kernel
theorem dX10_body_351 : decode cX10_body 351 = .ok (.ireturn, 1) := by decide +kernel
theorem dX10_body_352 : decode cX10_body 352 = .ok (.aload_n 0, 1) := by decide +kernel
theorem dX10_body_353 : decode cX10_body 353 = .ok (.bipush 71, 2) := by decide +kernel
theorem dX10_body_355 : decode cX10_body 355 = .ok (.invokevirtual 308, 3) := by decide +kernel
theorem dX10_body_358 : decode cX10_body 358 = .ok (.aload_n 0, 1) := by decide +kernel
theorem dX10_body_359 : decode cX10_body 359 = .ok (.iconst 0, 1) := by decide +kernel
theorem dX10_body_360 : decode cX10_body 360 = .ok (.iconst 1, 1) := by decide +kernel
theorem dX10_body_361 : decode cX10_body 361 = .ok (.iload_n 3, 1) := by decide +kernel
theorem dX10_body_362 : decode cX10_body 362 = .ok (.invokevirtual 296, 3) := by decide +kernel
theorem dX10_body_365 : decode cX10_body 365 = .ok (.iload 4, 2) := by decide +kernel
theorem dX10_body_367 : decode cX10_body 367 = .ok (.iadd, 1) := by decide +kernel
theorem dX10_body_368 : decode cX10_body 368 = .ok (.ireturn, 1) := by decide +kernel
theorem dX10_voice_0 : decode cX10_voice 0 = .ok (.aload_n 0, 1) := by decide +kernel
theorem dX10_voice_1 : decode cX10_voice 1 = .ok (.iload_n 1, 1) := by decide +kernel
theorem dX10_voice_2 : decode cX10_voice 2 = .ok (.bipush 15, 2) := by decide +kernel
theorem dX10_voice_4 : decode cX10_voice 4 = .ok (.invokevirtual 113, 3) := by decide +kernel
theorem dX10_voice_7 : decode cX10_voice 7 = .ok (.ifCond .eq 12, 3) := by decide +kernel
theorem dX10_voice_10 : decode cX10_voice 10 = .ok (.iload_n 2, 1) := by decide +kernel
theorem dX10_voice_11 : decode cX10_voice 11 = .ok (.iconst 0, 1) := by decide +kernel
theorem dX10_voice_12 : decode cX10_voice 12 = .ok (.iconst 3, 1) := by decide +kernel
theorem dX10_voice_13 : decode cX10_voice 13 = .ok (.invokestatic 79, 3) := by decide +kernel
theorem dX10_voice_16 : decode cX10_voice 16 = .ok (.ifCond .ne 10, 3) := by decide +kernel
theorem dX10_voice_19 : decode cX10_voice 19 = .ok (.aload_n 0, 1) := by decide +kernel
theorem dX10_voice_20 : decode cX10_voice 20 = .ok (.ldc 91, 2) := by decide +kernel
theorem dX10_voice_22 : decode cX10_voice 22 = .ok (.invokevirtual 92, 3) := by decide +kernel
theorem dX10_voice_25 : decode cX10_voice 25 = .ok (.ireturn, 1) := by decide +kernel
theorem dX10_voice_26 : decode cX10_voice 26 = .ok (.aload_n 0, 1) := by decide +kernel
theorem dX10_voice_27 : decode cX10_voice 27 = .ok (.iconst 0, 1) := by decide +kernel
theorem dX10_voice_28 : decode cX10_voice 28 = .ok (.putfield 290, 3) := by decide +kernel
theorem dX10_voice_31 : decode cX10_voice 31 = .ok (.aload_n 0, 1) := by decide +kernel
theorem dX10_voice_32 : decode cX10_voice 32 = .ok (.iload_n 1, 1) := by decide +kernel
theorem dX10_voice_33 : decode cX10_voice 33 = .ok (.putfield 293, 3) := by decide +kernel
theorem dX10_voice_36 : decode cX10_voice 36 = .ok (.aload_n 0, 1) := by decide +kernel
theorem dX10_voice_37 : decode cX10_voice 37 = .ok (.iconst 0, 1) := by decide +kernel
theorem dX10_voice_38 : decode cX10_voice 38 = .ok (.putfield 302, 3) := by decide +kernel
theorem dX10_voice_41 : decode cX10_voice 41 = .ok (.aload_n 0, 1) := by decide +kernel
theorem dX10_voice_42 : decode cX10_voice 42 = .ok (.iload_n 2, 1) := by decide +kernel
theorem dX10_voice_43 : decode cX10_voice 43 = .ok (.iload_n 3, 1) := by decide +kernel
theorem dX10_voice_44 : decode cX10_voice 44 = .ok (.invokevirtual 311, 3) := by decide +kernel
theorem dX10_voice_47 : decode cX10_voice 47 = .ok (.istore 4, 2) := by decide +kernel
theorem dX10_voice_49 : decode cX10_voice 49 = .ok (.aload_n 0, 1) := by decide +kernel
theorem dX10_voice_50 : decode cX10_voice 50 = .ok (.getfield 302, 3) := by decide +kernel
theorem dX10_voice_53 : decode cX10_voice 53 = .ok (.ifCond .eq 13, 3) := by decide +kernel
theorem dX10_voice_56 : decode cX10_voice 56 = .ok (.aload_n 0, 1) := by decide +kernel
theorem dX10_voice_57 : decode cX10_voice 57 = .ok (.ldc_w 314, 3) := by decide +kernel
theorem dX10_voice_60 : decode cX10_voice 60 = .ok (.invokevirtual 92, 3) := by decide +kernel
theorem dX10_voice_63 : decode cX10_voice 63 = .ok (.goto 5, 3) := by decide +kernel
theorem dX10_voice_66 : decode cX10_voice 66 = .ok (.iload 4, 2) := by decide +kernel
theorem dX10_voice_68 : decode cX10_voice 68 = .ok (.ireturn, 1) := by decide +kernel
theorem dX10_body__0 : decode cX10_body_ 0 = .ok (.iload_n 1, 1) := by decide +kernel
theorem dX10_body__1 : decode cX10_body_ 1 = .ok (.iconst 0, 1) := by decide +kernel
theorem dX10_body__2 : decode cX10_body_ 2 = .ok (.aload_n 0, 1) := by decide +kernel
theorem dX10_body__3 : decode cX10_body_ 3 = .ok (.getfield 290, 3) := by decide +kernel
theorem dX10_body__6 : decode cX10_body_ 6 = .ok (.iconst 1, 1) := by decide +kernel
theorem dX10_body__7 : decode cX10_body_ 7 = .ok (.isub, 1) := by decide +kernel
theorem dX10_body__8 : decode cX10_body_ 8 = .ok (.invokestatic 79, 3) := by decide +kernel
theorem dX10_body__11 : decode cX10_body_ 11 = .ok (.ifCond .eq 12, 3) := by decide +kernel
theorem dX10_body__14 : decode cX10_body_ 14 = .ok (.aload_n 0, 1) := by decide +kernel
theorem dX10_body__15 : decode cX10_body_ 15 = .ok (.getfield 54, 3) := by decide +kernel
theorem dX10_body__18 : decode cX10_body_ 18 = .ok (.iload_n 1, 1) := by decide +kernel
theorem dX10_body__19 : decode cX10_body_ 19 = .ok (.iaload, 1) := by decide +kernel
theorem dX10_body__20 : decode cX10_body_ 20 = .ok (.goto 9, 3) := by decide +kernel
theorem dX10_body__23 : decode cX10_body_ 23 = .ok (.aload_n 0, 1) := by decide +kernel
theorem dX10_body__24 : decode cX10_body_ 24 = .ok (.ldc 124, 2) := by decide +kernel
theorem dX10_body__26 : decode cX10_body_ 26 = .ok (.invokevirtual 92, 3) := by decide +kernel
theorem dX10_body__29 : decode cX10_body_ 29 = .ok (.ireturn, 1) := by decide +kernel
theorem dX10_isSheet_0 : decode cX10_isSheet 0 = .ok (.iload_n 0, 1) := by decide +kernel
theorem dX10_isSheet_1 : decode cX10_isSheet 1 = .ok (.iconst 0, 1) := by decide +kernel
theorem dX10_isSheet_2 : decode cX10_isSheet 2 = .ok (.iconst 3, 1) := by decide +kernel
theorem dX10_isSheet_3 : decode cX10_isSheet 3 = .ok (.invokestatic 79, 3) := by decide +kernel
theorem dX10_isSheet_6 : decode cX10_isSheet 6 = .ok (.ireturn, 1) := by decide +kernel
theorem dX10_sheet_0 : decode cX10_sheet 0 = .ok (.iload_n 1, 1) := by decide +kernel
theorem dX10_sheet_1 : decode cX10_sheet 1 = .ok (.invokestatic 315, 3) := by decide +kernel
theorem dX10_sheet_4 : decode cX10_sheet 4 = .ok (.ifCond .eq 25, 3) := by decide +kernel
theorem dX10_sheet_7 : decode cX10_sheet 7 = .ok (.iload_n 2, 1) := by decide +kernel
theorem dX10_sheet_8 : decode cX10_sheet 8 = .ok (.ifCond .eq 28, 3) := by decide +kernel
theorem dX10_sheet_11 : decode cX10_sheet 11 = .ok (.iload_n 2, 1) := by decide +kernel
theorem dX10_sheet_12 : decode cX10_sheet 12 = .ok (.bipush 8, 2) := by decide +kernel
theorem dX10_sheet_14 : decode cX10_sheet 14 = .ok (.if_icmp .eq 22, 3) := by decide +kernel
theorem dX10_sheet_17 : decode cX10_sheet 17 = .ok (.iload_n 2, 1) := by decide +kernel
theorem dX10_sheet_18 : decode cX10_sheet 18 = .ok (.bipush 16, 2) := by decide +kernel
theorem dX10_sheet_20 : decode cX10_sheet 20 = .ok (.if_icmp .eq 16, 3) := by decide +kernel
theorem dX10_sheet_23 : decode cX10_sheet 23 = .ok (.iload_n 2, 1) := by decide +kernel
theorem dX10_sheet_24 : decode cX10_sheet 24 = .ok (.bipush 32, 2) := by decide +kernel
theorem dX10_sheet_26 : decode cX10_sheet 26 = .ok (.if_icmp .eq 10, 3) := by decide +kernel
theorem dX10_sheet_29 : decode cX10_sheet 29 = .ok (.aload_n 0, 1) := by decide +kernel
theorem dX10_sheet_30 : decode cX10_sheet 30 = .ok (.ldc 91, 2) := by decide +kernel
theorem dX10_sheet_32 : decode cX10_sheet 32 = .ok (.invokevirtual 92, 3) := by decide +kernel
theorem dX10_sheet_35 : decode cX10_sheet 35 = .ok (.ireturn, 1) := by decide +kernel
theorem dX10_sheet_36 : decode cX10_sheet 36 = .ok (.iload_n 2, 1) := by decide +kernel
theorem dX10_sheet_37 : decode cX10_sheet 37 = .ok (.ifCond .eq 15, 3) := by decide +kernel
theorem dX10_sheet_40 : decode cX10_sheet 40 = .ok (.iload_n 3, 1) := by decide +kernel
theorem dX10_sheet_41 : decode cX10_sheet 41 = .ok (.ifCond .ge 11, 3) := by decide +kernel
theorem dX10_sheet_44 : decode cX10_sheet 44 = .ok (.aload_n 0, 1) := by decide +kernel
theorem dX10_sheet_45 : decode cX10_sheet 45 = .ok (.ldc_w 260, 3) := by decide +kernel
theorem dX10_sheet_48 : decode cX10_sheet 48 = .ok (.invokevirtual 92, 3) := by decide +kernel
theorem dX10_sheet_51 : decode cX10_sheet 51 = .ok (.ireturn, 1) := by decide +kernel
theorem dX10_sheet_52 : decode cX10_sheet 52 = .ok (.iload_n 2, 1) := by decide +kernel
theorem dX10_sheet_53 : decode cX10_sheet 53 = .ok (.ifCond .eq 16, 3) := by decide +kernel
theorem dX10_sheet_56 : decode cX10_sheet 56 = .ok (.iload_n 3, 1) := by decide +kernel
theorem dX10_sheet_57 : decode cX10_sheet 57 = .ok (.bipush 24, 2) := by decide +kernel
theorem dX10_sheet_59 : decode cX10_sheet 59 = .ok (.if_icmp .le 10, 3) := by decide +kernel
theorem dX10_sheet_62 : decode cX10_sheet 62 = .ok (.aload_n 0, 1) := by decide +kernel
theorem dX10_sheet_63 : decode cX10_sheet 63 = .ok (.ldc 91, 2) := by decide +kernel
theorem dX10_sheet_65 : decode cX10_sheet 65 = .ok (.invokevirtual 92, 3) := by decide +kernel
theorem dX10_sheet_68 : decode cX10_sheet 68 = .ok (.ireturn, 1) := by decide +kernel
theorem dX10_sheet_69 : decode cX10_sheet 69 = .ok (.aload_n 0, 1) := by decide +kernel
theorem dX10_sheet_70 : decode cX10_sheet 70 = .ok (.getfield 57, 3) := by decide +kernel
theorem dX10_sheet_73 : decode cX10_sheet 73 = .ok (.iload_n 1, 1) := by decide +kernel
theorem dX10_sheet_74 : decode cX10_sheet 74 = .ok (.iload_n 2, 1) := by decide +kernel
theorem dX10_sheet_75 : decode cX10_sheet 75 = .ok (.iastore, 1) := by decide +kernel
theorem dX10_sheet_76 : decode cX10_sheet 76 = .ok (.aload_n 0, 1) := by decide +kernel
theorem dX10_sheet_77 : decode cX10_sheet 77 = .ok (.getfield 60, 3) := by decide +kernel
theorem dX10_sheet_80 : decode cX10_sheet 80 = .ok (.iload_n 1, 1) := by decide +kernel
theorem dX10_sheet_81 : decode cX10_sheet 81 = .ok (.iload_n 2, 1) := by decide +kernel
theorem dX10_sheet_82 : decode cX10_sheet 82 = .ok (.ifCond .ne 7, 3) := by decide +kernel
theorem dX10_sheet_85 : decode cX10_sheet 85 = .ok (.iconst 0, 1) := by decide +kernel
theorem dX10_sheet_86 : decode cX10_sheet 86 = .ok (.goto 4, 3) := by decide +kernel
theorem dX10_sheet_89 : decode cX10_sheet 89 = .ok (.iload_n 3, 1) := by decide +kernel
theorem dX10_sheet_90 : decode cX10_sheet 90 = .ok (.iastore, 1) := by decide +kernel
theorem dX10_sheet_91 : decode cX10_sheet 91 = .ok (.iconst 0, 1) := by decide +kernel
theorem dX10_sheet_92 : decode cX10_sheet 92 = .ok (.istore 4, 2) := by decide +kernel
theorem dX10_sheet_94 : decode cX10_sheet 94 = .ok (.iload 4, 2) := by decide +kernel
theorem dX10_sheet_96 : decode cX10_sheet 96 = .ok (.bipush 24, 2) := by decide +kernel
theorem dX10_sheet_98 : decode cX10_sheet 98 = .ok (.if_icmp .ge 22, 3) := by decide +kernel
theorem dX10_sheet_101 : decode cX10_sheet 101 = .ok (.aload_n 0, 1) := by decide +kernel
theorem dX10_sheet_102 : decode cX10_sheet 102 = .ok (.getfield 63, 3) := by decide +kernel
theorem dX10_sheet_105 : decode cX10_sheet 105 = .ok (.bipush 24, 2) := by decide +kernel
theorem dX10_sheet_107 : decode cX10_sheet 107 = .ok (.iload_n 1, 1) := by decide +kernel
theorem dX10_sheet_108 : decode cX10_sheet 108 = .ok (.imul, 1) := by decide +kernel
theorem dX10_sheet_109 : decode cX10_sheet 109 = .ok (.iload 4, 2) := by decide +kernel
theorem dX10_sheet_111 : decode cX10_sheet 111 = .ok (.iadd, 1) := by decide +kernel
theorem dX10_sheet_112 : decode cX10_sheet 112 = .ok (.iconst 0, 1) := by decide +kernel
theorem dX10_sheet_113 : decode cX10_sheet 113 = .ok (.iastore, 1) := by decide +kernel
theorem dX10_sheet_114 : decode cX10_sheet 114 = .ok (.iinc 4 1, 3) := by decide +kernel
theorem dX10_sheet_117 : decode cX10_sheet 117 = .ok (.goto (-23), 3) := by decide +kernel
theorem dX10_sheet_120 : decode cX10_sheet 120 = .ok (.iconst 1, 1) := by decide +kernel
theorem dX10_sheet_121 : decode cX10_sheet 121 = .ok (.ireturn, 1) := by decide +kernel
theorem dX10_put_0 : decode cX10_put 0 = .ok (.iload_n 1, 1) := by decide +kernel
theorem dX10_put_1 : decode cX10_put 1 = .ok (.invokestatic 315, 3) := by decide +kernel
theorem dX10_put_4 : decode cX10_put 4 = .ok (.ifCond .ne 10, 3) := by decide +kernel
theorem dX10_put_7 : decode cX10_put 7 = .ok (.aload_n 0, 1) := by decide +kernel
theorem dX10_put_8 : decode cX10_put 8 = .ok (.ldc 91, 2) := by decide +kernel
theorem dX10_put_10 : decode cX10_put 10 = .ok (.invokevirtual 92, 3) := by decide +kernel
theorem dX10_put_13 : decode cX10_put 13 = .ok (.ireturn, 1) := by decide +kernel
theorem dX10_put_14 : decode cX10_put 14 = .ok (.aload_n 0, 1) := by decide +kernel
theorem dX10_put_15 : decode cX10_put 15 = .ok (.getfield 57, 3) := by decide +kernel
theorem dX10_put_18 : decode cX10_put 18 = .ok (.iload_n 1, 1) := by decide +kernel
theorem dX10_put_19 : decode cX10_put 19 = .ok (.iaload, 1) := by decide +kernel
theorem dX10_put_20 : decode cX10_put 20 = .ok (.ifCond .ne 10, 3) := by decide +kernel
theorem dX10_put_23 : decode cX10_put 23 = .ok (.aload_n 0, 1) := by decide +kernel
theorem dX10_put_24 : decode cX10_put 24 = .ok (.ldc 124, 2) := by decide +kernel
theorem dX10_put_26 : decode cX10_put 26 = .ok (.invokevirtual 92, 3) := by decide +kernel
theorem dX10_put_29 : decode cX10_put 29 = .ok (.ireturn, 1) := by decide +kernel
theorem dX10_put_30 : decode cX10_put 30 = .ok (.iload_n 2, 1) := by decide +kernel
theorem dX10_put_31 : decode cX10_put 31 = .ok (.iconst 0, 1) := by decide +kernel
theorem dX10_put_32 : decode cX10_put 32 = .ok (.aload_n 0, 1) := by decide +kernel
theorem dX10_put_33 : decode cX10_put 33 = .ok (.getfield 60, 3) := by decide +kernel
theorem dX10_put_36 : decode cX10_put 36 = .ok (.iload_n 1, 1) := by decide +kernel
theorem dX10_put_37 : decode cX10_put 37 = .ok (.iaload, 1) := by decide +kernel
theorem dX10_put_38 : decode cX10_put 38 = .ok (.iconst 1, 1) := by decide +kernel
theorem dX10_put_39 : decode cX10_put 39 = .ok (.isub, 1) := by decide +kernel
theorem dX10_put_40 : decode cX10_put 40 = .ok (.invokestatic 79, 3) := by decide +kernel
theorem dX10_put_43 : decode cX10_put 43 = .ok (.ifCond .ne 10, 3) := by decide +kernel
theorem dX10_put_46 : decode cX10_put 46 = .ok (.aload_n 0, 1) := by decide +kernel
theorem dX10_put_47 : decode cX10_put 47 = .ok (.ldc 91, 2) := by decide +kernel
theorem dX10_put_49 : decode cX10_put 49 = .ok (.invokevirtual 92, 3) := by decide +kernel
theorem dX10_put_52 : decode cX10_put 52 = .ok (.ireturn, 1) := by decide +kernel
theorem dX10_put_53 : decode cX10_put 53 = .ok (.aload_n 0, 1) := by decide +kernel
theorem dX10_put_54 : decode cX10_put 54 = .ok (.getfield 63, 3) := by decide +kernel
theorem dX10_put_57 : decode cX10_put 57 = .ok (.bipush 24, 2) := by decide +kernel
theorem dX10_put_59 : decode cX10_put 59 = .ok (.iload_n 1, 1) := by decide +kernel
theorem dX10_put_60 : decode cX10_put 60 = .ok (.imul, 1) := by decide +kernel
theorem dX10_put_61 : decode cX10_put 61 = .ok (.iload_n 2, 1) := by decide +kernel
theorem dX10_put_62 : decode cX10_put 62 = .ok (.iadd, 1) := by decide +kernel
theorem dX10_put_63 : decode cX10_put 63 = .ok (.aload_n 0, 1) := by decide +kernel
theorem dX10_put_64 : decode cX10_put 64 = .ok (.getfield 57, 3) := by decide +kernel
theorem dX10_put_67 : decode cX10_put 67 = .ok (.iload_n 1, 1) := by decide +kernel
theorem dX10_put_68 : decode cX10_put 68 = .ok (.iaload, 1) := by decide +kernel
theorem dX10_put_69 : decode cX10_put 69 = .ok (.bipush 8, 2) := by decide +kernel
theorem dX10_put_71 : decode cX10_put 71 = .ok (.if_icmp .ne 8, 3) := by decide +kernel
theorem dX10_put_74 : decode cX10_put 74 = .ok (.iload_n 3, 1) := by decide +kernel
theorem dX10_put_75 : decode cX10_put 75 = .ok (.i2b, 1) := by decide +kernel
theorem dX10_put_76 : decode cX10_put 76 = .ok (.goto 20, 3) := by decide +kernel
theorem dX10_put_79 : decode cX10_put 79 = .ok (.aload_n 0, 1) := by decide +kernel
theorem dX10_put_80 : decode cX10_put 80 = .ok (.getfield 57, 3) := by decide +kernel
theorem dX10_put_83 : decode cX10_put 83 = .ok (.iload_n 1, 1) := by decide +kernel
theorem dX10_put_84 : decode cX10_put 84 = .ok (.iaload, 1) := by decide +kernel
theorem dX10_put_85 : decode cX10_put 85 = .ok (.bipush 16, 2) := by decide +kernel
theorem dX10_put_87 : decode cX10_put 87 = .ok (.if_icmp .ne 8, 3) := by decide +kernel
theorem dX10_put_90 : decode cX10_put 90 = .ok (.iload_n 3, 1) := by decide +kernel
theorem dX10_put_91 : decode cX10_put 91 = .ok (.i2s, 1) := by decide +kernel
theorem dX10_put_92 : decode cX10_put 92 = .ok (.goto 4, 3) := by decide +kernel
theorem dX10_put_95 : decode cX10_put 95 = .ok (.iload_n 3, 1) := by decide +kernel
theorem dX10_put_96 : decode cX10_put 96 = .ok (.iastore, 1) := by decide +kernel
theorem dX10_put_97 : decode cX10_put 97 = .ok (.iconst 1, 1) := by decide +kernel
theorem dX10_put_98 : decode cX10_put 98 = .ok (.ireturn, 1) := by decide +kernel
theorem dX10_move_0 : decode cX10_move 0 = .ok (.iload_n 1, 1) := by decide +kernel
theorem dX10_move_1 : decode cX10_move 1 = .ok (.invokestatic 315, 3) := by decide +kernel
theorem dX10_move_4 : decode cX10_move 4 = .ok (.ifCond .eq 10, 3) := by decide +kernel
theorem dX10_move_7 : decode cX10_move 7 = .ok (.iload_n 3, 1) := by decide +kernel
theorem dX10_move_8 : decode cX10_move 8 = .ok (.invokestatic 315, 3) := by decide +kernel
theorem dX10_move_11 : decode cX10_move 11 = .ok (.ifCond .ne 10, 3) := by decide +kernel
theorem dX10_move_14 : decode cX10_move 14 = .ok (.aload_n 0, 1) := by decide +kernel
theorem dX10_move_15 : decode cX10_move 15 = .ok (.ldc 91, 2) := by decide +kernel
theorem dX10_move_17 : decode cX10_move 17 = .ok (.invokevirtual 92, 3) := by decide +kernel
theorem dX10_move_20 : decode cX10_move 20 = .ok (.ireturn, 1) := by decide +kernel
theorem dX10_move_21 : decode cX10_move 21 = .ok (.aload_n 0, 1) := by decide +kernel
theorem dX10_move_22 : decode cX10_move 22 = .ok (.getfield 57, 3) := by decide +kernel
theorem dX10_move_25 : decode cX10_move 25 = .ok (.iload_n 1, 1) := by decide +kernel
theorem dX10_move_26 : decode cX10_move 26 = .ok (.iaload, 1) := by decide +kernel
theorem dX10_move_27 : decode cX10_move 27 = .ok (.ifCond .eq 12, 3) := by decide +kernel
theorem dX10_move_30 : decode cX10_move 30 = .ok (.aload_n 0, 1) := by decide +kernel
theorem dX10_move_31 : decode cX10_move 31 = .ok (.getfield 57, 3) := by decide +kernel
theorem dX10_move_34 : decode cX10_move 34 = .ok (.iload_n 3, 1) := by decide +kernel
theorem dX10_move_35 : decode cX10_move 35 = .ok (.iaload, 1) := by decide +kernel
theorem dX10_move_36 : decode cX10_move 36 = .ok (.ifCond .ne 10, 3) := by decide +kernel
theorem dX10_move_39 : decode cX10_move 39 = .ok (.aload_n 0, 1) := by decide +kernel
theorem dX10_move_40 : decode cX10_move 40 = .ok (.ldc 124, 2) := by decide +kernel
theorem dX10_move_42 : decode cX10_move 42 = .ok (.invokevirtual 92, 3) := by decide +kernel
theorem dX10_move_45 : decode cX10_move 45 = .ok (.ireturn, 1) := by decide +kernel
theorem dX10_move_46 : decode cX10_move 46 = .ok (.aload_n 0, 1) := by decide +kernel
theorem dX10_move_47 : decode cX10_move 47 = .ok (.getfield 57, 3) := by decide +kernel
theorem dX10_move_50 : decode cX10_move 50 = .ok (.iload_n 1, 1) := by decide +kernel
theorem dX10_move_51 : decode cX10_move 51 = .ok (.iaload, 1) := by decide +kernel
theorem dX10_move_52 : decode cX10_move 52 = .ok (.aload_n 0, 1) := by decide +kernel
theorem dX10_move_53 : decode cX10_move 53 = .ok (.getfield 57, 3) := by decide +kernel
theorem dX10_move_56 : decode cX10_move 56 = .ok (.iload_n 3, 1) := by decide +kernel
theorem dX10_move_57 : decode cX10_move 57 = .ok (.iaload, 1) := by decide +kernel
theorem dX10_move_58 : decode cX10_move 58 = .ok (.if_icmp .eq 10, 3) := by decide +kernel
theorem dX10_move_61 : decode cX10_move 61 = .ok (.aload_n 0, 1) := by decide +kernel
theorem dX10_move_62 : decode cX10_move 62 = .ok (.ldc 158, 2) := by decide +kernel
theorem dX10_move_64 : decode cX10_move 64 = .ok (.invokevirtual 92, 3) := by decide +kernel
theorem dX10_move_67 : decode cX10_move 67 = .ok (.ireturn, 1) := by decide +kernel
theorem dX10_move_68 : decode cX10_move 68 = .ok (.iload 5, 2) := by decide +kernel
theorem dX10_move_70 : decode cX10_move 70 = .ok (.ifCond .lt 47, 3) := by decide +kernel
theorem dX10_move_73 : decode cX10_move 73 = .ok (.iload_n 2, 1) := by decide +kernel
theorem dX10_move_74 : decode cX10_move 74 = .ok (.ifCond .lt 43, 3) := by decide +kernel
theorem dX10_move_77 : decode cX10_move 77 = .ok (.iload 4, 2) := by decide +kernel
theorem dX10_move_79 : decode cX10_move 79 = .ok (.ifCond .lt 38, 3) := by decide +kernel
theorem dX10_move_82 : decode cX10_move 82 = .ok (.iload_n 2, 1) := by decide +kernel
theorem dX10_move_83 : decode cX10_move 83 = .ok (.i2l, 1) := by decide +kernel
theorem dX10_move_84 : decode cX10_move 84 = .ok (.iload 5, 2) := by decide +kernel
theorem dX10_move_86 : decode cX10_move 86 = .ok (.i2l, 1) := by decide +kernel
theorem dX10_move_87 : decode cX10_move 87 = .ok (.ladd, 1) := by decide +kernel
theorem dX10_move_88 : decode cX10_move 88 = .ok (.aload_n 0, 1) := by decide +kernel
theorem dX10_move_89 : decode cX10_move 89 = .ok (.getfield 60, 3) := by decide +kernel
theorem dX10_move_92 : decode cX10_move 92 = .ok (.iload_n 1, 1) := by decide +kernel
theorem dX10_move_93 : decode cX10_move 93 = .ok (.iaload, 1) := by decide +kernel
theorem dX10_move_94 : decode cX10_move 94 = .ok (.i2l, 1) := by decide +kernel
theorem dX10_move_95 : decode cX10_move 95 = .ok (.lcmp, 1) := by decide +kernel
theorem dX10_move_96 : decode cX10_move 96 = .ok (.ifCond .gt 21, 3) := by decide +kernel
theorem dX10_move_99 : decode cX10_move 99 = .ok (.iload 4, 2) := by decide +kernel
theorem dX10_move_101 : decode cX10_move 101 = .ok (.i2l, 1) := by decide +kernel
theorem dX10_move_102 : decode cX10_move 102 = .ok (.iload 5, 2) := by decide +kernel
theorem dX10_move_104 : decode cX10_move 104 = .ok (.i2l, 1) := by decide +kernel
theorem dX10_move_105 : decode cX10_move 105 = .ok (.ladd, 1) := by decide +kernel
theorem dX10_move_106 : decode cX10_move 106 = .ok (.aload_n 0, 1) := by decide +kernel
theorem dX10_move_107 : decode cX10_move 107 = .ok (.getfield 60, 3) := by decide +kernel
theorem dX10_move_110 : decode cX10_move 110 = .ok (.iload_n 3, 1) := by decide +kernel
theorem dX10_move_111 : decode cX10_move 111 = .ok (.iaload, 1) := by decide +kernel
theorem dX10_move_112 : decode cX10_move 112 = .ok (.i2l, 1) := by decide +kernel
theorem dX10_move_113 : decode cX10_move 113 = .ok (.lcmp, 1) := by decide +kernel
theorem dX10_move_114 : decode cX10_move 114 = .ok (.ifCond .le 10, 3) := by decide +kernel
theorem dX10_move_117 : decode cX10_move 117 = .ok (.aload_n 0, 1) := by decide +kernel
theorem dX10_move_118 : decode cX10_move 118 = .ok (.ldc 91, 2) := by decide +kernel
theorem dX10_move_120 : decode cX10_move 120 = .ok (.invokevirtual 92, 3) := by decide +kernel
theorem dX10_move_123 : decode cX10_move 123 = .ok (.ireturn, 1) := by decide +kernel
theorem dX10_move_124 : decode cX10_move 124 = .ok (.iconst 0, 1) := by decide +kernel
theorem dX10_move_125 : decode cX10_move 125 = .ok (.istore 6, 2) := by decide +kernel
theorem dX10_move_127 : decode cX10_move 127 = .ok (.iload 6, 2) := by decide +kernel
theorem dX10_move_129 : decode cX10_move 129 = .ok (.iload 5, 2) := by decide +kernel
theorem dX10_move_131 : decode cX10_move 131 = .ok (.if_icmp .ge 30, 3) := by decide +kernel
theorem dX10_move_134 : decode cX10_move 134 = .ok (.aload_n 0, 1) := by decide +kernel
theorem dX10_move_135 : decode cX10_move 135 = .ok (.getfield 66, 3) := by decide +kernel
theorem dX10_move_138 : decode cX10_move 138 = .ok (.iload 6, 2) := by decide +kernel
theorem dX10_move_140 : decode cX10_move 140 = .ok (.aload_n 0, 1) := by decide +kernel
theorem dX10_move_141 : decode cX10_move 141 = .ok (.getfield 63, 3) := by decide +kernel
theorem dX10_move_144 : decode cX10_move 144 = .ok (.bipush 24, 2) := by decide +kernel
theorem dX10_move_146 : decode cX10_move 146 = .ok (.iload_n 1, 1) := by decide +kernel
theorem dX10_move_147 : decode cX10_move 147 = .ok (.imul, 1) := by decide +kernel
theorem dX10_move_148 : decode cX10_move 148 = .ok (.iload_n 2, 1) := by decide +kernel
theorem dX10_move_149 : decode cX10_move 149 = .ok (.iadd, 1) := by decide +kernel
theorem dX10_move_150 : decode cX10_move 150 = .ok (.iload 6, 2) := by decide +kernel
theorem dX10_move_152 : decode cX10_move 152 = .ok (.iadd, 1) := by decide +kernel
theorem dX10_move_153 : decode cX10_move 153 = .ok (.iaload, 1) := by decide +kernel
theorem dX10_move_154 : decode cX10_move 154 = .ok (.iastore, 1) := by decide +kernel
theorem dX10_move_155 : decode cX10_move 155 = .ok (.iinc 6 1, 3) := by decide +kernel
theorem dX10_move_158 : decode cX10_move 158 = .ok (.goto (-31), 3) := by decide +kernel
theorem dX10_move_161 : decode cX10_move 161 = .ok (.iconst 0, 1) := by decide +kernel
theorem dX10_move_162 : decode cX10_move 162 = .ok (.istore 6, 2) := by decide +kernel
theorem dX10_move_164 : decode cX10_move 164 = .ok (.iload 6, 2) := by decide +kernel
theorem dX10_move_166 : decode cX10_move 166 = .ok (.iload 5, 2) := by decide +kernel
theorem dX10_move_168 : decode cX10_move 168 = .ok (.if_icmp .ge 31, 3) := by decide +kernel
theorem dX10_move_171 : decode cX10_move 171 = .ok (.aload_n 0, 1) := by decide +kernel
theorem dX10_move_172 : decode cX10_move 172 = .ok (.getfield 63, 3) := by decide +kernel
theorem dX10_move_175 : decode cX10_move 175 = .ok (.bipush 24, 2) := by decide +kernel
theorem dX10_move_177 : decode cX10_move 177 = .ok (.iload_n 3, 1) := by decide +kernel
theorem dX10_move_178 : decode cX10_move 178 = .ok (.imul, 1) := by decide +kernel
theorem dX10_move_179 : decode cX10_move 179 = .ok (.iload 4, 2) := by decide +kernel
theorem dX10_move_181 : decode cX10_move 181 = .ok (.iadd, 1) := by decide +kernel
theorem dX10_move_182 : decode cX10_move 182 = .ok (.iload 6, 2) := by decide +kernel
theorem dX10_move_184 : decode cX10_move 184 = .ok (.iadd, 1) := by decide +kernel
theorem dX10_move_185 : decode cX10_move 185 = .ok (.aload_n 0, 1) := by decide +kernel
theorem dX10_move_186 : decode cX10_move 186 = .ok (.getfield 66, 3) := by decide +kernel
theorem dX10_move_189 : decode cX10_move 189 = .ok (.iload 6, 2) := by decide +kernel
theorem dX10_move_191 : decode cX10_move 191 = .ok (.iaload, 1) := by decide +kernel
theorem dX10_move_192 : decode cX10_move 192 = .ok (.iastore, 1) := by decide +kernel
theorem dX10_move_193 : decode cX10_move 193 = .ok (.iinc 6 1, 3) := by decide +kernel
theorem dX10_move_196 : decode cX10_move 196 = .ok (.goto (-32), 3) := by decide +kernel
theorem dX10_move_199 : decode cX10_move 199 = .ok (.iload 5, 2) := by decide +kernel
theorem dX10_move_201 : decode cX10_move 201 = .ok (.ireturn, 1) := by decide +kernel
theorem dX10_holds_0 : decode cX10_holds 0 = .ok (.iload_n 1, 1) := by decide +kernel
theorem dX10_holds_1 : decode cX10_holds 1 = .ok (.invokestatic 315, 3) := by decide +kernel
theorem dX10_holds_4 : decode cX10_holds 4 = .ok (.ifCond .ne 10, 3) := by decide +kernel
theorem dX10_holds_7 : decode cX10_holds 7 = .ok (.aload_n 0, 1) := by decide +kernel
theorem dX10_holds_8 : decode cX10_holds 8 = .ok (.ldc 91, 2) := by decide +kernel
theorem dX10_holds_10 : decode cX10_holds 10 = .ok (.invokevirtual 92, 3) := by decide +kernel
theorem dX10_holds_13 : decode cX10_holds 13 = .ok (.ireturn, 1) := by decide +kernel
theorem dX10_holds_14 : decode cX10_holds 14 = .ok (.aload_n 0, 1) := by decide +kernel
theorem dX10_holds_15 : decode cX10_holds 15 = .ok (.getfield 57, 3) := by decide +kernel
theorem dX10_holds_18 : decode cX10_holds 18 = .ok (.iload_n 1, 1) := by decide +kernel
theorem dX10_holds_19 : decode cX10_holds 19 = .ok (.iaload, 1) := by decide +kernel
theorem dX10_holds_20 : decode cX10_holds 20 = .ok (.ifCond .ne 10, 3) := by decide +kernel
theorem dX10_holds_23 : decode cX10_holds 23 = .ok (.aload_n 0, 1) := by decide +kernel
theorem dX10_holds_24 : decode cX10_holds 24 = .ok (.ldc 124, 2) := by decide +kernel
theorem dX10_holds_26 : decode cX10_holds 26 = .ok (.invokevirtual 92, 3) := by decide +kernel
theorem dX10_holds_29 : decode cX10_holds 29 = .ok (.ireturn, 1) := by decide +kernel
theorem dX10_holds_30 : decode cX10_holds 30 = .ok (.iconst 0, 1) := by decide +kernel
theorem dX10_holds_31 : decode cX10_holds 31 = .ok (.istore_n 2, 1) := by decide +kernel
theorem dX10_holds_32 : decode cX10_holds 32 = .ok (.bipush 24, 2) := by decide +kernel
theorem dX10_holds_34 : decode cX10_holds 34 = .ok (.iload_n 1, 1) := by decide +kernel
theorem dX10_holds_35 : decode cX10_holds 35 = .ok (.imul, 1) := by decide +kernel
theorem dX10_holds_36 : decode cX10_holds 36 = .ok (.istore_n 3, 1) := by decide +kernel
theorem dX10_holds_37 : decode cX10_holds 37 = .ok (.iconst 2, 1) := by decide +kernel
theorem dX10_holds_38 : decode cX10_holds 38 = .ok (.iload_n 2, 1) := by decide +kernel
theorem dX10_holds_39 : decode cX10_holds 39 = .ok (.imul, 1) := by decide +kernel
theorem dX10_holds_40 : decode cX10_holds 40 = .ok (.iconst 2, 1) := by decide +kernel
theorem dX10_holds_41 : decode cX10_holds 41 = .ok (.iadd, 1) := by decide +kernel
theorem dX10_holds_42 : decode cX10_holds 42 = .ok (.aload_n 0, 1) := by decide +kernel
theorem dX10_holds_43 : decode cX10_holds 43 = .ok (.getfield 60, 3) := by decide +kernel
theorem dX10_holds_46 : decode cX10_holds 46 = .ok (.iload_n 1, 1) := by decide +kernel
theorem dX10_holds_47 : decode cX10_holds 47 = .ok (.iaload, 1) := by decide +kernel
theorem dX10_holds_48 : decode cX10_holds 48 = .ok (.if_icmp .gt 66, 3) := by decide +kernel
theorem dX10_holds_51 : decode cX10_holds 51 = .ok (.aload_n 0, 1) := by decide +kernel
theorem dX10_holds_52 : decode cX10_holds 52 = .ok (.getfield 9, 3) := by decide +kernel
theorem dX10_holds_55 : decode cX10_holds 55 = .ok (.bipush 14, 2) := by decide +kernel
theorem dX10_holds_57 : decode cX10_holds 57 = .ok (.iaload, 1) := by decide +kernel
theorem dX10_holds_58 : decode cX10_holds 58 = .ok (.bipush 8, 2) := by decide +kernel
theorem dX10_holds_60 : decode cX10_holds 60 = .ok (.if_icmp .ge 54, 3) := by decide +kernel
theorem dX10_holds_63 : decode cX10_holds 63 = .ok (.aload_n 0, 1) := by decide +kernel
theorem dX10_holds_64 : decode cX10_holds 64 = .ok (.getfield 63, 3) := by decide +kernel
theorem dX10_holds_67 : decode cX10_holds 67 = .ok (.iload_n 3, 1) := by decide +kernel
theorem dX10_holds_68 : decode cX10_holds 68 = .ok (.iaload, 1) := by decide +kernel
theorem dX10_holds_69 : decode cX10_holds 69 = .ok (.aload_n 0, 1) := by decide +kernel
theorem dX10_holds_70 : decode cX10_holds 70 = .ok (.getfield 63, 3) := by decide +kernel
theorem dX10_holds_73 : decode cX10_holds 73 = .ok (.iload_n 3, 1) := by decide +kernel
theorem dX10_holds_74 : decode cX10_holds 74 = .ok (.iconst 1, 1) := by decide +kernel
theorem dX10_holds_75 : decode cX10_holds 75 = .ok (.iadd, 1) := by decide +kernel
theorem dX10_holds_76 : decode cX10_holds 76 = .ok (.iaload, 1) := by decide +kernel
theorem dX10_holds_77 : decode cX10_holds 77 = .ok (.invokestatic 96, 3) := by decide +kernel
theorem dX10_holds_80 : decode cX10_holds 80 = .ok (.ifCond .ne 5, 3) := by decide +kernel
theorem dX10_holds_83 : decode cX10_holds 83 = .ok (.iload_n 2, 1) := by decide +kernel
theorem dX10_holds_84 : decode cX10_holds 84 = .ok (.ireturn, 1) := by decide +kernel
theorem dX10_holds_85 : decode cX10_holds 85 = .ok (.aload_n 0, 1) := by decide +kernel
theorem dX10_holds_86 : decode cX10_holds 86 = .ok (.aload_n 0, 1) := by decide +kernel
theorem dX10_holds_87 : decode cX10_holds 87 = .ok (.getfield 63, 3) := by decide +kernel
theorem dX10_holds_90 : decode cX10_holds 90 = .ok (.iload_n 3, 1) := by decide +kernel
theorem dX10_holds_91 : decode cX10_holds 91 = .ok (.iaload, 1) := by decide +kernel
theorem dX10_holds_92 : decode cX10_holds 92 = .ok (.aload_n 0, 1) := by decide +kernel
theorem dX10_holds_93 : decode cX10_holds 93 = .ok (.getfield 63, 3) := by decide +kernel
theorem dX10_holds_96 : decode cX10_holds 96 = .ok (.iload_n 3, 1) := by decide +kernel
theorem dX10_holds_97 : decode cX10_holds 97 = .ok (.iconst 1, 1) := by decide +kernel
theorem dX10_holds_98 : decode cX10_holds 98 = .ok (.iadd, 1) := by decide +kernel
theorem dX10_holds_99 : decode cX10_holds 99 = .ok (.iaload, 1) := by decide +kernel
theorem dX10_holds_100 : decode cX10_holds 100 = .ok (.invokevirtual 101, 3) := by decide +kernel
theorem dX10_holds_103 : decode cX10_holds 103 = .ok (.istore 4, 2) := by decide +kernel
theorem dX10_holds_105 : decode cX10_holds 105 = .ok (.iinc 2 1, 3) := by decide +kernel
theorem dX10_holds_108 : decode cX10_holds 108 = .ok (.iinc 3 2, 3) := by decide +kernel
theorem dX10_holds_111 : decode cX10_holds 111 = .ok (.goto (-74), 3) := by decide +kernel
theorem dX10_holds_114 : decode cX10_holds 114 = .ok (.iload_n 2, 1) := by decide +kernel
theorem dX10_holds_115 : decode cX10_holds 115 = .ok (.ireturn, 1) := by decide +kernel
theorem dX10_offOf_0 : decode cX10_offOf 0 = .ok (.iconst 0, 1) := by decide +kernel
theorem dX10_offOf_1 : decode cX10_offOf 1 = .ok (.istore_n 2, 1) := by decide +kernel
theorem dX10_offOf_2 : decode cX10_offOf 2 = .ok (.iconst 0, 1) := by decide +kernel
theorem dX10_offOf_3 : decode cX10_offOf 3 = .ok (.istore_n 3, 1) := by decide +kernel
theorem dX10_offOf_4 : decode cX10_offOf 4 = .ok (.iload_n 3, 1) := by decide +kernel
theorem dX10_offOf_5 : decode cX10_offOf 5 = .ok (.aload_n 0, 1) := by decide +kernel
theorem dX10_offOf_6 : decode cX10_offOf 6 = .ok (.getfield 60, 3) := by decide +kernel
theorem dX10_offOf_9 : decode cX10_offOf 9 = .ok (.iload_n 1, 1) := by decide +kernel
theorem dX10_offOf_10 : decode cX10_offOf 10 = .ok (.iaload, 1) := by decide +kernel
theorem dX10_offOf_11 : decode cX10_offOf 11 = .ok (.if_icmp .ge 51, 3) := by decide +kernel
theorem dX10_offOf_14 : decode cX10_offOf 14 = .ok (.aload_n 0, 1) := by decide +kernel
theorem dX10_offOf_15 : decode cX10_offOf 15 = .ok (.iconst 1, 1) := by decide +kernel
theorem dX10_offOf_16 : decode cX10_offOf 16 = .ok (.invokevirtual 261, 3) := by decide +kernel
theorem dX10_offOf_19 : decode cX10_offOf 19 = .ok (.aload_n 0, 1) := by decide +kernel
theorem dX10_offOf_20 : decode cX10_offOf 20 = .ok (.getfield 63, 3) := by decide +kernel
theorem dX10_offOf_23 : decode cX10_offOf 23 = .ok (.bipush 24, 2) := by decide +kernel
theorem dX10_offOf_25 : decode cX10_offOf 25 = .ok (.iload_n 1, 1) := by decide +kernel
theorem dX10_offOf_26 : decode cX10_offOf 26 = .ok (.imul, 1) := by decide +kernel
theorem dX10_offOf_27 : decode cX10_offOf 27 = .ok (.iload_n 3, 1) := by decide +kernel
theorem dX10_offOf_28 : decode cX10_offOf 28 = .ok (.iadd, 1) := by decide +kernel
theorem dX10_offOf_29 : decode cX10_offOf 29 = .ok (.iaload, 1) := by decide +kernel
theorem dX10_offOf_30 : decode cX10_offOf 30 = .ok (.i2l, 1) := by decide +kernel
theorem dX10_offOf_31 : decode cX10_offOf 31 = .ok (.aload_n 0, 1) := by decide +kernel
theorem dX10_offOf_32 : decode cX10_offOf 32 = .ok (.getfield 9, 3) := by decide +kernel
theorem dX10_offOf_35 : decode cX10_offOf 35 = .ok (.iconst 0, 1) := by decide +kernel
theorem dX10_offOf_36 : decode cX10_offOf 36 = .ok (.iaload, 1) := by decide +kernel
theorem dX10_offOf_37 : decode cX10_offOf 37 = .ok (.i2l, 1) := by decide +kernel
theorem dX10_offOf_38 : decode cX10_offOf 38 = .ok (.lsub, 1) := by decide +kernel
theorem dX10_offOf_39 : decode cX10_offOf 39 = .ok (.invokestatic 318, 3) := by decide +kernel
theorem dX10_offOf_42 : decode cX10_offOf 42 = .ok (.lstore 4, 2) := by decide +kernel
theorem dX10_offOf_44 : decode cX10_offOf 44 = .ok (.iload_n 2, 1) := by decide +kernel
theorem dX10_offOf_45 : decode cX10_offOf 45 = .ok (.ldc2_w 321, 3) := by decide +kernel
theorem dX10_offOf_48 : decode cX10_offOf 48 = .ok (.lload 4, 2) := by decide +kernel
theorem dX10_offOf_50 : decode cX10_offOf 50 = .ok (.invokestatic 323, 3) := by decide +kernel
theorem dX10_offOf_53 : decode cX10_offOf 53 = .ok (.l2i, 1) := by decide +kernel
theorem dX10_offOf_54 : decode cX10_offOf 54 = .ok (.iadd, 1) := by decide +kernel
theorem dX10_offOf_55 : decode cX10_offOf 55 = .ok (.istore_n 2, 1) := by decide +kernel
theorem dX10_offOf_56 : decode cX10_offOf 56 = .ok (.iinc 3 1, 3) := by decide +kernel
theorem dX10_offOf_59 : decode cX10_offOf 59 = .ok (.goto (-55), 3) := by decide +kernel
theorem dX10_offOf_62 : decode cX10_offOf 62 = .ok (.aload_n 0, 1) := by decide +kernel
theorem dX10_offOf_63 : decode cX10_offOf 63 = .ok (.iload_n 2, 1) := by decide +kernel
theorem dX10_offOf_64 : decode cX10_offOf 64 = .ok (.invokevirtual 267, 3) := by decide +kernel
theorem dX10_offOf_67 : decode cX10_offOf 67 = .ok (.ireturn, 1) := by decide +kernel
theorem dX10_off_0 : decode cX10_off 0 = .ok (.iload_n 1, 1) := by decide +kernel
theorem dX10_off_1 : decode cX10_off 1 = .ok (.invokestatic 315, 3) := by decide +kernel
theorem dX10_off_4 : decode cX10_off 4 = .ok (.ifCond .ne 10, 3) := by decide +kernel
theorem dX10_off_7 : decode cX10_off 7 = .ok (.aload_n 0, 1) := by decide +kernel
theorem dX10_off_8 : decode cX10_off 8 = .ok (.ldc 91, 2) := by decide +kernel
theorem dX10_off_10 : decode cX10_off 10 = .ok (.invokevirtual 92, 3) := by decide +kernel
theorem dX10_off_13 : decode cX10_off 13 = .ok (.ireturn, 1) := by decide +kernel
theorem dX10_off_14 : decode cX10_off 14 = .ok (.aload_n 0, 1) := by decide +kernel
theorem dX10_off_15 : decode cX10_off 15 = .ok (.getfield 57, 3) := by decide +kernel
theorem dX10_off_18 : decode cX10_off 18 = .ok (.iload_n 1, 1) := by decide +kernel
theorem dX10_off_19 : decode cX10_off 19 = .ok (.iaload, 1) := by decide +kernel
theorem dX10_off_20 : decode cX10_off 20 = .ok (.ifCond .ne 10, 3) := by decide +kernel
theorem dX10_off_23 : decode cX10_off 23 = .ok (.aload_n 0, 1) := by decide +kernel
theorem dX10_off_24 : decode cX10_off 24 = .ok (.ldc 124, 2) := by decide +kernel
theorem dX10_off_26 : decode cX10_off 26 = .ok (.invokevirtual 92, 3) := by decide +kernel
theorem dX10_off_29 : decode cX10_off 29 = .ok (.ireturn, 1) := by decide +kernel
theorem dX10_off_30 : decode cX10_off 30 = .ok (.aload_n 0, 1) := by decide +kernel
theorem dX10_off_31 : decode cX10_off 31 = .ok (.getfield 9, 3) := by decide +kernel
theorem dX10_off_34 : decode cX10_off 34 = .ok (.aload_n 0, 1) := by decide +kernel
theorem dX10_off_35 : decode cX10_off 35 = .ok (.getfield 16, 3) := by decide +kernel
theorem dX10_off_38 : decode cX10_off 38 = .ok (.invokestatic 83, 3) := by decide +kernel
theorem dX10_off_41 : decode cX10_off 41 = .ok (.aload_n 0, 1) := by decide +kernel
theorem dX10_off_42 : decode cX10_off 42 = .ok (.iload_n 1, 1) := by decide +kernel
theorem dX10_off_43 : decode cX10_off 43 = .ok (.invokevirtual 325, 3) := by decide +kernel
theorem dX10_off_46 : decode cX10_off 46 = .ok (.ireturn, 1) := by decide +kernel
theorem dX10_guess_0 : decode cX10_guess 0 = .ok (.iload_n 1, 1) := by decide +kernel
theorem dX10_guess_1 : decode cX10_guess 1 = .ok (.invokestatic 315, 3) := by decide +kernel
theorem dX10_guess_4 : decode cX10_guess 4 = .ok (.ifCond .ne 10, 3) := by decide +kernel
theorem dX10_guess_7 : decode cX10_guess 7 = .ok (.aload_n 0, 1) := by decide +kernel
theorem dX10_guess_8 : decode cX10_guess 8 = .ok (.ldc 91, 2) := by decide +kernel
theorem dX10_guess_10 : decode cX10_guess 10 = .ok (.invokevirtual 92, 3) := by decide +kernel
theorem dX10_guess_13 : decode cX10_guess 13 = .ok (.ireturn, 1) := by decide +kernel
theorem dX10_guess_14 : decode cX10_guess 14 = .ok (.aload_n 0, 1) := by decide +kernel
theorem dX10_guess_15 : decode cX10_guess 15 = .ok (.getfield 57, 3) := by decide +kernel
theorem dX10_guess_18 : decode cX10_guess 18 = .ok (.iload_n 1, 1) := by decide +kernel
theorem dX10_guess_19 : decode cX10_guess 19 = .ok (.iaload, 1) := by decide +kernel
theorem dX10_guess_20 : decode cX10_guess 20 = .ok (.ifCond .ne 10, 3) := by decide +kernel
theorem dX10_guess_23 : decode cX10_guess 23 = .ok (.aload_n 0, 1) := by decide +kernel
theorem dX10_guess_24 : decode cX10_guess 24 = .ok (.ldc 124, 2) := by decide +kernel
theorem dX10_guess_26 : decode cX10_guess 26 = .ok (.invokevirtual 92, 3) := by decide +kernel
theorem dX10_guess_29 : decode cX10_guess 29 = .ok (.ireturn, 1) := by decide +kernel
theorem dX10_guess_30 : decode cX10_guess 30 = .ok (.aload_n 0, 1) := by decide +kernel
theorem dX10_guess_31 : decode cX10_guess 31 = .ok (.getfield 9, 3) := by decide +kernel
theorem dX10_guess_34 : decode cX10_guess 34 = .ok (.aload_n 0, 1) := by decide +kernel
theorem dX10_guess_35 : decode cX10_guess 35 = .ok (.getfield 16, 3) := by decide +kernel
theorem dX10_guess_38 : decode cX10_guess 38 = .ok (.invokestatic 83, 3) := by decide +kernel
theorem dX10_guess_41 : decode cX10_guess 41 = .ok (.iconst 0, 1) := by decide +kernel
theorem dX10_guess_42 : decode cX10_guess 42 = .ok (.istore_n 2, 1) := by decide +kernel
theorem dX10_guess_43 : decode cX10_guess 43 = .ok (.iconst 0, 1) := by decide +kernel
theorem dX10_guess_44 : decode cX10_guess 44 = .ok (.istore_n 3, 1) := by decide +kernel
theorem dX10_guess_45 : decode cX10_guess 45 = .ok (.iconst 0, 1) := by decide +kernel
theorem dX10_guess_46 : decode cX10_guess 46 = .ok (.istore 4, 2) := by decide +kernel
theorem dX10_guess_48 : decode cX10_guess 48 = .ok (.iload 4, 2) := by decide +kernel
theorem dX10_guess_50 : decode cX10_guess 50 = .ok (.bipush 60, 2) := by decide +kernel
theorem dX10_guess_52 : decode cX10_guess 52 = .ok (.if_icmp .gt 41, 3) := by decide +kernel
theorem dX10_guess_55 : decode cX10_guess 55 = .ok (.aload_n 0, 1) := by decide +kernel
theorem dX10_guess_56 : decode cX10_guess 56 = .ok (.getfield 9, 3) := by decide +kernel
theorem dX10_guess_59 : decode cX10_guess 59 = .ok (.iconst 5, 1) := by decide +kernel
theorem dX10_guess_60 : decode cX10_guess 60 = .ok (.iload 4, 2) := by decide +kernel
theorem dX10_guess_62 : decode cX10_guess 62 = .ok (.iastore, 1) := by decide +kernel
theorem dX10_guess_63 : decode cX10_guess 63 = .ok (.aload_n 0, 1) := by decide +kernel
theorem dX10_guess_64 : decode cX10_guess 64 = .ok (.iload_n 1, 1) := by decide +kernel
theorem dX10_guess_65 : decode cX10_guess 65 = .ok (.invokevirtual 325, 3) := by decide +kernel
theorem dX10_guess_68 : decode cX10_guess 68 = .ok (.istore 5, 2) := by decide +kernel
theorem dX10_guess_70 : decode cX10_guess 70 = .ok (.iload 4, 2) := by decide +kernel
theorem dX10_guess_72 : decode cX10_guess 72 = .ok (.ifCond .eq 9, 3) := by decide +kernel
theorem dX10_guess_75 : decode cX10_guess 75 = .ok (.iload 5, 2) := by decide +kernel
theorem dX10_guess_77 : decode cX10_guess 77 = .ok (.iload_n 3, 1) := by decide +kernel
theorem dX10_guess_78 : decode cX10_guess 78 = .ok (.if_icmp .ge 9, 3) := by decide +kernel
theorem dX10_guess_81 : decode cX10_guess 81 = .ok (.iload 4, 2) := by decide +kernel
theorem dX10_guess_83 : decode cX10_guess 83 = .ok (.istore_n 2, 1) := by decide +kernel
theorem dX10_guess_84 : decode cX10_guess 84 = .ok (.iload 5, 2) := by decide +kernel
theorem dX10_guess_86 : decode cX10_guess 86 = .ok (.istore_n 3, 1) := by decide +kernel
theorem dX10_guess_87 : decode cX10_guess 87 = .ok (.iinc 4 1, 3) := by decide +kernel
theorem dX10_guess_90 : decode cX10_guess 90 = .ok (.goto (-42), 3) := by decide +kernel
theorem dX10_guess_93 : decode cX10_guess 93 = .ok (.iload_n 2, 1) := by decide +kernel
theorem dX10_guess_94 : decode cX10_guess 94 = .ok (.ireturn, 1) := by decide +kernel
theorem dX10_image_0 : decode cX10_image 0 = .ok (.aload_n 0, 1) := by decide +kernel
theorem dX10_image_1 : decode cX10_image 1 = .ok (.getfield 9, 3) := by decide +kernel
theorem dX10_image_4 : decode cX10_image 4 = .ok (.aload_n 0, 1) := by decide +kernel
theorem dX10_image_5 : decode cX10_image 5 = .ok (.getfield 13, 3) := by decide +kernel
theorem dX10_image_8 : decode cX10_image 8 = .ok (.invokestatic 83, 3) := by decide +kernel
theorem dX10_image_11 : decode cX10_image 11 = .ok (.aload_n 0, 1) := by decide +kernel
theorem dX10_image_12 : decode cX10_image 12 = .ok (.dup, 1) := by decide +kernel
theorem dX10_image_13 : decode cX10_image 13 = .ok (.getfield 328, 3) := by decide +kernel
theorem dX10_image_16 : decode cX10_image 16 = .ok (.iconst 1, 1) := by decide +kernel
theorem dX10_image_17 : decode cX10_image 17 = .ok (.iadd, 1) := by decide +kernel
theorem dX10_image_18 : decode cX10_image 18 = .ok (.putfield 328, 3) := by decide +kernel
theorem dX10_image_21 : decode cX10_image 21 = .ok (.aload_n 0, 1) := by decide +kernel
theorem dX10_image_22 : decode cX10_image 22 = .ok (.getfield 328, 3) := by decide +kernel
theorem dX10_image_25 : decode cX10_image 25 = .ok (.ireturn, 1) := by decide +kernel
theorem dX10_restore_0 : decode cX10_restore 0 = .ok (.aload_n 0, 1) := by decide +kernel
theorem dX10_restore_1 : decode cX10_restore 1 = .ok (.getfield 328, 3) := by decide +kernel
theorem dX10_restore_4 : decode cX10_restore 4 = .ok (.ifCond .ne 10, 3) := by decide +kernel
theorem dX10_restore_7 : decode cX10_restore 7 = .ok (.aload_n 0, 1) := by decide +kernel
theorem dX10_restore_8 : decode cX10_restore 8 = .ok (.ldc 124, 2) := by decide +kernel
theorem dX10_restore_10 : decode cX10_restore 10 = .ok (.invokevirtual 92, 3) := by decide +kernel
theorem dX10_restore_13 : decode cX10_restore 13 = .ok (.ireturn, 1) := by decide +kernel
theorem dX10_restore_14 : decode cX10_restore 14 = .ok (.aload_n 0, 1) := by decide +kernel
theorem dX10_restore_15 : decode cX10_restore 15 = .ok (.getfield 13, 3) := by decide +kernel
theorem dX10_restore_18 : decode cX10_restore 18 = .ok (.aload_n 0, 1) := by decide +kernel
theorem dX10_restore_19 : decode cX10_restore 19 = .ok (.getfield 9, 3) := by decide +kernel
theorem dX10_restore_22 : decode cX10_restore 22 = .ok (.invokestatic 83, 3) := by decide +kernel
theorem dX10_restore_25 : decode cX10_restore 25 = .ok (.aload_n 0, 1) := by decide +kernel
theorem dX10_restore_26 : decode cX10_restore 26 = .ok (.getfield 9, 3) := by decide +kernel
theorem dX10_restore_29 : decode cX10_restore 29 = .ok (.bipush 13, 2) := by decide +kernel
theorem dX10_restore_31 : decode cX10_restore 31 = .ok (.iaload, 1) := by decide +kernel
theorem dX10_restore_32 : decode cX10_restore 32 = .ok (.ireturn, 1) := by decide +kernel
theorem dX10_tell_0 : decode cX10_tell 0 = .ok (.aload_n 0, 1) := by decide +kernel
theorem dX10_tell_1 : decode cX10_tell 1 = .ok (.getfield 9, 3) := by decide +kernel
theorem dX10_tell_4 : decode cX10_tell 4 = .ok (.bipush 17, 2) := by decide +kernel
theorem dX10_tell_6 : decode cX10_tell 6 = .ok (.iaload, 1) := by decide +kernel
theorem dX10_tell_7 : decode cX10_tell 7 = .ok (.bipush 24, 2) := by decide +kernel
theorem dX10_tell_9 : decode cX10_tell 9 = .ok (.if_icmp .ne 10, 3) := by decide +kernel
theorem dX10_tell_12 : decode cX10_tell 12 = .ok (.aload_n 0, 1) := by decide +kernel
theorem dX10_tell_13 : decode cX10_tell 13 = .ok (.ldc 100, 2) := by decide +kernel
theorem dX10_tell_15 : decode cX10_tell 15 = .ok (.invokevirtual 92, 3) := by decide +kernel
theorem dX10_tell_18 : decode cX10_tell 18 = .ok (.ireturn, 1) := by decide +kernel
theorem dX10_tell_19 : decode cX10_tell 19 = .ok (.aload_n 0, 1) := by decide +kernel
theorem dX10_tell_20 : decode cX10_tell 20 = .ok (.getfield 9, 3) := by decide +kernel
theorem dX10_tell_23 : decode cX10_tell 23 = .ok (.sipush 147, 3) := by decide +kernel
theorem dX10_tell_26 : decode cX10_tell 26 = .ok (.aload_n 0, 1) := by decide +kernel
theorem dX10_tell_27 : decode cX10_tell 27 = .ok (.getfield 9, 3) := by decide +kernel
theorem dX10_tell_30 : decode cX10_tell 30 = .ok (.bipush 17, 2) := by decide +kernel
theorem dX10_tell_32 : decode cX10_tell 32 = .ok (.iaload, 1) := by decide +kernel
theorem dX10_tell_33 : decode cX10_tell 33 = .ok (.iadd, 1) := by decide +kernel
theorem dX10_tell_34 : decode cX10_tell 34 = .ok (.iload_n 1, 1) := by decide +kernel
theorem dX10_tell_35 : decode cX10_tell 35 = .ok (.iastore, 1) := by decide +kernel
theorem dX10_tell_36 : decode cX10_tell 36 = .ok (.aload_n 0, 1) := by decide +kernel
theorem dX10_tell_37 : decode cX10_tell 37 = .ok (.getfield 9, 3) := by decide +kernel
theorem dX10_tell_40 : decode cX10_tell 40 = .ok (.bipush 17, 2) := by decide +kernel
theorem dX10_tell_42 : decode cX10_tell 42 = .ok (.dup2, 1) := by decide +kernel
theorem dX10_tell_43 : decode cX10_tell 43 = .ok (.iaload, 1) := by decide +kernel
theorem dX10_tell_44 : decode cX10_tell 44 = .ok (.iconst 1, 1) := by decide +kernel
theorem dX10_tell_45 : decode cX10_tell 45 = .ok (.iadd, 1) := by decide +kernel
theorem dX10_tell_46 : decode cX10_tell 46 = .ok (.iastore, 1) := by decide +kernel
theorem dX10_tell_47 : decode cX10_tell 47 = .ok (.aload_n 0, 1) := by decide +kernel
theorem dX10_tell_48 : decode cX10_tell 48 = .ok (.getfield 9, 3) := by decide +kernel
theorem dX10_tell_51 : decode cX10_tell 51 = .ok (.bipush 17, 2) := by decide +kernel
theorem dX10_tell_53 : decode cX10_tell 53 = .ok (.iaload, 1) := by decide +kernel
theorem dX10_tell_54 : decode cX10_tell 54 = .ok (.ireturn, 1) := by decide +kernel
theorem dX10_check_0 : decode cX10_check 0 = .ok (.aload_n 0, 1) := by decide +kernel
theorem dX10_check_1 : decode cX10_check 1 = .ok (.getfield 9, 3) := by decide +kernel
theorem dX10_check_4 : decode cX10_check 4 = .ok (.bipush 17, 2) := by decide +kernel
theorem dX10_check_6 : decode cX10_check 6 = .ok (.iaload, 1) := by decide +kernel
theorem dX10_check_7 : decode cX10_check 7 = .ok (.istore_n 1, 1) := by decide +kernel
theorem dX10_check_8 : decode cX10_check 8 = .ok (.aload_n 0, 1) := by decide +kernel
theorem dX10_check_9 : decode cX10_check 9 = .ok (.getfield 9, 3) := by decide +kernel
theorem dX10_check_12 : decode cX10_check 12 = .ok (.bipush 17, 2) := by decide +kernel
theorem dX10_check_14 : decode cX10_check 14 = .ok (.iconst 0, 1) := by decide +kernel
theorem dX10_check_15 : decode cX10_check 15 = .ok (.iastore, 1) := by decide +kernel
theorem dX10_check_16 : decode cX10_check 16 = .ok (.aload_n 0, 1) := by decide +kernel
theorem dX10_check_17 : decode cX10_check 17 = .ok (.getfield 9, 3) := by decide +kernel
theorem dX10_check_20 : decode cX10_check 20 = .ok (.aload_n 0, 1) := by decide +kernel
theorem dX10_check_21 : decode cX10_check 21 = .ok (.getfield 16, 3) := by decide +kernel
theorem dX10_check_24 : decode cX10_check 24 = .ok (.invokestatic 83, 3) := by decide +kernel
theorem dX10_check_27 : decode cX10_check 27 = .ok (.iconst 0, 1) := by decide +kernel
theorem dX10_check_28 : decode cX10_check 28 = .ok (.istore_n 2, 1) := by decide +kernel
theorem dX10_check_29 : decode cX10_check 29 = .ok (.iconst 0, 1) := by decide +kernel
theorem dX10_check_30 : decode cX10_check 30 = .ok (.istore_n 3, 1) := by decide +kernel
theorem dX10_check_31 : decode cX10_check 31 = .ok (.iload_n 3, 1) := by decide +kernel
theorem dX10_check_32 : decode cX10_check 32 = .ok (.iload_n 1, 1) := by decide +kernel
theorem dX10_check_33 : decode cX10_check 33 = .ok (.if_icmp .ge 46, 3) := by decide +kernel
theorem dX10_check_36 : decode cX10_check 36 = .ok (.iload_n 2, 1) := by decide +kernel
theorem dX10_check_37 : decode cX10_check 37 = .ok (.ifCond .ne 42, 3) := by decide +kernel
theorem dX10_check_40 : decode cX10_check 40 = .ok (.aload_n 0, 1) := by decide +kernel
theorem dX10_check_41 : decode cX10_check 41 = .ok (.iconst 1, 1) := by decide +kernel
theorem dX10_check_42 : decode cX10_check 42 = .ok (.invokevirtual 261, 3) := by decide +kernel
theorem dX10_check_45 : decode cX10_check 45 = .ok (.aload_n 0, 1) := by decide +kernel
theorem dX10_check_46 : decode cX10_check 46 = .ok (.getfield 9, 3) := by decide +kernel
theorem dX10_check_49 : decode cX10_check 49 = .ok (.sipush 147, 3) := by decide +kernel
theorem dX10_check_52 : decode cX10_check 52 = .ok (.iload_n 3, 1) := by decide +kernel
theorem dX10_check_53 : decode cX10_check 53 = .ok (.iadd, 1) := by decide +kernel
theorem dX10_check_54 : decode cX10_check 54 = .ok (.iaload, 1) := by decide +kernel
theorem dX10_check_55 : decode cX10_check 55 = .ok (.aload_n 0, 1) := by decide +kernel
theorem dX10_check_56 : decode cX10_check 56 = .ok (.getfield 9, 3) := by decide +kernel
theorem dX10_check_59 : decode cX10_check 59 = .ok (.bipush 7, 2) := by decide +kernel
theorem dX10_check_61 : decode cX10_check 61 = .ok (.iaload, 1) := by decide +kernel
theorem dX10_check_62 : decode cX10_check 62 = .ok (.if_icmp .ne 7, 3) := by decide +kernel
theorem dX10_check_65 : decode cX10_check 65 = .ok (.iconst 0, 1) := by decide +kernel
theorem dX10_check_66 : decode cX10_check 66 = .ok (.goto 6, 3) := by decide +kernel
theorem dX10_check_69 : decode cX10_check 69 = .ok (.iconst 1, 1) := by decide +kernel
theorem dX10_check_70 : decode cX10_check 70 = .ok (.iload_n 3, 1) := by decide +kernel
theorem dX10_check_71 : decode cX10_check 71 = .ok (.iadd, 1) := by decide +kernel
theorem dX10_check_72 : decode cX10_check 72 = .ok (.istore_n 2, 1) := by decide +kernel
theorem dX10_check_73 : decode cX10_check 73 = .ok (.iinc 3 1, 3) := by decide +kernel
theorem dX10_check_76 : decode cX10_check 76 = .ok (.goto (-45), 3) := by decide +kernel
theorem dX10_check_79 : decode cX10_check 79 = .ok (.aload_n 0, 1) := by decide +kernel
theorem dX10_check_80 : decode cX10_check 80 = .ok (.iload_n 2, 1) := by decide +kernel
theorem dX10_check_81 : decode cX10_check 81 = .ok (.invokevirtual 267, 3) := by decide +kernel
theorem dX10_check_84 : decode cX10_check 84 = .ok (.ireturn, 1) := by decide +kernel
theorem dX10_count_0 : decode cX10_count 0 = .ok (.iload_n 1, 1) := by decide +kernel
theorem dX10_count_1 : decode cX10_count 1 = .ok (.tableswitch 62 0 5 #[39, 39, 39, 39, 49, 54], 39) := by decide +kernel
theorem dX10_count_40 : decode cX10_count 40 = .ok (.aload_n 0, 1) := by decide +kernel
theorem dX10_count_41 : decode cX10_count 41 = .ok (.getfield 9, 3) := by decide +kernel
theorem dX10_count_44 : decode cX10_count 44 = .ok (.bipush 14, 2) := by decide +kernel
theorem dX10_count_46 : decode cX10_count 46 = .ok (.iload_n 1, 1) := by decide +kernel
theorem dX10_count_47 : decode cX10_count 47 = .ok (.iadd, 1) := by decide +kernel
theorem dX10_count_48 : decode cX10_count 48 = .ok (.iaload, 1) := by decide +kernel
theorem dX10_count_49 : decode cX10_count 49 = .ok (.ireturn, 1) := by decide +kernel
theorem dX10_count_50 : decode cX10_count 50 = .ok (.aload_n 0, 1) := by decide +kernel
theorem dX10_count_51 : decode cX10_count 51 = .ok (.getfield 290, 3) := by decide +kernel
theorem dX10_count_54 : decode cX10_count 54 = .ok (.ireturn, 1) := by decide +kernel
theorem dX10_count_55 : decode cX10_count 55 = .ok (.aload_n 0, 1) := by decide +kernel
theorem dX10_count_56 : decode cX10_count 56 = .ok (.getfield 9, 3) := by decide +kernel
theorem dX10_count_59 : decode cX10_count 59 = .ok (.bipush 18, 2) := by decide +kernel
theorem dX10_count_61 : decode cX10_count 61 = .ok (.iaload, 1) := by decide +kernel
theorem dX10_count_62 : decode cX10_count 62 = .ok (.ireturn, 1) := by decide +kernel
theorem dX10_count_63 : decode cX10_count 63 = .ok (.aload_n 0, 1) := by decide +kernel
theorem dX10_count_64 : decode cX10_count 64 = .ok (.ldc 91, 2) := by decide +kernel
theorem dX10_count_66 : decode cX10_count 66 = .ok (.invokevirtual 92, 3) := by decide +kernel
theorem dX10_count_69 : decode cX10_count 69 = .ok (.ireturn, 1) := by decide +kernel
theorem dX10_told_0 : decode cX10_told 0 = .ok (.iload_n 1, 1) := by decide +kernel
theorem dX10_told_1 : decode cX10_told 1 = .ok (.iconst 1, 1) := by decide +kernel
theorem dX10_told_2 : decode cX10_told 2 = .ok (.bipush 6, 2) := by decide +kernel
theorem dX10_told_4 : decode cX10_told 4 = .ok (.invokestatic 79, 3) := by decide +kernel
theorem dX10_told_7 : decode cX10_told 7 = .ok (.ifCond .eq 12, 3) := by decide +kernel
theorem dX10_told_10 : decode cX10_told 10 = .ok (.aload_n 0, 1) := by decide +kernel
theorem dX10_told_11 : decode cX10_told 11 = .ok (.getfield 19, 3) := by decide +kernel
theorem dX10_told_14 : decode cX10_told 14 = .ok (.iload_n 1, 1) := by decide +kernel
theorem dX10_told_15 : decode cX10_told 15 = .ok (.iaload, 1) := by decide +kernel
theorem dX10_told_16 : decode cX10_told 16 = .ok (.goto 9, 3) := by decide +kernel
theorem dX10_told_19 : decode cX10_told 19 = .ok (.aload_n 0, 1) := by decide +kernel
theorem dX10_told_20 : decode cX10_told 20 = .ok (.ldc 91, 2) := by decide +kernel
theorem dX10_told_22 : decode cX10_told 22 = .ok (.invokevirtual 92, 3) := by decide +kernel
theorem dX10_told_25 : decode cX10_told 25 = .ok (.ireturn, 1) := by decide +kernel
