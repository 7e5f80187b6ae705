theorem dX9_init_0 : decode cX9_init 0 = .ok (.aload_n 0, 1) := by decide +kernel
theorem dX9_init_1 : decode cX9_init 1 = .ok (.invokespecial 1, 3) := by decide +kernel
theorem dX9_init_4 : decode cX9_init 4 = .ok (.aload_n 0, 1) := by decide +kernel
theorem dX9_init_5 : decode cX9_init 5 = .ok (.new 7, 3) := by decide +kernel
theorem dX9_init_8 : decode cX9_init 8 = .ok (.dup, 1) := by decide +kernel
theorem dX9_init_9 : decode cX9_init 9 = .ok (.invokespecial 9, 3) := by decide +kernel
theorem dX9_init_12 : decode cX9_init 12 = .ok (.putfield 10, 3) := by decide +kernel
theorem dX9_init_15 : decode cX9_init 15 = .ok (.aload_n 0, 1) := by decide +kernel
theorem dX9_init_16 : decode cX9_init 16 = .ok (.new 7, 3) := by decide +kernel
theorem dX9_init_19 : decode cX9_init 19 = .ok (.dup, 1) := by decide +kernel
theorem dX9_init_20 : decode cX9_init 20 = .ok (.invokespecial 9, 3) := by decide +kernel
theorem dX9_init_23 : decode cX9_init 23 = .ok (.putfield 16, 3) := by decide +kernel
theorem dX9_init_26 : decode cX9_init 26 = .ok (.aload_n 0, 1) := by decide +kernel
theorem dX9_init_27 : decode cX9_init 27 = .ok (.new 7, 3) := by decide +kernel
theorem dX9_init_30 : decode cX9_init 30 = .ok (.dup, 1) := by decide +kernel
theorem dX9_init_31 : decode cX9_init 31 = .ok (.invokespecial 9, 3) := by decide +kernel
theorem dX9_init_34 : decode cX9_init 34 = .ok (.putfield 19, 3) := by decide +kernel
theorem dX9_init_37 : decode cX9_init 37 = .ok (.aload_n 0, 1) := by decide +kernel
theorem dX9_init_38 : decode cX9_init 38 = .ok (.new 22, 3) := by decide +kernel
theorem dX9_init_41 : decode cX9_init 41 = .ok (.dup, 1) := by decide +kernel
theorem dX9_init_42 : decode cX9_init 42 = .ok (.invokespecial 24, 3) := by decide +kernel
theorem dX9_init_45 : decode cX9_init 45 = .ok (.putfield 25, 3) := by decide +kernel
theorem dX9_init_48 : decode cX9_init 48 = .ok (.aload_n 0, 1) := by decide +kernel
theorem dX9_init_49 : decode cX9_init 49 = .ok (.new 29, 3) := by decide +kernel
theorem dX9_init_52 : decode cX9_init 52 = .ok (.dup, 1) := by decide +kernel
theorem dX9_init_53 : decode cX9_init 53 = .ok (.invokespecial 31, 3) := by decide +kernel
theorem dX9_init_56 : decode cX9_init 56 = .ok (.putfield 32, 3) := by decide +kernel
theorem dX9_init_59 : decode cX9_init 59 = .ok (.aload_n 0, 1) := by decide +kernel
theorem dX9_init_60 : decode cX9_init 60 = .ok (.iconst 4, 1) := by decide +kernel
theorem dX9_init_61 : decode cX9_init 61 = .ok (.anewarray 36, 3) := by decide +kernel
theorem dX9_init_64 : decode cX9_init 64 = .ok (.putfield 38, 3) := by decide +kernel
theorem dX9_init_67 : decode cX9_init 67 = .ok (.aload_n 0, 1) := by decide +kernel
theorem dX9_init_68 : decode cX9_init 68 = .ok (.bipush 6, 2) := by decide +kernel
theorem dX9_init_70 : decode cX9_init 70 = .ok (.newarray .int, 2) := by decide +kernel
theorem dX9_init_72 : decode cX9_init 72 = .ok (.putfield 42, 3) := by decide +kernel
theorem dX9_init_75 : decode cX9_init 75 = .ok (.aload_n 0, 1) := by decide +kernel
theorem dX9_init_76 : decode cX9_init 76 = .ok (.new 46, 3) := by decide +kernel
theorem dX9_init_79 : decode cX9_init 79 = .ok (.dup, 1) := by decide +kernel
theorem dX9_init_80 : decode cX9_init 80 = .ok (.invokespecial 48, 3) := by decide +kernel
theorem dX9_init_83 : decode cX9_init 83 = .ok (.putfield 49, 3) := by decide +kernel
theorem dX9_init_86 : decode cX9_init 86 = .ok (.aload_n 0, 1) := by decide +kernel
theorem dX9_init_87 : decode cX9_init 87 = .ok (.iconst 0, 1) := by decide +kernel
theorem dX9_init_88 : decode cX9_init 88 = .ok (.putfield 53, 3) := by decide +kernel
theorem dX9_init_91 : decode cX9_init 91 = .ok (.iconst 0, 1) := by decide +kernel
theorem dX9_init_92 : decode cX9_init 92 = .ok (.istore_n 1, 1) := by decide +kernel
theorem dX9_init_93 : decode cX9_init 93 = .ok (.iload_n 1, 1) := by decide +kernel
theorem dX9_init_94 : decode cX9_init 94 = .ok (.aload_n 0, 1) := by decide +kernel
theorem dX9_init_95 : decode cX9_init 95 = .ok (.getfield 38, 3) := by decide +kernel
theorem dX9_init_98 : decode cX9_init 98 = .ok (.arraylength, 1) := by decide +kernel
theorem dX9_init_99 : decode cX9_init 99 = .ok (.if_icmp .ge 22, 3) := by decide +kernel
theorem dX9_init_102 : decode cX9_init 102 = .ok (.aload_n 0, 1) := by decide +kernel
theorem dX9_init_103 : decode cX9_init 103 = .ok (.getfield 38, 3) := by decide +kernel
theorem dX9_init_106 : decode cX9_init 106 = .ok (.iload_n 1, 1) := by decide +kernel
theorem dX9_init_107 : decode cX9_init 107 = .ok (.new 36, 3) := by decide +kernel
theorem dX9_init_110 : decode cX9_init 110 = .ok (.dup, 1) := by decide +kernel
theorem dX9_init_111 : decode cX9_init 111 = .ok (.invokespecial 57, 3) := by decide +kernel
theorem dX9_init_114 : decode cX9_init 114 = .ok (.aastore, 1) := by decide +kernel
theorem dX9_init_115 : decode cX9_init 115 = .ok (.iinc 1 1, 3) := by decide +kernel
theorem dX9_init_118 : decode cX9_init 118 = .ok (.goto (-25), 3) := by decide +kernel
theorem dX9_init_121 : decode cX9_init 121 = .ok (.return_, 1) := by decide +kernel
theorem dX9_floor_0 : decode cX9_floor 0 = .ok (.iload_n 1, 1) := by decide +kernel
theorem dX9_floor_1 : decode cX9_floor 1 = .ok (.iconst 0, 1) := by decide +kernel
theorem dX9_floor_2 : decode cX9_floor 2 = .ok (.bipush 9, 2) := by decide +kernel
theorem dX9_floor_4 : decode cX9_floor 4 = .ok (.invokestatic 58, 3) := by decide +kernel
theorem dX9_floor_7 : decode cX9_floor 7 = .ok (.ifCond .eq 31, 3) := by decide +kernel
theorem dX9_floor_10 : decode cX9_floor 10 = .ok (.iload_n 2, 1) := by decide +kernel
theorem dX9_floor_11 : decode cX9_floor 11 = .ok (.iconst 0, 1) := by decide +kernel
theorem dX9_floor_12 : decode cX9_floor 12 = .ok (.iconst 1, 1) := by decide +kernel
theorem dX9_floor_13 : decode cX9_floor 13 = .ok (.invokestatic 58, 3) := by decide +kernel
theorem dX9_floor_16 : decode cX9_floor 16 = .ok (.ifCond .eq 22, 3) := by decide +kernel
theorem dX9_floor_19 : decode cX9_floor 19 = .ok (.iload_n 3, 1) := by decide +kernel
theorem dX9_floor_20 : decode cX9_floor 20 = .ok (.iload_n 2, 1) := by decide +kernel
theorem dX9_floor_21 : decode cX9_floor 21 = .ok (.ifCond .ne 7, 3) := by decide +kernel
theorem dX9_floor_24 : decode cX9_floor 24 = .ok (.iconst 0, 1) := by decide +kernel
theorem dX9_floor_25 : decode cX9_floor 25 = .ok (.goto 5, 3) := by decide +kernel
theorem dX9_floor_28 : decode cX9_floor 28 = .ok (.bipush (-9), 2) := by decide +kernel
theorem dX9_floor_30 : decode cX9_floor 30 = .ok (.bipush 9, 2) := by decide +kernel
theorem dX9_floor_32 : decode cX9_floor 32 = .ok (.invokestatic 58, 3) := by decide +kernel
theorem dX9_floor_35 : decode cX9_floor 35 = .ok (.ifCond .ne 9, 3) := by decide +kernel
theorem dX9_floor_38 : decode cX9_floor 38 = .ok (.aload_n 0, 1) := by decide +kernel
theorem dX9_floor_39 : decode cX9_floor 39 = .ok (.iconst 1, 1) := by decide +kernel
theorem dX9_floor_40 : decode cX9_floor 40 = .ok (.invokevirtual 62, 3) := by decide +kernel
theorem dX9_floor_43 : decode cX9_floor 43 = .ok (.ireturn, 1) := by decide +kernel
theorem dX9_floor_44 : decode cX9_floor 44 = .ok (.iload_n 2, 1) := by decide +kernel
theorem dX9_floor_45 : decode cX9_floor 45 = .ok (.ifCond .ne 16, 3) := by decide +kernel
theorem dX9_floor_48 : decode cX9_floor 48 = .ok (.aload_n 0, 1) := by decide +kernel
theorem dX9_floor_49 : decode cX9_floor 49 = .ok (.getfield 10, 3) := by decide +kernel
theorem dX9_floor_52 : decode cX9_floor 52 = .ok (.getfield 66, 3) := by decide +kernel
theorem dX9_floor_55 : decode cX9_floor 55 = .ok (.getfield 70, 3) := by decide +kernel
theorem dX9_floor_58 : decode cX9_floor 58 = .ok (.goto 13, 3) := by decide +kernel
theorem dX9_floor_61 : decode cX9_floor 61 = .ok (.aload_n 0, 1) := by decide +kernel
theorem dX9_floor_62 : decode cX9_floor 62 = .ok (.getfield 10, 3) := by decide +kernel
theorem dX9_floor_65 : decode cX9_floor 65 = .ok (.getfield 66, 3) := by decide +kernel
theorem dX9_floor_68 : decode cX9_floor 68 = .ok (.getfield 75, 3) := by decide +kernel
theorem dX9_floor_71 : decode cX9_floor 71 = .ok (.iload_n 1, 1) := by decide +kernel
theorem dX9_floor_72 : decode cX9_floor 72 = .ok (.iload_n 3, 1) := by decide +kernel
theorem dX9_floor_73 : decode cX9_floor 73 = .ok (.invokestatic 78, 3) := by decide +kernel
theorem dX9_floor_76 : decode cX9_floor 76 = .ok (.ireturn, 1) := by decide +kernel
theorem dX9_hold_0 : decode cX9_hold 0 = .ok (.iload_n 1, 1) := by decide +kernel
theorem dX9_hold_1 : decode cX9_hold 1 = .ok (.iload_n 2, 1) := by decide +kernel
theorem dX9_hold_2 : decode cX9_hold 2 = .ok (.invokestatic 82, 3) := by decide +kernel
theorem dX9_hold_5 : decode cX9_hold 5 = .ok (.ifCond .ne 9, 3) := by decide +kernel
theorem dX9_hold_8 : decode cX9_hold 8 = .ok (.aload_n 0, 1) := by decide +kernel
theorem dX9_hold_9 : decode cX9_hold 9 = .ok (.iconst 1, 1) := by decide +kernel
theorem dX9_hold_10 : decode cX9_hold 10 = .ok (.invokevirtual 62, 3) := by decide +kernel
theorem dX9_hold_13 : decode cX9_hold 13 = .ok (.ireturn, 1) := by decide +kernel
theorem dX9_hold_14 : decode cX9_hold 14 = .ok (.aload_n 0, 1) := by decide +kernel
theorem dX9_hold_15 : decode cX9_hold 15 = .ok (.getfield 10, 3) := by decide +kernel
theorem dX9_hold_18 : decode cX9_hold 18 = .ok (.getfield 66, 3) := by decide +kernel
theorem dX9_hold_21 : decode cX9_hold 21 = .ok (.getfield 86, 3) := by decide +kernel
theorem dX9_hold_24 : decode cX9_hold 24 = .ok (.bipush 8, 2) := by decide +kernel
theorem dX9_hold_26 : decode cX9_hold 26 = .ok (.if_icmp .lt 9, 3) := by decide +kernel
theorem dX9_hold_29 : decode cX9_hold 29 = .ok (.aload_n 0, 1) := by decide +kernel
theorem dX9_hold_30 : decode cX9_hold 30 = .ok (.iconst 4, 1) := by decide +kernel
theorem dX9_hold_31 : decode cX9_hold 31 = .ok (.invokevirtual 62, 3) := by decide +kernel
theorem dX9_hold_34 : decode cX9_hold 34 = .ok (.ireturn, 1) := by decide +kernel
theorem dX9_hold_35 : decode cX9_hold 35 = .ok (.aload_n 0, 1) := by decide +kernel
theorem dX9_hold_36 : decode cX9_hold 36 = .ok (.getfield 10, 3) := by decide +kernel
theorem dX9_hold_39 : decode cX9_hold 39 = .ok (.getfield 66, 3) := by decide +kernel
theorem dX9_hold_42 : decode cX9_hold 42 = .ok (.iload_n 1, 1) := by decide +kernel
theorem dX9_hold_43 : decode cX9_hold 43 = .ok (.iload_n 2, 1) := by decide +kernel
theorem dX9_hold_44 : decode cX9_hold 44 = .ok (.invokevirtual 89, 3) := by decide +kernel
theorem dX9_hold_47 : decode cX9_hold 47 = .ok (.ireturn, 1) := by decide +kernel
theorem dX9_holdIs_0 : decode cX9_holdIs 0 = .ok (.aload_n 0, 1) := by decide +kernel
theorem dX9_holdIs_1 : decode cX9_holdIs 1 = .ok (.iload_n 1, 1) := by decide +kernel
theorem dX9_holdIs_2 : decode cX9_holdIs 2 = .ok (.invokevirtual 93, 3) := by decide +kernel
theorem dX9_holdIs_5 : decode cX9_holdIs 5 = .ok (.ifCond .eq 12, 3) := by decide +kernel
theorem dX9_holdIs_8 : decode cX9_holdIs 8 = .ok (.iload_n 2, 1) := by decide +kernel
theorem dX9_holdIs_9 : decode cX9_holdIs 9 = .ok (.iconst 0, 1) := by decide +kernel
theorem dX9_holdIs_10 : decode cX9_holdIs 10 = .ok (.iconst 3, 1) := by decide +kernel
theorem dX9_holdIs_11 : decode cX9_holdIs 11 = .ok (.invokestatic 58, 3) := by decide +kernel
theorem dX9_holdIs_14 : decode cX9_holdIs 14 = .ok (.ifCond .ne 9, 3) := by decide +kernel
theorem dX9_holdIs_17 : decode cX9_holdIs 17 = .ok (.aload_n 0, 1) := by decide +kernel
theorem dX9_holdIs_18 : decode cX9_holdIs 18 = .ok (.iconst 1, 1) := by decide +kernel
theorem dX9_holdIs_19 : decode cX9_holdIs 19 = .ok (.invokevirtual 62, 3) := by decide +kernel
theorem dX9_holdIs_22 : decode cX9_holdIs 22 = .ok (.ireturn, 1) := by decide +kernel
theorem dX9_holdIs_23 : decode cX9_holdIs 23 = .ok (.iload_n 2, 1) := by decide +kernel
theorem dX9_holdIs_24 : decode cX9_holdIs 24 = .ok (.iconst 3, 1) := by decide +kernel
theorem dX9_holdIs_25 : decode cX9_holdIs 25 = .ok (.if_icmp .ne 20, 3) := by decide +kernel
theorem dX9_holdIs_28 : decode cX9_holdIs 28 = .ok (.aload_n 0, 1) := by decide +kernel
theorem dX9_holdIs_29 : decode cX9_holdIs 29 = .ok (.getfield 10, 3) := by decide +kernel
theorem dX9_holdIs_32 : decode cX9_holdIs 32 = .ok (.iload_n 1, 1) := by decide +kernel
theorem dX9_holdIs_33 : decode cX9_holdIs 33 = .ok (.invokevirtual 97, 3) := by decide +kernel
theorem dX9_holdIs_36 : decode cX9_holdIs 36 = .ok (.ifCond .eq 7, 3) := by decide +kernel
theorem dX9_holdIs_39 : decode cX9_holdIs 39 = .ok (.iconst 1, 1) := by decide +kernel
theorem dX9_holdIs_40 : decode cX9_holdIs 40 = .ok (.goto 4, 3) := by decide +kernel
theorem dX9_holdIs_43 : decode cX9_holdIs 43 = .ok (.iconst 0, 1) := by decide +kernel
theorem dX9_holdIs_44 : decode cX9_holdIs 44 = .ok (.ireturn, 1) := by decide +kernel
theorem dX9_holdIs_45 : decode cX9_holdIs 45 = .ok (.aload_n 0, 1) := by decide +kernel
theorem dX9_holdIs_46 : decode cX9_holdIs 46 = .ok (.getfield 10, 3) := by decide +kernel
theorem dX9_holdIs_49 : decode cX9_holdIs 49 = .ok (.getfield 66, 3) := by decide +kernel
theorem dX9_holdIs_52 : decode cX9_holdIs 52 = .ok (.iload_n 2, 1) := by decide +kernel
theorem dX9_holdIs_53 : decode cX9_holdIs 53 = .ok (.invokevirtual 100, 3) := by decide +kernel
theorem dX9_holdIs_56 : decode cX9_holdIs 56 = .ok (.iload_n 1, 1) := by decide +kernel
theorem dX9_holdIs_57 : decode cX9_holdIs 57 = .ok (.invokestatic 104, 3) := by decide +kernel
theorem dX9_holdIs_60 : decode cX9_holdIs 60 = .ok (.ireturn, 1) := by decide +kernel
theorem dX9_setHold_0 : decode cX9_setHold 0 = .ok (.aload_n 0, 1) := by decide +kernel
theorem dX9_setHold_1 : decode cX9_setHold 1 = .ok (.iload_n 1, 1) := by decide +kernel
theorem dX9_setHold_2 : decode cX9_setHold 2 = .ok (.invokevirtual 93, 3) := by decide +kernel
theorem dX9_setHold_5 : decode cX9_setHold 5 = .ok (.ifCond .eq 31, 3) := by decide +kernel
theorem dX9_setHold_8 : decode cX9_setHold 8 = .ok (.iload_n 2, 1) := by decide +kernel
theorem dX9_setHold_9 : decode cX9_setHold 9 = .ok (.iconst 0, 1) := by decide +kernel
theorem dX9_setHold_10 : decode cX9_setHold 10 = .ok (.iconst 2, 1) := by decide +kernel
theorem dX9_setHold_11 : decode cX9_setHold 11 = .ok (.invokestatic 58, 3) := by decide +kernel
theorem dX9_setHold_14 : decode cX9_setHold 14 = .ok (.ifCond .eq 22, 3) := by decide +kernel
theorem dX9_setHold_17 : decode cX9_setHold 17 = .ok (.iload_n 3, 1) := by decide +kernel
theorem dX9_setHold_18 : decode cX9_setHold 18 = .ok (.iconst 0, 1) := by decide +kernel
theorem dX9_setHold_19 : decode cX9_setHold 19 = .ok (.iload_n 2, 1) := by decide +kernel
theorem dX9_setHold_20 : decode cX9_setHold 20 = .ok (.iconst 2, 1) := by decide +kernel
theorem dX9_setHold_21 : decode cX9_setHold 21 = .ok (.if_icmp .ne 7, 3) := by decide +kernel
theorem dX9_setHold_24 : decode cX9_setHold 24 = .ok (.iconst 1, 1) := by decide +kernel
theorem dX9_setHold_25 : decode cX9_setHold 25 = .ok (.goto 5, 3) := by decide +kernel
theorem dX9_setHold_28 : decode cX9_setHold 28 = .ok (.bipush 99, 2) := by decide +kernel
theorem dX9_setHold_30 : decode cX9_setHold 30 = .ok (.invokestatic 58, 3) := by decide +kernel
theorem dX9_setHold_33 : decode cX9_setHold 33 = .ok (.ifCond .ne 9, 3) := by decide +kernel
theorem dX9_setHold_36 : decode cX9_setHold 36 = .ok (.aload_n 0, 1) := by decide +kernel
theorem dX9_setHold_37 : decode cX9_setHold 37 = .ok (.iconst 1, 1) := by decide +kernel
theorem dX9_setHold_38 : decode cX9_setHold 38 = .ok (.invokevirtual 62, 3) := by decide +kernel
theorem dX9_setHold_41 : decode cX9_setHold 41 = .ok (.ireturn, 1) := by decide +kernel
theorem dX9_setHold_42 : decode cX9_setHold 42 = .ok (.aload_n 0, 1) := by decide +kernel
theorem dX9_setHold_43 : decode cX9_setHold 43 = .ok (.getfield 10, 3) := by decide +kernel
theorem dX9_setHold_46 : decode cX9_setHold 46 = .ok (.getfield 66, 3) := by decide +kernel
theorem dX9_setHold_49 : decode cX9_setHold 49 = .ok (.iload_n 2, 1) := by decide +kernel
theorem dX9_setHold_50 : decode cX9_setHold 50 = .ok (.invokevirtual 100, 3) := by decide +kernel
theorem dX9_setHold_53 : decode cX9_setHold 53 = .ok (.iload_n 1, 1) := by decide +kernel
theorem dX9_setHold_54 : decode cX9_setHold 54 = .ok (.iload_n 3, 1) := by decide +kernel
theorem dX9_setHold_55 : decode cX9_setHold 55 = .ok (.invokestatic 78, 3) := by decide +kernel
theorem dX9_setHold_58 : decode cX9_setHold 58 = .ok (.ireturn, 1) := by decide +kernel
theorem dX9_set_0 : decode cX9_set 0 = .ok (.iload_n 1, 1) := by decide +kernel
theorem dX9_set_1 : decode cX9_set 1 = .ok (.iconst 0, 1) := by decide +kernel
theorem dX9_set_2 : decode cX9_set 2 = .ok (.bipush 6, 2) := by decide +kernel
theorem dX9_set_4 : decode cX9_set 4 = .ok (.invokestatic 58, 3) := by decide +kernel
theorem dX9_set_7 : decode cX9_set 7 = .ok (.ifCond .eq 24, 3) := by decide +kernel
theorem dX9_set_10 : decode cX9_set 10 = .ok (.iload_n 2, 1) := by decide +kernel
theorem dX9_set_11 : decode cX9_set 11 = .ok (.getstatic 108, 3) := by decide +kernel
theorem dX9_set_14 : decode cX9_set 14 = .ok (.iload_n 1, 1) := by decide +kernel
theorem dX9_set_15 : decode cX9_set 15 = .ok (.invokestatic 104, 3) := by decide +kernel
theorem dX9_set_18 : decode cX9_set 18 = .ok (.getstatic 111, 3) := by decide +kernel
theorem dX9_set_21 : decode cX9_set 21 = .ok (.iload_n 1, 1) := by decide +kernel
theorem dX9_set_22 : decode cX9_set 22 = .ok (.invokestatic 104, 3) := by decide +kernel
theorem dX9_set_25 : decode cX9_set 25 = .ok (.invokestatic 58, 3) := by decide +kernel
theorem dX9_set_28 : decode cX9_set 28 = .ok (.ifCond .ne 9, 3) := by decide +kernel
theorem dX9_set_31 : decode cX9_set 31 = .ok (.aload_n 0, 1) := by decide +kernel
theorem dX9_set_32 : decode cX9_set 32 = .ok (.iconst 1, 1) := by decide +kernel
theorem dX9_set_33 : decode cX9_set 33 = .ok (.invokevirtual 62, 3) := by decide +kernel
theorem dX9_set_36 : decode cX9_set 36 = .ok (.ireturn, 1) := by decide +kernel
theorem dX9_set_37 : decode cX9_set 37 = .ok (.aload_n 0, 1) := by decide +kernel
theorem dX9_set_38 : decode cX9_set 38 = .ok (.getfield 10, 3) := by decide +kernel
theorem dX9_set_41 : decode cX9_set 41 = .ok (.getfield 114, 3) := by decide +kernel
theorem dX9_set_44 : decode cX9_set 44 = .ok (.iload_n 1, 1) := by decide +kernel
theorem dX9_set_45 : decode cX9_set 45 = .ok (.iload_n 2, 1) := by decide +kernel
theorem dX9_set_46 : decode cX9_set 46 = .ok (.invokestatic 78, 3) := by decide +kernel
theorem dX9_set_49 : decode cX9_set 49 = .ok (.ireturn, 1) := by decide +kernel
theorem dX9_is_0 : decode cX9_is 0 = .ok (.iload_n 1, 1) := by decide +kernel
theorem dX9_is_1 : decode cX9_is 1 = .ok (.iconst 0, 1) := by decide +kernel
theorem dX9_is_2 : decode cX9_is 2 = .ok (.bipush 13, 2) := by decide +kernel
theorem dX9_is_4 : decode cX9_is 4 = .ok (.invokestatic 58, 3) := by decide +kernel
theorem dX9_is_7 : decode cX9_is 7 = .ok (.ifCond .ne 9, 3) := by decide +kernel
theorem dX9_is_10 : decode cX9_is 10 = .ok (.aload_n 0, 1) := by decide +kernel
theorem dX9_is_11 : decode cX9_is 11 = .ok (.iconst 1, 1) := by decide +kernel
theorem dX9_is_12 : decode cX9_is 12 = .ok (.invokevirtual 62, 3) := by decide +kernel
theorem dX9_is_15 : decode cX9_is 15 = .ok (.ireturn, 1) := by decide +kernel
theorem dX9_is_16 : decode cX9_is 16 = .ok (.aload_n 0, 1) := by decide +kernel
theorem dX9_is_17 : decode cX9_is 17 = .ok (.getfield 10, 3) := by decide +kernel
theorem dX9_is_20 : decode cX9_is 20 = .ok (.getfield 114, 3) := by decide +kernel
theorem dX9_is_23 : decode cX9_is 23 = .ok (.iload_n 1, 1) := by decide +kernel
theorem dX9_is_24 : decode cX9_is 24 = .ok (.invokestatic 104, 3) := by decide +kernel
theorem dX9_is_27 : decode cX9_is 27 = .ok (.ireturn, 1) := by decide +kernel
theorem dX9_nearest_0 : decode cX9_nearest 0 = .ok (.aload_n 0, 1) := by decide +kernel
theorem dX9_nearest_1 : decode cX9_nearest 1 = .ok (.getfield 10, 3) := by decide +kernel
theorem dX9_nearest_4 : decode cX9_nearest 4 = .ok (.getfield 66, 3) := by decide +kernel
theorem dX9_nearest_7 : decode cX9_nearest 7 = .ok (.aload_n 0, 1) := by decide +kernel
theorem dX9_nearest_8 : decode cX9_nearest 8 = .ok (.getfield 10, 3) := by decide +kernel
theorem dX9_nearest_11 : decode cX9_nearest 11 = .ok (.getfield 114, 3) := by decide +kernel
theorem dX9_nearest_14 : decode cX9_nearest 14 = .ok (.iconst 0, 1) := by decide +kernel
theorem dX9_nearest_15 : decode cX9_nearest 15 = .ok (.iaload, 1) := by decide +kernel
theorem dX9_nearest_16 : decode cX9_nearest 16 = .ok (.invokevirtual 117, 3) := by decide +kernel
theorem dX9_nearest_19 : decode cX9_nearest 19 = .ok (.istore_n 1, 1) := by decide +kernel
theorem dX9_nearest_20 : decode cX9_nearest 20 = .ok (.iload_n 1, 1) := by decide +kernel
theorem dX9_nearest_21 : decode cX9_nearest 21 = .ok (.ifCond .ge 11, 3) := by decide +kernel
theorem dX9_nearest_24 : decode cX9_nearest 24 = .ok (.aload_n 0, 1) := by decide +kernel
theorem dX9_nearest_25 : decode cX9_nearest 25 = .ok (.iconst 2, 1) := by decide +kernel
theorem dX9_nearest_26 : decode cX9_nearest 26 = .ok (.invokevirtual 62, 3) := by decide +kernel
theorem dX9_nearest_29 : decode cX9_nearest 29 = .ok (.goto 4, 3) := by decide +kernel
theorem dX9_nearest_32 : decode cX9_nearest 32 = .ok (.iload_n 1, 1) := by decide +kernel
theorem dX9_nearest_33 : decode cX9_nearest 33 = .ok (.ireturn, 1) := by decide +kernel
theorem dX9_going_0 : decode cX9_going 0 = .ok (.iload_n 1, 1) := by decide +kernel
theorem dX9_going_1 : decode cX9_going 1 = .ok (.iconst 0, 1) := by decide +kernel
theorem dX9_going_2 : decode cX9_going 2 = .ok (.sipush 699, 3) := by decide +kernel
theorem dX9_going_5 : decode cX9_going 5 = .ok (.invokestatic 58, 3) := by decide +kernel
theorem dX9_going_8 : decode cX9_going 8 = .ok (.ifCond .eq 13, 3) := by decide +kernel
theorem dX9_going_11 : decode cX9_going 11 = .ok (.iload_n 2, 1) := by decide +kernel
theorem dX9_going_12 : decode cX9_going 12 = .ok (.iconst 1, 1) := by decide +kernel
theorem dX9_going_13 : decode cX9_going 13 = .ok (.bipush 60, 2) := by decide +kernel
theorem dX9_going_15 : decode cX9_going 15 = .ok (.invokestatic 58, 3) := by decide +kernel
theorem dX9_going_18 : decode cX9_going 18 = .ok (.ifCond .ne 9, 3) := by decide +kernel
theorem dX9_going_21 : decode cX9_going 21 = .ok (.aload_n 0, 1) := by decide +kernel
theorem dX9_going_22 : decode cX9_going 22 = .ok (.iconst 1, 1) := by decide +kernel
theorem dX9_going_23 : decode cX9_going 23 = .ok (.invokevirtual 62, 3) := by decide +kernel
theorem dX9_going_26 : decode cX9_going 26 = .ok (.ireturn, 1) := by decide +kernel
theorem dX9_going_27 : decode cX9_going 27 = .ok (.aload_n 0, 1) := by decide +kernel
theorem dX9_going_28 : decode cX9_going 28 = .ok (.getfield 10, 3) := by decide +kernel
theorem dX9_going_31 : decode cX9_going 31 = .ok (.getfield 120, 3) := by decide +kernel
theorem dX9_going_34 : decode cX9_going 34 = .ok (.getfield 124, 3) := by decide +kernel
theorem dX9_going_37 : decode cX9_going 37 = .ok (.bipush 8, 2) := by decide +kernel
theorem dX9_going_39 : decode cX9_going 39 = .ok (.if_icmp .lt 9, 3) := by decide +kernel
theorem dX9_going_42 : decode cX9_going 42 = .ok (.aload_n 0, 1) := by decide +kernel
theorem dX9_going_43 : decode cX9_going 43 = .ok (.iconst 4, 1) := by decide +kernel
theorem dX9_going_44 : decode cX9_going 44 = .ok (.invokevirtual 62, 3) := by decide +kernel
theorem dX9_going_47 : decode cX9_going 47 = .ok (.ireturn, 1) := by decide +kernel
theorem dX9_going_48 : decode cX9_going 48 = .ok (.aload_n 0, 1) := by decide +kernel
theorem dX9_going_49 : decode cX9_going 49 = .ok (.getfield 10, 3) := by decide +kernel
theorem dX9_going_52 : decode cX9_going 52 = .ok (.getfield 120, 3) := by decide +kernel
theorem dX9_going_55 : decode cX9_going 55 = .ok (.iload_n 1, 1) := by decide +kernel
theorem dX9_going_56 : decode cX9_going 56 = .ok (.bipush 100, 2) := by decide +kernel
theorem dX9_going_58 : decode cX9_going 58 = .ok (.idiv, 1) := by decide +kernel
theorem dX9_going_59 : decode cX9_going 59 = .ok (.iload_n 1, 1) := by decide +kernel
theorem dX9_going_60 : decode cX9_going 60 = .ok (.bipush 100, 2) := by decide +kernel
theorem dX9_going_62 : decode cX9_going 62 = .ok (.irem, 1) := by decide +kernel
theorem dX9_going_63 : decode cX9_going 63 = .ok (.iload_n 2, 1) := by decide +kernel
theorem dX9_going_64 : decode cX9_going 64 = .ok (.invokevirtual 127, 3) := by decide +kernel
theorem dX9_going_67 : decode cX9_going 67 = .ok (.istore_n 3, 1) := by decide +kernel
theorem dX9_going_68 : decode cX9_going 68 = .ok (.iload_n 3, 1) := by decide +kernel
theorem dX9_going_69 : decode cX9_going 69 = .ok (.ifCond .ne 11, 3) := by decide +kernel
theorem dX9_going_72 : decode cX9_going 72 = .ok (.aload_n 0, 1) := by decide +kernel
theorem dX9_going_73 : decode cX9_going 73 = .ok (.getfield 10, 3) := by decide +kernel
theorem dX9_going_76 : decode cX9_going 76 = .ok (.iconst 0, 1) := by decide +kernel
theorem dX9_going_77 : decode cX9_going 77 = .ok (.invokevirtual 130, 3) := by decide +kernel
theorem dX9_going_80 : decode cX9_going 80 = .ok (.iload_n 3, 1) := by decide +kernel
theorem dX9_going_81 : decode cX9_going 81 = .ok (.ireturn, 1) := by decide +kernel
theorem dX9_goingIs_0 : decode cX9_goingIs 0 = .ok (.aload_n 0, 1) := by decide +kernel
theorem dX9_goingIs_1 : decode cX9_goingIs 1 = .ok (.iload_n 1, 1) := by decide +kernel
theorem dX9_goingIs_2 : decode cX9_goingIs 2 = .ok (.invokevirtual 134, 3) := by decide +kernel
theorem dX9_goingIs_5 : decode cX9_goingIs 5 = .ok (.ifCond .eq 13, 3) := by decide +kernel
theorem dX9_goingIs_8 : decode cX9_goingIs 8 = .ok (.iload_n 2, 1) := by decide +kernel
theorem dX9_goingIs_9 : decode cX9_goingIs 9 = .ok (.iconst 0, 1) := by decide +kernel
theorem dX9_goingIs_10 : decode cX9_goingIs 10 = .ok (.bipush 6, 2) := by decide +kernel
theorem dX9_goingIs_12 : decode cX9_goingIs 12 = .ok (.invokestatic 58, 3) := by decide +kernel
theorem dX9_goingIs_15 : decode cX9_goingIs 15 = .ok (.ifCond .ne 9, 3) := by decide +kernel
theorem dX9_goingIs_18 : decode cX9_goingIs 18 = .ok (.aload_n 0, 1) := by decide +kernel
theorem dX9_goingIs_19 : decode cX9_goingIs 19 = .ok (.iconst 1, 1) := by decide +kernel
theorem dX9_goingIs_20 : decode cX9_goingIs 20 = .ok (.invokevirtual 62, 3) := by decide +kernel
theorem dX9_goingIs_23 : decode cX9_goingIs 23 = .ok (.ireturn, 1) := by decide +kernel
theorem dX9_goingIs_24 : decode cX9_goingIs 24 = .ok (.aload_n 0, 1) := by decide +kernel
theorem dX9_goingIs_25 : decode cX9_goingIs 25 = .ok (.getfield 10, 3) := by decide +kernel
theorem dX9_goingIs_28 : decode cX9_goingIs 28 = .ok (.iload_n 1, 1) := by decide +kernel
theorem dX9_goingIs_29 : decode cX9_goingIs 29 = .ok (.invokevirtual 137, 3) := by decide +kernel
theorem dX9_goingIs_32 : decode cX9_goingIs 32 = .ok (.astore_n 3, 1) := by decide +kernel
theorem dX9_goingIs_33 : decode cX9_goingIs 33 = .ok (.iload_n 2, 1) := by decide +kernel
theorem dX9_goingIs_34 : decode cX9_goingIs 34 = .ok (.tableswitch 98 0 5 #[38, 53, 68, 83, 88, 93], 38) := by decide +kernel
theorem dX9_goingIs_72 : decode cX9_goingIs 72 = .ok (.aload_n 0, 1) := by decide +kernel
theorem dX9_goingIs_73 : decode cX9_goingIs 73 = .ok (.getfield 10, 3) := by decide +kernel
theorem dX9_goingIs_76 : decode cX9_goingIs 76 = .ok (.getfield 120, 3) := by decide +kernel
theorem dX9_goingIs_79 : decode cX9_goingIs 79 = .ok (.getfield 141, 3) := by decide +kernel
theorem dX9_goingIs_82 : decode cX9_goingIs 82 = .ok (.iload_n 1, 1) := by decide +kernel
theorem dX9_goingIs_83 : decode cX9_goingIs 83 = .ok (.invokestatic 104, 3) := by decide +kernel
theorem dX9_goingIs_86 : decode cX9_goingIs 86 = .ok (.ireturn, 1) := by decide +kernel
theorem dX9_goingIs_87 : decode cX9_goingIs 87 = .ok (.aload_n 0, 1) := by decide +kernel
theorem dX9_goingIs_88 : decode cX9_goingIs 88 = .ok (.getfield 10, 3) := by decide +kernel
theorem dX9_goingIs_91 : decode cX9_goingIs 91 = .ok (.getfield 120, 3) := by decide +kernel
theorem dX9_goingIs_94 : decode cX9_goingIs 94 = .ok (.getfield 144, 3) := by decide +kernel
theorem dX9_goingIs_97 : decode cX9_goingIs 97 = .ok (.iload_n 1, 1) := by decide +kernel
theorem dX9_goingIs_98 : decode cX9_goingIs 98 = .ok (.invokestatic 104, 3) := by decide +kernel
theorem dX9_goingIs_101 : decode cX9_goingIs 101 = .ok (.ireturn, 1) := by decide +kernel
theorem dX9_goingIs_102 : decode cX9_goingIs 102 = .ok (.aload_n 0, 1) := by decide +kernel
theorem dX9_goingIs_103 : decode cX9_goingIs 103 = .ok (.getfield 10, 3) := by decide +kernel
theorem dX9_goingIs_106 : decode cX9_goingIs 106 = .ok (.getfield 120, 3) := by decide +kernel
theorem dX9_goingIs_109 : decode cX9_goingIs 109 = .ok (.getfield 147, 3) := by decide +kernel
theorem dX9_goingIs_112 : decode cX9_goingIs 112 = .ok (.iload_n 1, 1) := by decide +kernel
theorem dX9_goingIs_113 : decode cX9_goingIs 113 = .ok (.invokestatic 104, 3) := by decide +kernel
theorem dX9_goingIs_116 : decode cX9_goingIs 116 = .ok (.ireturn, 1) := by decide +kernel
theorem dX9_goingIs_117 : decode cX9_goingIs 117 = .ok (.aload_n 3, 1) := by decide +kernel
theorem dX9_goingIs_118 : decode cX9_goingIs 118 = .ok (.getfield 150, 3) := by decide +kernel
theorem dX9_goingIs_121 : decode cX9_goingIs 121 = .ok (.ireturn, 1) := by decide +kernel
theorem dX9_goingIs_122 : decode cX9_goingIs 122 = .ok (.aload_n 3, 1) := by decide +kernel
theorem dX9_goingIs_123 : decode cX9_goingIs 123 = .ok (.getfield 155, 3) := by decide +kernel
theorem dX9_goingIs_126 : decode cX9_goingIs 126 = .ok (.ireturn, 1) := by decide +kernel
theorem dX9_goingIs_127 : decode cX9_goingIs 127 = .ok (.aload_n 3, 1) := by decide +kernel
theorem dX9_goingIs_128 : decode cX9_goingIs 128 = .ok (.getfield 158, 3) := by decide +kernel
theorem dX9_goingIs_131 : decode cX9_goingIs 131 = .ok (.ireturn, 1) := by decide +kernel
theorem dX9_goingIs_132 : decode cX9_goingIs 132 = .ok (.aload_n 3, 1) := by decide +kernel
theorem dX9_goingIs_133 : decode cX9_goingIs 133 = .ok (.getfield 161, 3) := by decide +kernel
theorem dX9_goingIs_136 : decode cX9_goingIs 136 = .ok (.ireturn, 1) := by decide +kernel
theorem dX9_as_0 : decode cX9_as 0 = .ok (.aload_n 0, 1) := by decide +kernel
theorem dX9_as_1 : decode cX9_as 1 = .ok (.iload_n 1, 1) := by decide +kernel
theorem dX9_as_2 : decode cX9_as 2 = .ok (.invokevirtual 134, 3) := by decide +kernel
theorem dX9_as_5 : decode cX9_as 5 = .ok (.ifCond .eq 13, 3) := by decide +kernel
theorem dX9_as_8 : decode cX9_as 8 = .ok (.iload_n 2, 1) := by decide +kernel
theorem dX9_as_9 : decode cX9_as 9 = .ok (.iconst 0, 1) := by decide +kernel
theorem dX9_as_10 : decode cX9_as 10 = .ok (.bipush 6, 2) := by decide +kernel
theorem dX9_as_12 : decode cX9_as 12 = .ok (.invokestatic 58, 3) := by decide +kernel
theorem dX9_as_15 : decode cX9_as 15 = .ok (.ifCond .ne 9, 3) := by decide +kernel
theorem dX9_as_18 : decode cX9_as 18 = .ok (.aload_n 0, 1) := by decide +kernel
theorem dX9_as_19 : decode cX9_as 19 = .ok (.iconst 1, 1) := by decide +kernel
theorem dX9_as_20 : decode cX9_as 20 = .ok (.invokevirtual 62, 3) := by decide +kernel
theorem dX9_as_23 : decode cX9_as 23 = .ok (.ireturn, 1) := by decide +kernel
theorem dX9_as_24 : decode cX9_as 24 = .ok (.aload_n 0, 1) := by decide +kernel
theorem dX9_as_25 : decode cX9_as 25 = .ok (.getfield 10, 3) := by decide +kernel
theorem dX9_as_28 : decode cX9_as 28 = .ok (.getfield 120, 3) := by decide +kernel
theorem dX9_as_31 : decode cX9_as 31 = .ok (.getfield 141, 3) := by decide +kernel
theorem dX9_as_34 : decode cX9_as 34 = .ok (.iload_n 1, 1) := by decide +kernel
theorem dX9_as_35 : decode cX9_as 35 = .ok (.invokestatic 104, 3) := by decide +kernel
theorem dX9_as_38 : decode cX9_as 38 = .ok (.istore_n 3, 1) := by decide +kernel
theorem dX9_as_39 : decode cX9_as 39 = .ok (.iconst 0, 1) := by decide +kernel
theorem dX9_as_40 : decode cX9_as 40 = .ok (.istore 4, 2) := by decide +kernel
theorem dX9_as_42 : decode cX9_as 42 = .ok (.iload 4, 2) := by decide +kernel
theorem dX9_as_44 : decode cX9_as 44 = .ok (.bipush 7, 2) := by decide +kernel
theorem dX9_as_46 : decode cX9_as 46 = .ok (.if_icmp .ge 41, 3) := by decide +kernel
theorem dX9_as_49 : decode cX9_as 49 = .ok (.iload_n 3, 1) := by decide +kernel
theorem dX9_as_50 : decode cX9_as 50 = .ok (.ifCond .lt 37, 3) := by decide +kernel
theorem dX9_as_53 : decode cX9_as 53 = .ok (.iload_n 3, 1) := by decide +kernel
theorem dX9_as_54 : decode cX9_as 54 = .ok (.iload_n 2, 1) := by decide +kernel
theorem dX9_as_55 : decode cX9_as 55 = .ok (.if_icmp .ne 18, 3) := by decide +kernel
theorem dX9_as_58 : decode cX9_as 58 = .ok (.aload_n 0, 1) := by decide +kernel
theorem dX9_as_59 : decode cX9_as 59 = .ok (.getfield 10, 3) := by decide +kernel
theorem dX9_as_62 : decode cX9_as 62 = .ok (.getfield 120, 3) := by decide +kernel
theorem dX9_as_65 : decode cX9_as 65 = .ok (.getfield 144, 3) := by decide +kernel
theorem dX9_as_68 : decode cX9_as 68 = .ok (.iload_n 1, 1) := by decide +kernel
theorem dX9_as_69 : decode cX9_as 69 = .ok (.invokestatic 104, 3) := by decide +kernel
theorem dX9_as_72 : decode cX9_as 72 = .ok (.ireturn, 1) := by decide +kernel
theorem dX9_as_73 : decode cX9_as 73 = .ok (.getstatic 164, 3) := by decide +kernel
theorem dX9_as_76 : decode cX9_as 76 = .ok (.iload_n 3, 1) := by decide +kernel
theorem dX9_as_77 : decode cX9_as 77 = .ok (.invokestatic 104, 3) := by decide +kernel
theorem dX9_as_80 : decode cX9_as 80 = .ok (.istore_n 3, 1) := by decide +kernel
theorem dX9_as_81 : decode cX9_as 81 = .ok (.iinc 4 1, 3) := by decide +kernel
theorem dX9_as_84 : decode cX9_as 84 = .ok (.goto (-42), 3) := by decide +kernel
theorem dX9_as_87 : decode cX9_as 87 = .ok (.aload_n 0, 1) := by decide +kernel
theorem dX9_as_88 : decode cX9_as 88 = .ok (.iconst 5, 1) := by decide +kernel
theorem dX9_as_89 : decode cX9_as 89 = .ok (.invokevirtual 62, 3) := by decide +kernel
theorem dX9_as_92 : decode cX9_as 92 = .ok (.ireturn, 1) := by decide +kernel
theorem dX9_setGoing_0 : decode cX9_setGoing 0 = .ok (.aload_n 0, 1) := by decide +kernel
theorem dX9_setGoing_1 : decode cX9_setGoing 1 = .ok (.iload_n 1, 1) := by decide +kernel
theorem dX9_setGoing_2 : decode cX9_setGoing 2 = .ok (.invokevirtual 134, 3) := by decide +kernel
theorem dX9_setGoing_5 : decode cX9_setGoing 5 = .ok (.ifCond .eq 31, 3) := by decide +kernel
theorem dX9_setGoing_8 : decode cX9_setGoing 8 = .ok (.iload_n 2, 1) := by decide +kernel
theorem dX9_setGoing_9 : decode cX9_setGoing 9 = .ok (.iconst 0, 1) := by decide +kernel
theorem dX9_setGoing_10 : decode cX9_setGoing 10 = .ok (.iconst 1, 1) := by decide +kernel
theorem dX9_setGoing_11 : decode cX9_setGoing 11 = .ok (.invokestatic 58, 3) := by decide +kernel
theorem dX9_setGoing_14 : decode cX9_setGoing 14 = .ok (.ifCond .eq 22, 3) := by decide +kernel
theorem dX9_setGoing_17 : decode cX9_setGoing 17 = .ok (.iload_n 3, 1) := by decide +kernel
theorem dX9_setGoing_18 : decode cX9_setGoing 18 = .ok (.iconst 0, 1) := by decide +kernel
theorem dX9_setGoing_19 : decode cX9_setGoing 19 = .ok (.iload_n 2, 1) := by decide +kernel
theorem dX9_setGoing_20 : decode cX9_setGoing 20 = .ok (.ifCond .ne 8, 3) := by decide +kernel
theorem dX9_setGoing_23 : decode cX9_setGoing 23 = .ok (.bipush 6, 2) := by decide +kernel
theorem dX9_setGoing_25 : decode cX9_setGoing 25 = .ok (.goto 5, 3) := by decide +kernel
theorem dX9_setGoing_28 : decode cX9_setGoing 28 = .ok (.bipush 99, 2) := by decide +kernel
theorem dX9_setGoing_30 : decode cX9_setGoing 30 = .ok (.invokestatic 58, 3) := by decide +kernel
theorem dX9_setGoing_33 : decode cX9_setGoing 33 = .ok (.ifCond .ne 9, 3) := by decide +kernel
theorem dX9_setGoing_36 : decode cX9_setGoing 36 = .ok (.aload_n 0, 1) := by decide +kernel
theorem dX9_setGoing_37 : decode cX9_setGoing 37 = .ok (.iconst 1, 1) := by decide +kernel
theorem dX9_setGoing_38 : decode cX9_setGoing 38 = .ok (.invokevirtual 62, 3) := by decide +kernel
theorem dX9_setGoing_41 : decode cX9_setGoing 41 = .ok (.ireturn, 1) := by decide +kernel
theorem dX9_setGoing_42 : decode cX9_setGoing 42 = .ok (.iload_n 2, 1) := by decide +kernel
theorem dX9_setGoing_43 : decode cX9_setGoing 43 = .ok (.ifCond .ne 16, 3) := by decide +kernel
theorem dX9_setGoing_46 : decode cX9_setGoing 46 = .ok (.aload_n 0, 1) := by decide +kernel
theorem dX9_setGoing_47 : decode cX9_setGoing 47 = .ok (.getfield 10, 3) := by decide +kernel
theorem dX9_setGoing_50 : decode cX9_setGoing 50 = .ok (.getfield 120, 3) := by decide +kernel
theorem dX9_setGoing_53 : decode cX9_setGoing 53 = .ok (.getfield 141, 3) := by decide +kernel
theorem dX9_setGoing_56 : decode cX9_setGoing 56 = .ok (.goto 13, 3) := by decide +kernel
theorem dX9_setGoing_59 : decode cX9_setGoing 59 = .ok (.aload_n 0, 1) := by decide +kernel
theorem dX9_setGoing_60 : decode cX9_setGoing 60 = .ok (.getfield 10, 3) := by decide +kernel
theorem dX9_setGoing_63 : decode cX9_setGoing 63 = .ok (.getfield 120, 3) := by decide +kernel
theorem dX9_setGoing_66 : decode cX9_setGoing 66 = .ok (.getfield 144, 3) := by decide +kernel
theorem dX9_setGoing_69 : decode cX9_setGoing 69 = .ok (.iload_n 1, 1) := by decide +kernel
theorem dX9_setGoing_70 : decode cX9_setGoing 70 = .ok (.iload_n 3, 1) := by decide +kernel
theorem dX9_setGoing_71 : decode cX9_setGoing 71 = .ok (.invokestatic 78, 3) := by decide +kernel
theorem dX9_setGoing_74 : decode cX9_setGoing 74 = .ok (.ireturn, 1) := by decide +kernel
theorem dX9_feed_0 : decode cX9_feed 0 = .ok (.iload_n 3, 1) := by decide +kernel
theorem dX9_feed_1 : decode cX9_feed 1 = .ok (.iconst 1, 1) := by decide +kernel
theorem dX9_feed_2 : decode cX9_feed 2 = .ok (.bipush 8, 2) := by decide +kernel
theorem dX9_feed_4 : decode cX9_feed 4 = .ok (.invokestatic 58, 3) := by decide +kernel
theorem dX9_feed_7 : decode cX9_feed 7 = .ok (.ifCond .ne 9, 3) := by decide +kernel
theorem dX9_feed_10 : decode cX9_feed 10 = .ok (.aload_n 0, 1) := by decide +kernel
theorem dX9_feed_11 : decode cX9_feed 11 = .ok (.iconst 1, 1) := by decide +kernel
theorem dX9_feed_12 : decode cX9_feed 12 = .ok (.invokevirtual 62, 3) := by decide +kernel
theorem dX9_feed_15 : decode cX9_feed 15 = .ok (.ireturn, 1) := by decide +kernel
theorem dX9_feed_16 : decode cX9_feed 16 = .ok (.iload_n 3, 1) := by decide +kernel
theorem dX9_feed_17 : decode cX9_feed 17 = .ok (.bipush 60, 2) := by decide +kernel
theorem dX9_feed_19 : decode cX9_feed 19 = .ok (.aload_n 0, 1) := by decide +kernel
theorem dX9_feed_20 : decode cX9_feed 20 = .ok (.getfield 10, 3) := by decide +kernel
theorem dX9_feed_23 : decode cX9_feed 23 = .ok (.getfield 167, 3) := by decide +kernel
theorem dX9_feed_26 : decode cX9_feed 26 = .ok (.isub, 1) := by decide +kernel
theorem dX9_feed_27 : decode cX9_feed 27 = .ok (.if_icmp .le 9, 3) := by decide +kernel
theorem dX9_feed_30 : decode cX9_feed 30 = .ok (.aload_n 0, 1) := by decide +kernel
theorem dX9_feed_31 : decode cX9_feed 31 = .ok (.iconst 4, 1) := by decide +kernel
theorem dX9_feed_32 : decode cX9_feed 32 = .ok (.invokevirtual 62, 3) := by decide +kernel
theorem dX9_feed_35 : decode cX9_feed 35 = .ok (.ireturn, 1) := by decide +kernel
theorem dX9_feed_36 : decode cX9_feed 36 = .ok (.iconst 0, 1) := by decide +kernel
theorem dX9_feed_37 : decode cX9_feed 37 = .ok (.istore 4, 2) := by decide +kernel
theorem dX9_feed_39 : decode cX9_feed 39 = .ok (.iload 4, 2) := by decide +kernel
theorem dX9_feed_41 : decode cX9_feed 41 = .ok (.iload_n 3, 1) := by decide +kernel
theorem dX9_feed_42 : decode cX9_feed 42 = .ok (.if_icmp .ge 52, 3) := by decide +kernel
theorem dX9_feed_45 : decode cX9_feed 45 = .ok (.aload_n 0, 1) := by decide +kernel
theorem dX9_feed_46 : decode cX9_feed 46 = .ok (.getfield 10, 3) := by decide +kernel
theorem dX9_feed_49 : decode cX9_feed 49 = .ok (.getfield 170, 3) := by decide +kernel
theorem dX9_feed_52 : decode cX9_feed 52 = .ok (.aload_n 0, 1) := by decide +kernel
theorem dX9_feed_53 : decode cX9_feed 53 = .ok (.getfield 10, 3) := by decide +kernel
theorem dX9_feed_56 : decode cX9_feed 56 = .ok (.getfield 167, 3) := by decide +kernel
theorem dX9_feed_59 : decode cX9_feed 59 = .ok (.lload_n 1, 1) := by decide +kernel
theorem dX9_feed_60 : decode cX9_feed 60 = .ok (.bipush 8, 2) := by decide +kernel
theorem dX9_feed_62 : decode cX9_feed 62 = .ok (.iload 4, 2) := by decide +kernel
theorem dX9_feed_64 : decode cX9_feed 64 = .ok (.imul, 1) := by decide +kernel
theorem dX9_feed_65 : decode cX9_feed 65 = .ok (.lushr, 1) := by decide +kernel
theorem dX9_feed_66 : decode cX9_feed 66 = .ok (.l2i, 1) := by decide +kernel
theorem dX9_feed_67 : decode cX9_feed 67 = .ok (.sipush 255, 3) := by decide +kernel
theorem dX9_feed_70 : decode cX9_feed 70 = .ok (.iand, 1) := by decide +kernel
theorem dX9_feed_71 : decode cX9_feed 71 = .ok (.invokestatic 78, 3) := by decide +kernel
theorem dX9_feed_74 : decode cX9_feed 74 = .ok (.pop, 1) := by decide +kernel
theorem dX9_feed_75 : decode cX9_feed 75 = .ok (.aload_n 0, 1) := by decide +kernel
theorem dX9_feed_76 : decode cX9_feed 76 = .ok (.getfield 10, 3) := by decide +kernel
theorem dX9_feed_79 : decode cX9_feed 79 = .ok (.dup, 1) := by decide +kernel
theorem dX9_feed_80 : decode cX9_feed 80 = .ok (.getfield 167, 3) := by decide +kernel
theorem dX9_feed_83 : decode cX9_feed 83 = .ok (.iconst 1, 1) := by decide +kernel
theorem dX9_feed_84 : decode cX9_feed 84 = .ok (.iadd, 1) := by decide +kernel
theorem dX9_feed_85 : decode cX9_feed 85 = .ok (.putfield 167, 3) := by decide +kernel
theorem dX9_feed_88 : decode cX9_feed 88 = .ok (.iinc 4 1, 3) := by decide +kernel
theorem dX9_feed_91 : decode cX9_feed 91 = .ok (.goto (-52), 3) := by decide +kernel
theorem dX9_feed_94 : decode cX9_feed 94 = .ok (.aload_n 0, 1) := by decide +kernel
theorem dX9_feed_95 : decode cX9_feed 95 = .ok (.getfield 10, 3) := by decide +kernel
theorem dX9_feed_98 : decode cX9_feed 98 = .ok (.getfield 167, 3) := by decide +kernel
theorem dX9_feed_101 : decode cX9_feed 101 = .ok (.ireturn, 1) := by decide +kernel
theorem dX9_text_0 : decode cX9_text 0 = .ok (.iload_n 1, 1) := by decide +kernel
theorem dX9_text_1 : decode cX9_text 1 = .ok (.iconst 0, 1) := by decide +kernel
theorem dX9_text_2 : decode cX9_text 2 = .ok (.iconst 1, 1) := by decide +kernel
theorem dX9_text_3 : decode cX9_text 3 = .ok (.invokestatic 58, 3) := by decide +kernel
theorem dX9_text_6 : decode cX9_text 6 = .ok (.ifCond .ne 9, 3) := by decide +kernel
theorem dX9_text_9 : decode cX9_text 9 = .ok (.aload_n 0, 1) := by decide +kernel
theorem dX9_text_10 : decode cX9_text 10 = .ok (.iconst 1, 1) := by decide +kernel
theorem dX9_text_11 : decode cX9_text 11 = .ok (.invokevirtual 62, 3) := by decide +kernel
theorem dX9_text_14 : decode cX9_text 14 = .ok (.ireturn, 1) := by decide +kernel
theorem dX9_text_15 : decode cX9_text 15 = .ok (.aload_n 0, 1) := by decide +kernel
theorem dX9_text_16 : decode cX9_text 16 = .ok (.getfield 25, 3) := by decide +kernel
theorem dX9_text_19 : decode cX9_text 19 = .ok (.aload_n 0, 1) := by decide +kernel
theorem dX9_text_20 : decode cX9_text 20 = .ok (.getfield 10, 3) := by decide +kernel
theorem dX9_text_23 : decode cX9_text 23 = .ok (.getfield 170, 3) := by decide +kernel
theorem dX9_text_26 : decode cX9_text 26 = .ok (.aload_n 0, 1) := by decide +kernel
theorem dX9_text_27 : decode cX9_text 27 = .ok (.getfield 10, 3) := by decide +kernel
theorem dX9_text_30 : decode cX9_text 30 = .ok (.getfield 167, 3) := by decide +kernel
theorem dX9_text_33 : decode cX9_text 33 = .ok (.iload_n 1, 1) := by decide +kernel
theorem dX9_text_34 : decode cX9_text 34 = .ok (.ifCond .ne 8, 3) := by decide +kernel
theorem dX9_text_37 : decode cX9_text 37 = .ok (.ldc 173, 2) := by decide +kernel
theorem dX9_text_39 : decode cX9_text 39 = .ok (.goto 5, 3) := by decide +kernel
theorem dX9_text_42 : decode cX9_text 42 = .ok (.ldc 175, 2) := by decide +kernel
theorem dX9_text_44 : decode cX9_text 44 = .ok (.invokevirtual 177, 3) := by decide +kernel
theorem dX9_text_47 : decode cX9_text 47 = .ok (.istore_n 2, 1) := by decide +kernel
theorem dX9_text_48 : decode cX9_text 48 = .ok (.aload_n 0, 1) := by decide +kernel
theorem dX9_text_49 : decode cX9_text 49 = .ok (.getfield 10, 3) := by decide +kernel
theorem dX9_text_52 : decode cX9_text 52 = .ok (.iconst 0, 1) := by decide +kernel
theorem dX9_text_53 : decode cX9_text 53 = .ok (.putfield 167, 3) := by decide +kernel
theorem dX9_text_56 : decode cX9_text 56 = .ok (.iload_n 2, 1) := by decide +kernel
theorem dX9_text_57 : decode cX9_text 57 = .ok (.ifCond .lt 8, 3) := by decide +kernel
theorem dX9_text_60 : decode cX9_text 60 = .ok (.bipush (-10), 2) := by decide +kernel
theorem dX9_text_62 : decode cX9_text 62 = .ok (.iload_n 2, 1) := by decide +kernel
theorem dX9_text_63 : decode cX9_text 63 = .ok (.isub, 1) := by decide +kernel
theorem dX9_text_64 : decode cX9_text 64 = .ok (.ireturn, 1) := by decide +kernel
theorem dX9_text_65 : decode cX9_text 65 = .ok (.aload_n 0, 1) := by decide +kernel
theorem dX9_text_66 : decode cX9_text 66 = .ok (.getfield 10, 3) := by decide +kernel
theorem dX9_text_69 : decode cX9_text 69 = .ok (.iload_n 1, 1) := by decide +kernel
theorem dX9_text_70 : decode cX9_text 70 = .ok (.invokevirtual 181, 3) := by decide +kernel
theorem dX9_text_73 : decode cX9_text 73 = .ok (.aload_n 0, 1) := by decide +kernel
theorem dX9_text_74 : decode cX9_text 74 = .ok (.getfield 25, 3) := by decide +kernel
theorem dX9_text_77 : decode cX9_text 77 = .ok (.getfield 185, 3) := by decide +kernel
theorem dX9_text_80 : decode cX9_text 80 = .ok (.invokevirtual 189, 3) := by decide +kernel
theorem dX9_text_83 : decode cX9_text 83 = .ok (.iconst 1, 1) := by decide +kernel
theorem dX9_text_84 : decode cX9_text 84 = .ok (.ireturn, 1) := by decide +kernel
theorem dX9_untell_0 : decode cX9_untell 0 = .ok (.iload_n 1, 1) := by decide +kernel
theorem dX9_untell_1 : decode cX9_untell 1 = .ok (.iconst 0, 1) := by decide +kernel
theorem dX9_untell_2 : decode cX9_untell 2 = .ok (.iconst 1, 1) := by decide +kernel
theorem dX9_untell_3 : decode cX9_untell 3 = .ok (.invokestatic 58, 3) := by decide +kernel
theorem dX9_untell_6 : decode cX9_untell 6 = .ok (.ifCond .ne 9, 3) := by decide +kernel
theorem dX9_untell_9 : decode cX9_untell 9 = .ok (.aload_n 0, 1) := by decide +kernel
theorem dX9_untell_10 : decode cX9_untell 10 = .ok (.iconst 1, 1) := by decide +kernel
theorem dX9_untell_11 : decode cX9_untell 11 = .ok (.invokevirtual 62, 3) := by decide +kernel
theorem dX9_untell_14 : decode cX9_untell 14 = .ok (.ireturn, 1) := by decide +kernel
theorem dX9_untell_15 : decode cX9_untell 15 = .ok (.aload_n 0, 1) := by decide +kernel
theorem dX9_untell_16 : decode cX9_untell 16 = .ok (.getfield 10, 3) := by decide +kernel
theorem dX9_untell_19 : decode cX9_untell 19 = .ok (.iload_n 1, 1) := by decide +kernel
theorem dX9_untell_20 : decode cX9_untell 20 = .ok (.invokevirtual 181, 3) := by decide +kernel
theorem dX9_untell_23 : decode cX9_untell 23 = .ok (.astore_n 2, 1) := by decide +kernel
theorem dX9_untell_24 : decode cX9_untell 24 = .ok (.aload_n 2, 1) := by decide +kernel
theorem dX9_untell_25 : decode cX9_untell 25 = .ok (.getfield 195, 3) := by decide +kernel
theorem dX9_untell_28 : decode cX9_untell 28 = .ok (.ifCond .le 7, 3) := by decide +kernel
theorem dX9_untell_31 : decode cX9_untell 31 = .ok (.iconst 1, 1) := by decide +kernel
theorem dX9_untell_32 : decode cX9_untell 32 = .ok (.goto 4, 3) := by decide +kernel
theorem dX9_untell_35 : decode cX9_untell 35 = .ok (.iconst 0, 1) := by decide +kernel
theorem dX9_untell_36 : decode cX9_untell 36 = .ok (.istore_n 3, 1) := by decide +kernel
theorem dX9_untell_37 : decode cX9_untell 37 = .ok (.aload_n 2, 1) := by decide +kernel
theorem dX9_untell_38 : decode cX9_untell 38 = .ok (.iconst 0, 1) := by decide +kernel
theorem dX9_untell_39 : decode cX9_untell 39 = .ok (.putfield 195, 3) := by decide +kernel
theorem dX9_untell_42 : decode cX9_untell 42 = .ok (.iload_n 3, 1) := by decide +kernel
theorem dX9_untell_43 : decode cX9_untell 43 = .ok (.ireturn, 1) := by decide +kernel
theorem dX9_tenths_0 : decode cX9_tenths 0 = .ok (.iload_n 1, 1) := by decide +kernel
theorem dX9_tenths_1 : decode cX9_tenths 1 = .ok (.iconst 1, 1) := by decide +kernel
theorem dX9_tenths_2 : decode cX9_tenths 2 = .ok (.sipush 200, 3) := by decide +kernel
theorem dX9_tenths_5 : decode cX9_tenths 5 = .ok (.invokestatic 58, 3) := by decide +kernel
theorem dX9_tenths_8 : decode cX9_tenths 8 = .ok (.ifCond .ne 9, 3) := by decide +kernel
theorem dX9_tenths_11 : decode cX9_tenths 11 = .ok (.aload_n 0, 1) := by decide +kernel
theorem dX9_tenths_12 : decode cX9_tenths 12 = .ok (.iconst 1, 1) := by decide +kernel
theorem dX9_tenths_13 : decode cX9_tenths 13 = .ok (.invokevirtual 62, 3) := by decide +kernel
theorem dX9_tenths_16 : decode cX9_tenths 16 = .ok (.ireturn, 1) := by decide +kernel
theorem dX9_tenths_17 : decode cX9_tenths 17 = .ok (.aload_n 0, 1) := by decide +kernel
theorem dX9_tenths_18 : decode cX9_tenths 18 = .ok (.getfield 10, 3) := by decide +kernel
theorem dX9_tenths_21 : decode cX9_tenths 21 = .ok (.getfield 120, 3) := by decide +kernel
theorem dX9_tenths_24 : decode cX9_tenths 24 = .ok (.getfield 124, 3) := by decide +kernel
theorem dX9_tenths_27 : decode cX9_tenths 27 = .ok (.ifCond .ne 9, 3) := by decide +kernel
theorem dX9_tenths_30 : decode cX9_tenths 30 = .ok (.aload_n 0, 1) := by decide +kernel
theorem dX9_tenths_31 : decode cX9_tenths 31 = .ok (.iconst 3, 1) := by decide +kernel
theorem dX9_tenths_32 : decode cX9_tenths 32 = .ok (.invokevirtual 62, 3) := by decide +kernel
theorem dX9_tenths_35 : decode cX9_tenths 35 = .ok (.ireturn, 1) := by decide +kernel
theorem dX9_tenths_36 : decode cX9_tenths 36 = .ok (.aload_n 0, 1) := by decide +kernel
theorem dX9_tenths_37 : decode cX9_tenths 37 = .ok (.getfield 10, 3) := by decide +kernel
theorem dX9_tenths_40 : decode cX9_tenths 40 = .ok (.iload_n 1, 1) := by decide +kernel
theorem dX9_tenths_41 : decode cX9_tenths 41 = .ok (.invokevirtual 198, 3) := by decide +kernel
theorem dX9_tenths_44 : decode cX9_tenths 44 = .ok (.aload_n 0, 1) := by decide +kernel
theorem dX9_tenths_45 : decode cX9_tenths 45 = .ok (.getfield 10, 3) := by decide +kernel
theorem dX9_tenths_48 : decode cX9_tenths 48 = .ok (.getfield 114, 3) := by decide +kernel
theorem dX9_tenths_51 : decode cX9_tenths 51 = .ok (.bipush 7, 2) := by decide +kernel
theorem dX9_tenths_53 : decode cX9_tenths 53 = .ok (.iaload, 1) := by decide +kernel
theorem dX9_tenths_54 : decode cX9_tenths 54 = .ok (.ireturn, 1) := by decide +kernel
theorem dX9_days_0 : decode cX9_days 0 = .ok (.iload_n 1, 1) := by decide +kernel
theorem dX9_days_1 : decode cX9_days 1 = .ok (.iconst 1, 1) := by decide +kernel
theorem dX9_days_2 : decode cX9_days 2 = .ok (.bipush 60, 2) := by decide +kernel
theorem dX9_days_4 : decode cX9_days 4 = .ok (.invokestatic 58, 3) := by decide +kernel
theorem dX9_days_7 : decode cX9_days 7 = .ok (.ifCond .ne 9, 3) := by decide +kernel
theorem dX9_days_10 : decode cX9_days 10 = .ok (.aload_n 0, 1) := by decide +kernel
theorem dX9_days_11 : decode cX9_days 11 = .ok (.iconst 1, 1) := by decide +kernel
theorem dX9_days_12 : decode cX9_days 12 = .ok (.invokevirtual 62, 3) := by decide +kernel
theorem dX9_days_15 : decode cX9_days 15 = .ok (.ireturn, 1) := by decide +kernel
theorem dX9_days_16 : decode cX9_days 16 = .ok (.aload_n 0, 1) := by decide +kernel
theorem dX9_days_17 : decode cX9_days 17 = .ok (.getfield 10, 3) := by decide +kernel
theorem dX9_days_20 : decode cX9_days 20 = .ok (.getfield 114, 3) := by decide +kernel
theorem dX9_days_23 : decode cX9_days 23 = .ok (.bipush 13, 2) := by decide +kernel
theorem dX9_days_25 : decode cX9_days 25 = .ok (.iaload, 1) := by decide +kernel
theorem dX9_days_26 : decode cX9_days 26 = .ok (.iload_n 1, 1) := by decide +kernel
theorem dX9_days_27 : decode cX9_days 27 = .ok (.iadd, 1) := by decide +kernel
theorem dX9_days_28 : decode cX9_days 28 = .ok (.sipush 9999, 3) := by decide +kernel
theorem dX9_days_31 : decode cX9_days 31 = .ok (.if_icmp .le 9, 3) := by decide +kernel
theorem dX9_days_34 : decode cX9_days 34 = .ok (.aload_n 0, 1) := by decide +kernel
theorem dX9_days_35 : decode cX9_days 35 = .ok (.iconst 3, 1) := by decide +kernel
theorem dX9_days_36 : decode cX9_days 36 = .ok (.invokevirtual 62, 3) := by decide +kernel
theorem dX9_days_39 : decode cX9_days 39 = .ok (.ireturn, 1) := by decide +kernel
theorem dX9_days_40 : decode cX9_days 40 = .ok (.iconst 0, 1) := by decide +kernel
theorem dX9_days_41 : decode cX9_days 41 = .ok (.istore_n 2, 1) := by decide +kernel
theorem dX9_days_42 : decode cX9_days 42 = .ok (.iload_n 2, 1) := by decide +kernel
theorem dX9_days_43 : decode cX9_days 43 = .ok (.iload_n 1, 1) := by decide +kernel
theorem dX9_days_44 : decode cX9_days 44 = .ok (.if_icmp .ge 16, 3) := by decide +kernel
theorem dX9_days_47 : decode cX9_days 47 = .ok (.aload_n 0, 1) := by decide +kernel
theorem dX9_days_48 : decode cX9_days 48 = .ok (.getfield 10, 3) := by decide +kernel
theorem dX9_days_51 : decode cX9_days 51 = .ok (.invokevirtual 201, 3) := by decide +kernel
theorem dX9_days_54 : decode cX9_days 54 = .ok (.iinc 2 1, 3) := by decide +kernel
theorem dX9_days_57 : decode cX9_days 57 = .ok (.goto (-15), 3) := by decide +kernel
theorem dX9_days_60 : decode cX9_days 60 = .ok (.aload_n 0, 1) := by decide +kernel
theorem dX9_days_61 : decode cX9_days 61 = .ok (.getfield 10, 3) := by decide +kernel
theorem dX9_days_64 : decode cX9_days 64 = .ok (.getfield 114, 3) := by decide +kernel
theorem dX9_days_67 : decode cX9_days 67 = .ok (.iconst 5, 1) := by decide +kernel
theorem dX9_days_68 : decode cX9_days 68 = .ok (.iaload, 1) := by decide +kernel
theorem dX9_days_69 : decode cX9_days 69 = .ok (.ireturn, 1) := by decide +kernel
theorem dX9_seed_0 : decode cX9_seed 0 = .ok (.aload_n 0, 1) := by decide +kernel
theorem dX9_seed_1 : decode cX9_seed 1 = .ok (.getfield 10, 3) := by decide +kernel
theorem dX9_seed_4 : decode cX9_seed 4 = .ok (.getfield 114, 3) := by decide +kernel
theorem dX9_seed_7 : decode cX9_seed 7 = .ok (.bipush 14, 2) := by decide +kernel
theorem dX9_seed_9 : decode cX9_seed 9 = .ok (.iload_n 1, 1) := by decide +kernel
theorem dX9_seed_10 : decode cX9_seed 10 = .ok (.invokestatic 78, 3) := by decide +kernel
theorem dX9_seed_13 : decode cX9_seed 13 = .ok (.ireturn, 1) := by decide +kernel
theorem dX9_then_0 : decode cX9_then 0 = .ok (.iload_n 1, 1) := by decide +kernel
theorem dX9_then_1 : decode cX9_then 1 = .ok (.iconst 0, 1) := by decide +kernel
theorem dX9_then_2 : decode cX9_then 2 = .ok (.sipush 200, 3) := by decide +kernel
theorem dX9_then_5 : decode cX9_then 5 = .ok (.invokestatic 58, 3) := by decide +kernel
theorem dX9_then_8 : decode cX9_then 8 = .ok (.ifCond .eq 13, 3) := by decide +kernel
theorem dX9_then_11 : decode cX9_then 11 = .ok (.iload_n 2, 1) := by decide +kernel
theorem dX9_then_12 : decode cX9_then 12 = .ok (.iconst 0, 1) := by decide +kernel
theorem dX9_then_13 : decode cX9_then 13 = .ok (.bipush 13, 2) := by decide +kernel
theorem dX9_then_15 : decode cX9_then 15 = .ok (.invokestatic 58, 3) := by decide +kernel
theorem dX9_then_18 : decode cX9_then 18 = .ok (.ifCond .ne 9, 3) := by decide +kernel
theorem dX9_then_21 : decode cX9_then 21 = .ok (.aload_n 0, 1) := by decide +kernel
theorem dX9_then_22 : decode cX9_then 22 = .ok (.iconst 1, 1) := by decide +kernel
theorem dX9_then_23 : decode cX9_then 23 = .ok (.invokevirtual 62, 3) := by decide +kernel
theorem dX9_then_26 : decode cX9_then 26 = .ok (.ireturn, 1) := by decide +kernel
theorem dX9_then_27 : decode cX9_then 27 = .ok (.aload_n 0, 1) := by decide +kernel
theorem dX9_then_28 : decode cX9_then 28 = .ok (.getfield 19, 3) := by decide +kernel
theorem dX9_then_31 : decode cX9_then 31 = .ok (.aload_n 0, 1) := by decide +kernel
theorem dX9_then_32 : decode cX9_then 32 = .ok (.getfield 10, 3) := by decide +kernel
theorem dX9_then_35 : decode cX9_then 35 = .ok (.invokevirtual 204, 3) := by decide +kernel
theorem dX9_then_38 : decode cX9_then 38 = .ok (.aload_n 0, 1) := by decide +kernel
theorem dX9_then_39 : decode cX9_then 39 = .ok (.getfield 19, 3) := by decide +kernel
theorem dX9_then_42 : decode cX9_then 42 = .ok (.iload_n 1, 1) := by decide +kernel
theorem dX9_then_43 : decode cX9_then 43 = .ok (.invokevirtual 198, 3) := by decide +kernel
theorem dX9_then_46 : decode cX9_then 46 = .ok (.aload_n 0, 1) := by decide +kernel
theorem dX9_then_47 : decode cX9_then 47 = .ok (.getfield 19, 3) := by decide +kernel
theorem dX9_then_50 : decode cX9_then 50 = .ok (.getfield 114, 3) := by decide +kernel
theorem dX9_then_53 : decode cX9_then 53 = .ok (.iload_n 2, 1) := by decide +kernel
theorem dX9_then_54 : decode cX9_then 54 = .ok (.invokestatic 104, 3) := by decide +kernel
theorem dX9_then_57 : decode cX9_then 57 = .ok (.ireturn, 1) := by decide +kernel
theorem dX9_ways_0 : decode cX9_ways 0 = .ok (.iload_n 1, 1) := by decide +kernel
theorem dX9_ways_1 : decode cX9_ways 1 = .ok (.iconst 1, 1) := by decide +kernel
theorem dX9_ways_2 : decode cX9_ways 2 = .ok (.bipush 8, 2) := by decide +kernel
theorem dX9_ways_4 : decode cX9_ways 4 = .ok (.invokestatic 58, 3) := by decide +kernel
theorem dX9_ways_7 : decode cX9_ways 7 = .ok (.ifCond .eq 12, 3) := by decide +kernel
theorem dX9_ways_10 : decode cX9_ways 10 = .ok (.iload_n 2, 1) := by decide +kernel
theorem dX9_ways_11 : decode cX9_ways 11 = .ok (.iconst 0, 1) := by decide +kernel
theorem dX9_ways_12 : decode cX9_ways 12 = .ok (.iconst 1, 1) := by decide +kernel
theorem dX9_ways_13 : decode cX9_ways 13 = .ok (.invokestatic 58, 3) := by decide +kernel
theorem dX9_ways_16 : decode cX9_ways 16 = .ok (.ifCond .ne 10, 3) := by decide +kernel
theorem dX9_ways_19 : decode cX9_ways 19 = .ok (.aload_n 0, 1) := by decide +kernel
theorem dX9_ways_20 : decode cX9_ways 20 = .ok (.iconst 1, 1) := by decide +kernel
theorem dX9_ways_21 : decode cX9_ways 21 = .ok (.invokevirtual 62, 3) := by decide +kernel
theorem dX9_ways_24 : decode cX9_ways 24 = .ok (.i2l, 1) := by decide +kernel
theorem dX9_ways_25 : decode cX9_ways 25 = .ok (.lreturn, 1) := by decide +kernel
theorem dX9_ways_26 : decode cX9_ways 26 = .ok (.aload_n 0, 1) := by decide +kernel
theorem dX9_ways_27 : decode cX9_ways 27 = .ok (.getfield 10, 3) := by decide +kernel
theorem dX9_ways_30 : decode cX9_ways 30 = .ok (.getfield 120, 3) := by decide +kernel
theorem dX9_ways_33 : decode cX9_ways 33 = .ok (.getfield 124, 3) := by decide +kernel
theorem dX9_ways_36 : decode cX9_ways 36 = .ok (.ifCond .ne 10, 3) := by decide +kernel
theorem dX9_ways_39 : decode cX9_ways 39 = .ok (.aload_n 0, 1) := by decide +kernel
theorem dX9_ways_40 : decode cX9_ways 40 = .ok (.iconst 3, 1) := by decide +kernel
theorem dX9_ways_41 : decode cX9_ways 41 = .ok (.invokevirtual 62, 3) := by decide +kernel
theorem dX9_ways_44 : decode cX9_ways 44 = .ok (.i2l, 1) := by decide +kernel
theorem dX9_ways_45 : decode cX9_ways 45 = .ok (.lreturn, 1) := by decide +kernel
theorem dX9_ways_46 : decode cX9_ways 46 = .ok (.aload_n 0, 1) := by decide +kernel
theorem dX9_ways_47 : decode cX9_ways 47 = .ok (.getfield 19, 3) := by decide +kernel
theorem dX9_ways_50 : decode cX9_ways 50 = .ok (.aload_n 0, 1) := by decide +kernel
theorem dX9_ways_51 : decode cX9_ways 51 = .ok (.getfield 10, 3) := by decide +kernel
theorem dX9_ways_54 : decode cX9_ways 54 = .ok (.invokevirtual 204, 3) := by decide +kernel
theorem dX9_ways_57 : decode cX9_ways 57 = .ok (.aload_n 0, 1) := by decide +kernel
theorem dX9_ways_58 : decode cX9_ways 58 = .ok (.getfield 32, 3) := by decide +kernel
theorem dX9_ways_61 : decode cX9_ways 61 = .ok (.aload_n 0, 1) := by decide +kernel
theorem dX9_ways_62 : decode cX9_ways 62 = .ok (.getfield 19, 3) := by decide +kernel
theorem dX9_ways_65 : decode cX9_ways 65 = .ok (.iload_n 1, 1) := by decide +kernel
theorem dX9_ways_66 : decode cX9_ways 66 = .ok (.invokevirtual 207, 3) := by decide +kernel
theorem dX9_ways_69 : decode cX9_ways 69 = .ok (.aload_n 0, 1) := by decide +kernel
theorem dX9_ways_70 : decode cX9_ways 70 = .ok (.getfield 32, 3) := by decide +kernel
theorem dX9_ways_73 : decode cX9_ways 73 = .ok (.iload_n 2, 1) := by decide +kernel
theorem dX9_ways_74 : decode cX9_ways 74 = .ok (.ifCond .ne 13, 3) := by decide +kernel
theorem dX9_ways_77 : decode cX9_ways 77 = .ok (.aload_n 0, 1) := by decide +kernel
theorem dX9_ways_78 : decode cX9_ways 78 = .ok (.getfield 32, 3) := by decide +kernel
theorem dX9_ways_81 : decode cX9_ways 81 = .ok (.getfield 211, 3) := by decide +kernel
theorem dX9_ways_84 : decode cX9_ways 84 = .ok (.goto 10, 3) := by decide +kernel
theorem dX9_ways_87 : decode cX9_ways 87 = .ok (.aload_n 0, 1) := by decide +kernel
theorem dX9_ways_88 : decode cX9_ways 88 = .ok (.getfield 32, 3) := by decide +kernel
theorem dX9_ways_91 : decode cX9_ways 91 = .ok (.getfield 215, 3) := by decide +kernel
theorem dX9_ways_94 : decode cX9_ways 94 = .ok (.invokevirtual 218, 3) := by decide +kernel
theorem dX9_ways_97 : decode cX9_ways 97 = .ok (.lreturn, 1) := by decide +kernel
theorem dX9_way_0 : decode cX9_way 0 = .ok (.aload_n 0, 1) := by decide +kernel
theorem dX9_way_1 : decode cX9_way 1 = .ok (.iload_n 1, 1) := by decide +kernel
theorem dX9_way_2 : decode cX9_way 2 = .ok (.invokevirtual 93, 3) := by decide +kernel
theorem dX9_way_5 : decode cX9_way 5 = .ok (.ifCond .eq 11, 3) := by decide +kernel
theorem dX9_way_8 : decode cX9_way 8 = .ok (.aload_n 0, 1) := by decide +kernel
theorem dX9_way_9 : decode cX9_way 9 = .ok (.iload_n 2, 1) := by decide +kernel
theorem dX9_way_10 : decode cX9_way 10 = .ok (.invokevirtual 93, 3) := by decide +kernel
theorem dX9_way_13 : decode cX9_way 13 = .ok (.ifCond .ne 9, 3) := by decide +kernel
theorem dX9_way_16 : decode cX9_way 16 = .ok (.aload_n 0, 1) := by decide +kernel
theorem dX9_way_17 : decode cX9_way 17 = .ok (.iconst 1, 1) := by decide +kernel
theorem dX9_way_18 : decode cX9_way 18 = .ok (.invokevirtual 62, 3) := by decide +kernel
theorem dX9_way_21 : decode cX9_way 21 = .ok (.ireturn, 1) := by decide +kernel
theorem dX9_way_22 : decode cX9_way 22 = .ok (.aload_n 0, 1) := by decide +kernel
theorem dX9_way_23 : decode cX9_way 23 = .ok (.getfield 10, 3) := by decide +kernel
theorem dX9_way_26 : decode cX9_way 26 = .ok (.getfield 66, 3) := by decide +kernel
theorem dX9_way_29 : decode cX9_way 29 = .ok (.getfield 222, 3) := by decide +kernel
theorem dX9_way_32 : decode cX9_way 32 = .ok (.iload_n 1, 1) := by decide +kernel
theorem dX9_way_33 : decode cX9_way 33 = .ok (.invokestatic 104, 3) := by decide +kernel
theorem dX9_way_36 : decode cX9_way 36 = .ok (.istore_n 3, 1) := by decide +kernel
theorem dX9_way_37 : decode cX9_way 37 = .ok (.aload_n 0, 1) := by decide +kernel
theorem dX9_way_38 : decode cX9_way 38 = .ok (.getfield 10, 3) := by decide +kernel
theorem dX9_way_41 : decode cX9_way 41 = .ok (.getfield 66, 3) := by decide +kernel
theorem dX9_way_44 : decode cX9_way 44 = .ok (.getfield 222, 3) := by decide +kernel
theorem dX9_way_47 : decode cX9_way 47 = .ok (.iload_n 2, 1) := by decide +kernel
theorem dX9_way_48 : decode cX9_way 48 = .ok (.invokestatic 104, 3) := by decide +kernel
theorem dX9_way_51 : decode cX9_way 51 = .ok (.istore 4, 2) := by decide +kernel
theorem dX9_way_53 : decode cX9_way 53 = .ok (.iload_n 3, 1) := by decide +kernel
theorem dX9_way_54 : decode cX9_way 54 = .ok (.iload 4, 2) := by decide +kernel
theorem dX9_way_56 : decode cX9_way 56 = .ok (.invokestatic 225, 3) := by decide +kernel
theorem dX9_way_59 : decode cX9_way 59 = .ok (.istore 5, 2) := by decide +kernel
theorem dX9_way_61 : decode cX9_way 61 = .ok (.iload_n 3, 1) := by decide +kernel
theorem dX9_way_62 : decode cX9_way 62 = .ok (.iload 4, 2) := by decide +kernel
theorem dX9_way_64 : decode cX9_way 64 = .ok (.invokestatic 230, 3) := by decide +kernel
theorem dX9_way_67 : decode cX9_way 67 = .ok (.istore 6, 2) := by decide +kernel
theorem dX9_way_69 : decode cX9_way 69 = .ok (.iconst 0, 1) := by decide +kernel
theorem dX9_way_70 : decode cX9_way 70 = .ok (.istore 7, 2) := by decide +kernel
theorem dX9_way_72 : decode cX9_way 72 = .ok (.iload 7, 2) := by decide +kernel
theorem dX9_way_74 : decode cX9_way 74 = .ok (.aload_n 0, 1) := by decide +kernel
theorem dX9_way_75 : decode cX9_way 75 = .ok (.getfield 10, 3) := by decide +kernel
theorem dX9_way_78 : decode cX9_way 78 = .ok (.getfield 66, 3) := by decide +kernel
theorem dX9_way_81 : decode cX9_way 81 = .ok (.getfield 86, 3) := by decide +kernel
theorem dX9_way_84 : decode cX9_way 84 = .ok (.if_icmp .ge 51, 3) := by decide +kernel
theorem dX9_way_87 : decode cX9_way 87 = .ok (.iload 6, 2) := by decide +kernel
theorem dX9_way_89 : decode cX9_way 89 = .ok (.iload 5, 2) := by decide +kernel
theorem dX9_way_91 : decode cX9_way 91 = .ok (.if_icmp .ge 44, 3) := by decide +kernel
theorem dX9_way_94 : decode cX9_way 94 = .ok (.aload_n 0, 1) := by decide +kernel
theorem dX9_way_95 : decode cX9_way 95 = .ok (.getfield 10, 3) := by decide +kernel
theorem dX9_way_98 : decode cX9_way 98 = .ok (.getfield 66, 3) := by decide +kernel
theorem dX9_way_101 : decode cX9_way 101 = .ok (.iload 6, 2) := by decide +kernel
theorem dX9_way_103 : decode cX9_way 103 = .ok (.invokevirtual 233, 3) := by decide +kernel
theorem dX9_way_106 : decode cX9_way 106 = .ok (.istore 8, 2) := by decide +kernel
theorem dX9_way_108 : decode cX9_way 108 = .ok (.aload_n 0, 1) := by decide +kernel
theorem dX9_way_109 : decode cX9_way 109 = .ok (.getfield 10, 3) := by decide +kernel
theorem dX9_way_112 : decode cX9_way 112 = .ok (.iload 8, 2) := by decide +kernel
theorem dX9_way_114 : decode cX9_way 114 = .ok (.iload 6, 2) := by decide +kernel
theorem dX9_way_116 : decode cX9_way 116 = .ok (.isub, 1) := by decide +kernel
theorem dX9_way_117 : decode cX9_way 117 = .ok (.invokevirtual 236, 3) := by decide +kernel
theorem dX9_way_120 : decode cX9_way 120 = .ok (.ifCond .ne 5, 3) := by decide +kernel
theorem dX9_way_123 : decode cX9_way 123 = .ok (.iconst 0, 1) := by decide +kernel
theorem dX9_way_124 : decode cX9_way 124 = .ok (.ireturn, 1) := by decide +kernel
theorem dX9_way_125 : decode cX9_way 125 = .ok (.iload 8, 2) := by decide +kernel
theorem dX9_way_127 : decode cX9_way 127 = .ok (.istore 6, 2) := by decide +kernel
theorem dX9_way_129 : decode cX9_way 129 = .ok (.iinc 7 1, 3) := by decide +kernel
theorem dX9_way_132 : decode cX9_way 132 = .ok (.goto (-60), 3) := by decide +kernel
theorem dX9_way_135 : decode cX9_way 135 = .ok (.iconst 1, 1) := by decide +kernel
theorem dX9_way_136 : decode cX9_way 136 = .ok (.ireturn, 1) := by decide +kernel
theorem dX9_gaps_0 : decode cX9_gaps 0 = .ok (.iload_n 1, 1) := by decide +kernel
theorem dX9_gaps_1 : decode cX9_gaps 1 = .ok (.iconst 0, 1) := by decide +kernel
theorem dX9_gaps_2 : decode cX9_gaps 2 = .ok (.iconst 2, 1) := by decide +kernel
theorem dX9_gaps_3 : decode cX9_gaps 3 = .ok (.invokestatic 58, 3) := by decide +kernel
theorem dX9_gaps_6 : decode cX9_gaps 6 = .ok (.ifCond .ne 9, 3) := by decide +kernel
theorem dX9_gaps_9 : decode cX9_gaps 9 = .ok (.aload_n 0, 1) := by decide +kernel
theorem dX9_gaps_10 : decode cX9_gaps 10 = .ok (.iconst 1, 1) := by decide +kernel
theorem dX9_gaps_11 : decode cX9_gaps 11 = .ok (.invokevirtual 62, 3) := by decide +kernel
theorem dX9_gaps_14 : decode cX9_gaps 14 = .ok (.ireturn, 1) := by decide +kernel
theorem dX9_gaps_15 : decode cX9_gaps 15 = .ok (.iconst 0, 1) := by decide +kernel
theorem dX9_gaps_16 : decode cX9_gaps 16 = .ok (.istore_n 2, 1) := by decide +kernel
theorem dX9_gaps_17 : decode cX9_gaps 17 = .ok (.iconst 0, 1) := by decide +kernel
theorem dX9_gaps_18 : decode cX9_gaps 18 = .ok (.istore_n 3, 1) := by decide +kernel
theorem dX9_gaps_19 : decode cX9_gaps 19 = .ok (.iconst 0, 1) := by decide +kernel
theorem dX9_gaps_20 : decode cX9_gaps 20 = .ok (.istore 4, 2) := by decide +kernel
theorem dX9_gaps_22 : decode cX9_gaps 22 = .ok (.aload_n 0, 1) := by decide +kernel
theorem dX9_gaps_23 : decode cX9_gaps 23 = .ok (.getfield 10, 3) := by decide +kernel
theorem dX9_gaps_26 : decode cX9_gaps 26 = .ok (.getfield 66, 3) := by decide +kernel
theorem dX9_gaps_29 : decode cX9_gaps 29 = .ok (.iconst (-1), 1) := by decide +kernel
theorem dX9_gaps_30 : decode cX9_gaps 30 = .ok (.invokevirtual 233, 3) := by decide +kernel
theorem dX9_gaps_33 : decode cX9_gaps 33 = .ok (.istore 5, 2) := by decide +kernel
theorem dX9_gaps_35 : decode cX9_gaps 35 = .ok (.aload_n 0, 1) := by decide +kernel
theorem dX9_gaps_36 : decode cX9_gaps 36 = .ok (.getfield 10, 3) := by decide +kernel
theorem dX9_gaps_39 : decode cX9_gaps 39 = .ok (.getfield 66, 3) := by decide +kernel
theorem dX9_gaps_42 : decode cX9_gaps 42 = .ok (.iload 5, 2) := by decide +kernel
theorem dX9_gaps_44 : decode cX9_gaps 44 = .ok (.invokevirtual 233, 3) := by decide +kernel
theorem dX9_gaps_47 : decode cX9_gaps 47 = .ok (.istore 6, 2) := by decide +kernel
theorem dX9_gaps_49 : decode cX9_gaps 49 = .ok (.iconst 0, 1) := by decide +kernel
theorem dX9_gaps_50 : decode cX9_gaps 50 = .ok (.istore 7, 2) := by decide +kernel
theorem dX9_gaps_52 : decode cX9_gaps 52 = .ok (.iload 7, 2) := by decide +kernel
theorem dX9_gaps_54 : decode cX9_gaps 54 = .ok (.aload_n 0, 1) := by decide +kernel
theorem dX9_gaps_55 : decode cX9_gaps 55 = .ok (.getfield 10, 3) := by decide +kernel
theorem dX9_gaps_58 : decode cX9_gaps 58 = .ok (.getfield 66, 3) := by decide +kernel
theorem dX9_gaps_61 : decode cX9_gaps 61 = .ok (.getfield 86, 3) := by decide +kernel
theorem dX9_gaps_64 : decode cX9_gaps 64 = .ok (.if_icmp .ge 70, 3) := by decide +kernel
theorem dX9_gaps_67 : decode cX9_gaps 67 = .ok (.iload 6, 2) := by decide +kernel
theorem dX9_gaps_69 : decode cX9_gaps 69 = .ok (.iload 5, 2) := by decide +kernel
theorem dX9_gaps_71 : decode cX9_gaps 71 = .ok (.if_icmp .le 63, 3) := by decide +kernel
theorem dX9_gaps_74 : decode cX9_gaps 74 = .ok (.iinc 2 1, 3) := by decide +kernel
theorem dX9_gaps_77 : decode cX9_gaps 77 = .ok (.aload_n 0, 1) := by decide +kernel
theorem dX9_gaps_78 : decode cX9_gaps 78 = .ok (.getfield 10, 3) := by decide +kernel
theorem dX9_gaps_81 : decode cX9_gaps 81 = .ok (.iload 6, 2) := by decide +kernel
theorem dX9_gaps_83 : decode cX9_gaps 83 = .ok (.iload 5, 2) := by decide +kernel
theorem dX9_gaps_85 : decode cX9_gaps 85 = .ok (.isub, 1) := by decide +kernel
theorem dX9_gaps_86 : decode cX9_gaps 86 = .ok (.invokevirtual 236, 3) := by decide +kernel
theorem dX9_gaps_89 : decode cX9_gaps 89 = .ok (.ifCond .eq 9, 3) := by decide +kernel
theorem dX9_gaps_92 : decode cX9_gaps 92 = .ok (.iinc 3 1, 3) := by decide +kernel
theorem dX9_gaps_95 : decode cX9_gaps 95 = .ok (.goto 15, 3) := by decide +kernel
theorem dX9_gaps_98 : decode cX9_gaps 98 = .ok (.iload 4, 2) := by decide +kernel
theorem dX9_gaps_100 : decode cX9_gaps 100 = .ok (.iload 6, 2) := by decide +kernel
theorem dX9_gaps_102 : decode cX9_gaps 102 = .ok (.iload 5, 2) := by decide +kernel
theorem dX9_gaps_104 : decode cX9_gaps 104 = .ok (.isub, 1) := by decide +kernel
theorem dX9_gaps_105 : decode cX9_gaps 105 = .ok (.invokestatic 225, 3) := by decide +kernel
theorem dX9_gaps_108 : decode cX9_gaps 108 = .ok (.istore 4, 2) := by decide +kernel
theorem dX9_gaps_110 : decode cX9_gaps 110 = .ok (.iload 6, 2) := by decide +kernel
theorem dX9_gaps_112 : decode cX9_gaps 112 = .ok (.istore 5, 2) := by decide +kernel
theorem dX9_gaps_114 : decode cX9_gaps 114 = .ok (.aload_n 0, 1) := by decide +kernel
theorem dX9_gaps_115 : decode cX9_gaps 115 = .ok (.getfield 10, 3) := by decide +kernel
theorem dX9_gaps_118 : decode cX9_gaps 118 = .ok (.getfield 66, 3) := by decide +kernel
theorem dX9_gaps_121 : decode cX9_gaps 121 = .ok (.iload 5, 2) := by decide +kernel
theorem dX9_gaps_123 : decode cX9_gaps 123 = .ok (.invokevirtual 233, 3) := by decide +kernel
theorem dX9_gaps_126 : decode cX9_gaps 126 = .ok (.istore 6, 2) := by decide +kernel
theorem dX9_gaps_128 : decode cX9_gaps 128 = .ok (.iinc 7 1, 3) := by decide +kernel
theorem dX9_gaps_131 : decode cX9_gaps 131 = .ok (.goto (-79), 3) := by decide +kernel
theorem dX9_gaps_134 : decode cX9_gaps 134 = .ok (.iload_n 1, 1) := by decide +kernel
theorem dX9_gaps_135 : decode cX9_gaps 135 = .ok (.ifCond .ne 7, 3) := by decide +kernel
theorem dX9_gaps_138 : decode cX9_gaps 138 = .ok (.iload_n 2, 1) := by decide +kernel
theorem dX9_gaps_139 : decode cX9_gaps 139 = .ok (.goto 14, 3) := by decide +kernel
theorem dX9_gaps_142 : decode cX9_gaps 142 = .ok (.iload_n 1, 1) := by decide +kernel
theorem dX9_gaps_143 : decode cX9_gaps 143 = .ok (.iconst 1, 1) := by decide +kernel
theorem dX9_gaps_144 : decode cX9_gaps 144 = .ok (.if_icmp .ne 7, 3) := by decide +kernel
theorem dX9_gaps_147 : decode cX9_gaps 147 = .ok (.iload_n 3, 1) := by decide +kernel
theorem dX9_gaps_148 : decode cX9_gaps 148 = .ok (.goto 5, 3) := by decide +kernel
theorem dX9_gaps_151 : decode cX9_gaps 151 = .ok (.iload 4, 2) := by decide +kernel
theorem dX9_gaps_153 : decode cX9_gaps 153 = .ok (.ireturn, 1) := by decide +kernel
theorem dX9_pad_0 : decode cX9_pad 0 = .ok (.iload_n 1, 1) := by decide +kernel
theorem dX9_pad_1 : decode cX9_pad 1 = .ok (.iconst 0, 1) := by decide +kernel
theorem dX9_pad_2 : decode cX9_pad 2 = .ok (.sipush 200, 3) := by decide +kernel
theorem dX9_pad_5 : decode cX9_pad 5 = .ok (.invokestatic 58, 3) := by decide +kernel
theorem dX9_pad_8 : decode cX9_pad 8 = .ok (.ifCond .ne 9, 3) := by decide +kernel
theorem dX9_pad_11 : decode cX9_pad 11 = .ok (.aload_n 0, 1) := by decide +kernel
theorem dX9_pad_12 : decode cX9_pad 12 = .ok (.iconst 1, 1) := by decide +kernel
theorem dX9_pad_13 : decode cX9_pad 13 = .ok (.invokevirtual 62, 3) := by decide +kernel
theorem dX9_pad_16 : decode cX9_pad 16 = .ok (.ireturn, 1) := by decide +kernel
theorem dX9_pad_17 : decode cX9_pad 17 = .ok (.aload_n 0, 1) := by decide +kernel
theorem dX9_pad_18 : decode cX9_pad 18 = .ok (.getfield 10, 3) := by decide +kernel
theorem dX9_pad_21 : decode cX9_pad 21 = .ok (.getfield 66, 3) := by decide +kernel
theorem dX9_pad_24 : decode cX9_pad 24 = .ok (.getfield 86, 3) := by decide +kernel
theorem dX9_pad_27 : decode cX9_pad 27 = .ok (.ifCond .ne 9, 3) := by decide +kernel
theorem dX9_pad_30 : decode cX9_pad 30 = .ok (.aload_n 0, 1) := by decide +kernel
theorem dX9_pad_31 : decode cX9_pad 31 = .ok (.iconst 2, 1) := by decide +kernel
theorem dX9_pad_32 : decode cX9_pad 32 = .ok (.invokevirtual 62, 3) := by decide +kernel
theorem dX9_pad_35 : decode cX9_pad 35 = .ok (.ireturn, 1) := by decide +kernel
theorem dX9_pad_36 : decode cX9_pad 36 = .ok (.iconst 0, 1) := by decide +kernel
theorem dX9_pad_37 : decode cX9_pad 37 = .ok (.istore_n 2, 1) := by decide +kernel
theorem dX9_pad_38 : decode cX9_pad 38 = .ok (.ldc 241, 2) := by decide +kernel
theorem dX9_pad_40 : decode cX9_pad 40 = .ok (.istore_n 3, 1) := by decide +kernel
theorem dX9_pad_41 : decode cX9_pad 41 = .ok (.iconst 0, 1) := by decide +kernel
theorem dX9_pad_42 : decode cX9_pad 42 = .ok (.istore 4, 2) := by decide +kernel
theorem dX9_pad_44 : decode cX9_pad 44 = .ok (.iload 4, 2) := by decide +kernel
theorem dX9_pad_46 : decode cX9_pad 46 = .ok (.aload_n 0, 1) := by decide +kernel
theorem dX9_pad_47 : decode cX9_pad 47 = .ok (.getfield 10, 3) := by decide +kernel
theorem dX9_pad_50 : decode cX9_pad 50 = .ok (.getfield 66, 3) := by decide +kernel
theorem dX9_pad_53 : decode cX9_pad 53 = .ok (.getfield 86, 3) := by decide +kernel
theorem dX9_pad_56 : decode cX9_pad 56 = .ok (.if_icmp .ge 73, 3) := by decide +kernel
theorem dX9_pad_59 : decode cX9_pad 59 = .ok (.aload_n 0, 1) := by decide +kernel
theorem dX9_pad_60 : decode cX9_pad 60 = .ok (.getfield 19, 3) := by decide +kernel
theorem dX9_pad_63 : decode cX9_pad 63 = .ok (.aload_n 0, 1) := by decide +kernel
theorem dX9_pad_64 : decode cX9_pad 64 = .ok (.getfield 10, 3) := by decide +kernel
theorem dX9_pad_67 : decode cX9_pad 67 = .ok (.invokevirtual 204, 3) := by decide +kernel
theorem dX9_pad_70 : decode cX9_pad 70 = .ok (.aload_n 0, 1) := by decide +kernel
theorem dX9_pad_71 : decode cX9_pad 71 = .ok (.getfield 19, 3) := by decide +kernel
theorem dX9_pad_74 : decode cX9_pad 74 = .ok (.getfield 66, 3) := by decide +kernel
theorem dX9_pad_77 : decode cX9_pad 77 = .ok (.getfield 242, 3) := by decide +kernel
theorem dX9_pad_80 : decode cX9_pad 80 = .ok (.iload 4, 2) := by decide +kernel
theorem dX9_pad_82 : decode cX9_pad 82 = .ok (.iconst 1, 1) := by decide +kernel
theorem dX9_pad_83 : decode cX9_pad 83 = .ok (.invokestatic 78, 3) := by decide +kernel
theorem dX9_pad_86 : decode cX9_pad 86 = .ok (.pop, 1) := by decide +kernel
theorem dX9_pad_87 : decode cX9_pad 87 = .ok (.aload_n 0, 1) := by decide +kernel
theorem dX9_pad_88 : decode cX9_pad 88 = .ok (.getfield 19, 3) := by decide +kernel
theorem dX9_pad_91 : decode cX9_pad 91 = .ok (.iload_n 1, 1) := by decide +kernel
theorem dX9_pad_92 : decode cX9_pad 92 = .ok (.invokevirtual 198, 3) := by decide +kernel
theorem dX9_pad_95 : decode cX9_pad 95 = .ok (.aload_n 0, 1) := by decide +kernel
theorem dX9_pad_96 : decode cX9_pad 96 = .ok (.getfield 19, 3) := by decide +kernel
theorem dX9_pad_99 : decode cX9_pad 99 = .ok (.getfield 114, 3) := by decide +kernel
theorem dX9_pad_102 : decode cX9_pad 102 = .ok (.bipush 9, 2) := by decide +kernel
theorem dX9_pad_104 : decode cX9_pad 104 = .ok (.iaload, 1) := by decide +kernel
theorem dX9_pad_105 : decode cX9_pad 105 = .ok (.iload_n 3, 1) := by decide +kernel
theorem dX9_pad_106 : decode cX9_pad 106 = .ok (.if_icmp .ge 17, 3) := by decide +kernel
theorem dX9_pad_109 : decode cX9_pad 109 = .ok (.aload_n 0, 1) := by decide +kernel
theorem dX9_pad_110 : decode cX9_pad 110 = .ok (.getfield 19, 3) := by decide +kernel
theorem dX9_pad_113 : decode cX9_pad 113 = .ok (.getfield 114, 3) := by decide +kernel
theorem dX9_pad_116 : decode cX9_pad 116 = .ok (.bipush 9, 2) := by decide +kernel
theorem dX9_pad_118 : decode cX9_pad 118 = .ok (.iaload, 1) := by decide +kernel
theorem dX9_pad_119 : decode cX9_pad 119 = .ok (.istore_n 3, 1) := by decide +kernel
theorem dX9_pad_120 : decode cX9_pad 120 = .ok (.iload 4, 2) := by decide +kernel
theorem dX9_pad_122 : decode cX9_pad 122 = .ok (.istore_n 2, 1) := by decide +kernel
theorem dX9_pad_123 : decode cX9_pad 123 = .ok (.iinc 4 1, 3) := by decide +kernel
theorem dX9_pad_126 : decode cX9_pad 126 = .ok (.goto (-82), 3) := by decide +kernel
theorem dX9_pad_129 : decode cX9_pad 129 = .ok (.iload_n 2, 1) := by decide +kernel
theorem dX9_pad_130 : decode cX9_pad 130 = .ok (.ireturn, 1) := by decide +kernel
theorem dX9_stand_0 : decode cX9_stand 0 = .ok (.aload_n 0, 1) := by decide +kernel
theorem dX9_stand_1 : decode cX9_stand 1 = .ok (.iload_n 1, 1) := by decide +kernel
theorem dX9_stand_2 : decode cX9_stand 2 = .ok (.invokevirtual 93, 3) := by decide +kernel
theorem dX9_stand_5 : decode cX9_stand 5 = .ok (.ifCond .eq 13, 3) := by decide +kernel
theorem dX9_stand_8 : decode cX9_stand 8 = .ok (.iload_n 2, 1) := by decide +kernel
theorem dX9_stand_9 : decode cX9_stand 9 = .ok (.iconst 0, 1) := by decide +kernel
theorem dX9_stand_10 : decode cX9_stand 10 = .ok (.bipush 60, 2) := by decide +kernel
theorem dX9_stand_12 : decode cX9_stand 12 = .ok (.invokestatic 58, 3) := by decide +kernel
theorem dX9_stand_15 : decode cX9_stand 15 = .ok (.ifCond .ne 9, 3) := by decide +kernel
theorem dX9_stand_18 : decode cX9_stand 18 = .ok (.aload_n 0, 1) := by decide +kernel
theorem dX9_stand_19 : decode cX9_stand 19 = .ok (.iconst 1, 1) := by decide +kernel
theorem dX9_stand_20 : decode cX9_stand 20 = .ok (.invokevirtual 62, 3) := by decide +kernel
theorem dX9_stand_23 : decode cX9_stand 23 = .ok (.ireturn, 1) := by decide +kernel
theorem dX9_stand_24 : decode cX9_stand 24 = .ok (.iconst 0, 1) := by decide +kernel
theorem dX9_stand_25 : decode cX9_stand 25 = .ok (.istore_n 3, 1) := by decide +kernel
theorem dX9_stand_26 : decode cX9_stand 26 = .ok (.iconst (-1), 1) := by decide +kernel
theorem dX9_stand_27 : decode cX9_stand 27 = .ok (.istore 4, 2) := by decide +kernel
theorem dX9_stand_29 : decode cX9_stand 29 = .ok (.iconst 0, 1) := by decide +kernel
theorem dX9_stand_30 : decode cX9_stand 30 = .ok (.istore 5, 2) := by decide +kernel
theorem dX9_stand_32 : decode cX9_stand 32 = .ok (.iload 5, 2) := by decide +kernel
theorem dX9_stand_34 : decode cX9_stand 34 = .ok (.bipush 100, 2) := by decide +kernel
theorem dX9_stand_36 : decode cX9_stand 36 = .ok (.if_icmp .ge 75, 3) := by decide +kernel
theorem dX9_stand_39 : decode cX9_stand 39 = .ok (.aload_n 0, 1) := by decide +kernel
theorem dX9_stand_40 : decode cX9_stand 40 = .ok (.getfield 19, 3) := by decide +kernel
theorem dX9_stand_43 : decode cX9_stand 43 = .ok (.aload_n 0, 1) := by decide +kernel
theorem dX9_stand_44 : decode cX9_stand 44 = .ok (.getfield 10, 3) := by decide +kernel
theorem dX9_stand_47 : decode cX9_stand 47 = .ok (.invokevirtual 204, 3) := by decide +kernel
theorem dX9_stand_50 : decode cX9_stand 50 = .ok (.aload_n 0, 1) := by decide +kernel
theorem dX9_stand_51 : decode cX9_stand 51 = .ok (.getfield 19, 3) := by decide +kernel
theorem dX9_stand_54 : decode cX9_stand 54 = .ok (.getfield 66, 3) := by decide +kernel
theorem dX9_stand_57 : decode cX9_stand 57 = .ok (.getfield 222, 3) := by decide +kernel
theorem dX9_stand_60 : decode cX9_stand 60 = .ok (.iload_n 1, 1) := by decide +kernel
theorem dX9_stand_61 : decode cX9_stand 61 = .ok (.iload 5, 2) := by decide +kernel
theorem dX9_stand_63 : decode cX9_stand 63 = .ok (.invokestatic 78, 3) := by decide +kernel
theorem dX9_stand_66 : decode cX9_stand 66 = .ok (.pop, 1) := by decide +kernel
theorem dX9_stand_67 : decode cX9_stand 67 = .ok (.aload_n 0, 1) := by decide +kernel
theorem dX9_stand_68 : decode cX9_stand 68 = .ok (.getfield 19, 3) := by decide +kernel
theorem dX9_stand_71 : decode cX9_stand 71 = .ok (.iload_n 2, 1) := by decide +kernel
theorem dX9_stand_72 : decode cX9_stand 72 = .ok (.invokevirtual 198, 3) := by decide +kernel
theorem dX9_stand_75 : decode cX9_stand 75 = .ok (.aload_n 0, 1) := by decide +kernel
theorem dX9_stand_76 : decode cX9_stand 76 = .ok (.getfield 19, 3) := by decide +kernel
theorem dX9_stand_79 : decode cX9_stand 79 = .ok (.getfield 114, 3) := by decide +kernel
theorem dX9_stand_82 : decode cX9_stand 82 = .ok (.bipush 10, 2) := by decide +kernel
theorem dX9_stand_84 : decode cX9_stand 84 = .ok (.iaload, 1) := by decide +kernel
theorem dX9_stand_85 : decode cX9_stand 85 = .ok (.iload 4, 2) := by decide +kernel
theorem dX9_stand_87 : decode cX9_stand 87 = .ok (.if_icmp .le 18, 3) := by decide +kernel
theorem dX9_stand_90 : decode cX9_stand 90 = .ok (.aload_n 0, 1) := by decide +kernel
theorem dX9_stand_91 : decode cX9_stand 91 = .ok (.getfield 19, 3) := by decide +kernel
theorem dX9_stand_94 : decode cX9_stand 94 = .ok (.getfield 114, 3) := by decide +kernel
theorem dX9_stand_97 : decode cX9_stand 97 = .ok (.bipush 10, 2) := by decide +kernel
theorem dX9_stand_99 : decode cX9_stand 99 = .ok (.iaload, 1) := by decide +kernel
theorem dX9_stand_100 : decode cX9_stand 100 = .ok (.istore 4, 2) := by decide +kernel
theorem dX9_stand_102 : decode cX9_stand 102 = .ok (.iload 5, 2) := by decide +kernel
theorem dX9_stand_104 : decode cX9_stand 104 = .ok (.istore_n 3, 1) := by decide +kernel
theorem dX9_stand_105 : decode cX9_stand 105 = .ok (.iinc 5 1, 3) := by decide +kernel
theorem dX9_stand_108 : decode cX9_stand 108 = .ok (.goto (-76), 3) := by decide +kernel
theorem dX9_stand_111 : decode cX9_stand 111 = .ok (.iload_n 3, 1) := by decide +kernel
theorem dX9_stand_112 : decode cX9_stand 112 = .ok (.ireturn, 1) := by decide +kernel
theorem dX9_go_0 : decode cX9_go 0 = .ok (.iload_n 1, 1) := by decide +kernel
theorem dX9_go_1 : decode cX9_go 1 = .ok (.iconst 0, 1) := by decide +kernel
theorem dX9_go_2 : decode cX9_go 2 = .ok (.sipush 200, 3) := by decide +kernel
theorem dX9_go_5 : decode cX9_go 5 = .ok (.invokestatic 58, 3) := by decide +kernel
theorem dX9_go_8 : decode cX9_go 8 = .ok (.ifCond .ne 9, 3) := by decide +kernel
theorem dX9_go_11 : decode cX9_go 11 = .ok (.aload_n 0, 1) := by decide +kernel
theorem dX9_go_12 : decode cX9_go 12 = .ok (.iconst 1, 1) := by decide +kernel
theorem dX9_go_13 : decode cX9_go 13 = .ok (.invokevirtual 62, 3) := by decide +kernel
theorem dX9_go_16 : decode cX9_go 16 = .ok (.ireturn, 1) := by decide +kernel
theorem dX9_go_17 : decode cX9_go 17 = .ok (.aload_n 0, 1) := by decide +kernel
theorem dX9_go_18 : decode cX9_go 18 = .ok (.getfield 10, 3) := by decide +kernel
theorem dX9_go_21 : decode cX9_go 21 = .ok (.getfield 120, 3) := by decide +kernel
theorem dX9_go_24 : decode cX9_go 24 = .ok (.getfield 124, 3) := by decide +kernel
theorem dX9_go_27 : decode cX9_go 27 = .ok (.ifCond .ne 9, 3) := by decide +kernel
theorem dX9_go_30 : decode cX9_go 30 = .ok (.aload_n 0, 1) := by decide +kernel
theorem dX9_go_31 : decode cX9_go 31 = .ok (.iconst 3, 1) := by decide +kernel
theorem dX9_go_32 : decode cX9_go 32 = .ok (.invokevirtual 62, 3) := by decide +kernel
theorem dX9_go_35 : decode cX9_go 35 = .ok (.ireturn, 1) := by decide +kernel
theorem dX9_go_36 : decode cX9_go 36 = .ok (.iconst 0, 1) := by decide +kernel
theorem dX9_go_37 : decode cX9_go 37 = .ok (.istore_n 2, 1) := by decide +kernel
theorem dX9_go_38 : decode cX9_go 38 = .ok (.ldc 245, 2) := by decide +kernel
theorem dX9_go_40 : decode cX9_go 40 = .ok (.istore_n 3, 1) := by decide +kernel
theorem dX9_go_41 : decode cX9_go 41 = .ok (.iconst 0, 1) := by decide +kernel
theorem dX9_go_42 : decode cX9_go 42 = .ok (.istore 4, 2) := by decide +kernel
theorem dX9_go_44 : decode cX9_go 44 = .ok (.iload 4, 2) := by decide +kernel
theorem dX9_go_46 : decode cX9_go 46 = .ok (.bipush 7, 2) := by decide +kernel
theorem dX9_go_48 : decode cX9_go 48 = .ok (.if_icmp .ge 92, 3) := by decide +kernel
theorem dX9_go_51 : decode cX9_go 51 = .ok (.aload_n 0, 1) := by decide +kernel
theorem dX9_go_52 : decode cX9_go 52 = .ok (.getfield 19, 3) := by decide +kernel
theorem dX9_go_55 : decode cX9_go 55 = .ok (.aload_n 0, 1) := by decide +kernel
theorem dX9_go_56 : decode cX9_go 56 = .ok (.getfield 10, 3) := by decide +kernel
theorem dX9_go_59 : decode cX9_go 59 = .ok (.invokevirtual 204, 3) := by decide +kernel
theorem dX9_go_62 : decode cX9_go 62 = .ok (.aload_n 0, 1) := by decide +kernel
theorem dX9_go_63 : decode cX9_go 63 = .ok (.getfield 19, 3) := by decide +kernel
theorem dX9_go_66 : decode cX9_go 66 = .ok (.getfield 120, 3) := by decide +kernel
theorem dX9_go_69 : decode cX9_go 69 = .ok (.getfield 141, 3) := by decide +kernel
theorem dX9_go_72 : decode cX9_go 72 = .ok (.aload_n 0, 1) := by decide +kernel
theorem dX9_go_73 : decode cX9_go 73 = .ok (.getfield 10, 3) := by decide +kernel
theorem dX9_go_76 : decode cX9_go 76 = .ok (.getfield 114, 3) := by decide +kernel
theorem dX9_go_79 : decode cX9_go 79 = .ok (.bipush 11, 2) := by decide +kernel
theorem dX9_go_81 : decode cX9_go 81 = .ok (.iaload, 1) := by decide +kernel
theorem dX9_go_82 : decode cX9_go 82 = .ok (.iload 4, 2) := by decide +kernel
theorem dX9_go_84 : decode cX9_go 84 = .ok (.invokestatic 78, 3) := by decide +kernel
theorem dX9_go_87 : decode cX9_go 87 = .ok (.pop, 1) := by decide +kernel
theorem dX9_go_88 : decode cX9_go 88 = .ok (.aload_n 0, 1) := by decide +kernel
theorem dX9_go_89 : decode cX9_go 89 = .ok (.getfield 19, 3) := by decide +kernel
theorem dX9_go_92 : decode cX9_go 92 = .ok (.iload_n 1, 1) := by decide +kernel
theorem dX9_go_93 : decode cX9_go 93 = .ok (.invokevirtual 198, 3) := by decide +kernel
theorem dX9_go_96 : decode cX9_go 96 = .ok (.aload_n 0, 1) := by decide +kernel
theorem dX9_go_97 : decode cX9_go 97 = .ok (.getfield 19, 3) := by decide +kernel
theorem dX9_go_100 : decode cX9_go 100 = .ok (.getfield 114, 3) := by decide +kernel
theorem dX9_go_103 : decode cX9_go 103 = .ok (.bipush 10, 2) := by decide +kernel
theorem dX9_go_105 : decode cX9_go 105 = .ok (.iaload, 1) := by decide +kernel
theorem dX9_go_106 : decode cX9_go 106 = .ok (.bipush 10, 2) := by decide +kernel
theorem dX9_go_108 : decode cX9_go 108 = .ok (.aload_n 0, 1) := by decide +kernel
theorem dX9_go_109 : decode cX9_go 109 = .ok (.getfield 19, 3) := by decide +kernel
theorem dX9_go_112 : decode cX9_go 112 = .ok (.getfield 114, 3) := by decide +kernel
theorem dX9_go_115 : decode cX9_go 115 = .ok (.bipush 7, 2) := by decide +kernel
theorem dX9_go_117 : decode cX9_go 117 = .ok (.iaload, 1) := by decide +kernel
theorem dX9_go_118 : decode cX9_go 118 = .ok (.imul, 1) := by decide +kernel
theorem dX9_go_119 : decode cX9_go 119 = .ok (.isub, 1) := by decide +kernel
theorem dX9_go_120 : decode cX9_go 120 = .ok (.istore 5, 2) := by decide +kernel
theorem dX9_go_122 : decode cX9_go 122 = .ok (.iload 5, 2) := by decide +kernel
theorem dX9_go_124 : decode cX9_go 124 = .ok (.iload_n 3, 1) := by decide +kernel
theorem dX9_go_125 : decode cX9_go 125 = .ok (.if_icmp .le 9, 3) := by decide +kernel
theorem dX9_go_128 : decode cX9_go 128 = .ok (.iload 5, 2) := by decide +kernel
theorem dX9_go_130 : decode cX9_go 130 = .ok (.istore_n 3, 1) := by decide +kernel
theorem dX9_go_131 : decode cX9_go 131 = .ok (.iload 4, 2) := by decide +kernel
theorem dX9_go_133 : decode cX9_go 133 = .ok (.istore_n 2, 1) := by decide +kernel
theorem dX9_go_134 : decode cX9_go 134 = .ok (.iinc 4 1, 3) := by decide +kernel
theorem dX9_go_137 : decode cX9_go 137 = .ok (.goto (-93), 3) := by decide +kernel
theorem dX9_go_140 : decode cX9_go 140 = .ok (.iload_n 2, 1) := by decide +kernel
theorem dX9_go_141 : decode cX9_go 141 = .ok (.ireturn, 1) := by decide +kernel
theorem dX9_voice_0 : decode cX9_voice 0 = .ok (.aload_n 0, 1) := by decide +kernel
theorem dX9_voice_1 : decode cX9_voice 1 = .ok (.iload_n 1, 1) := by decide +kernel
theorem dX9_voice_2 : decode cX9_voice 2 = .ok (.invokevirtual 134, 3) := by decide +kernel
theorem dX9_voice_5 : decode cX9_voice 5 = .ok (.ifCond .eq 12, 3) := by decide +kernel
theorem dX9_voice_8 : decode cX9_voice 8 = .ok (.iload_n 2, 1) := by decide +kernel
theorem dX9_voice_9 : decode cX9_voice 9 = .ok (.iconst 0, 1) := by decide +kernel
theorem dX9_voice_10 : decode cX9_voice 10 = .ok (.iconst 3, 1) := by decide +kernel
theorem dX9_voice_11 : decode cX9_voice 11 = .ok (.invokestatic 58, 3) := by decide +kernel
theorem dX9_voice_14 : decode cX9_voice 14 = .ok (.ifCond .ne 9, 3) := by decide +kernel
theorem dX9_voice_17 : decode cX9_voice 17 = .ok (.aload_n 0, 1) := by decide +kernel
theorem dX9_voice_18 : decode cX9_voice 18 = .ok (.iconst 1, 1) := by decide +kernel
theorem dX9_voice_19 : decode cX9_voice 19 = .ok (.invokevirtual 62, 3) := by decide +kernel
theorem dX9_voice_22 : decode cX9_voice 22 = .ok (.ireturn, 1) := by decide +kernel
theorem dX9_voice_23 : decode cX9_voice 23 = .ok (.aload_n 0, 1) := by decide +kernel
theorem dX9_voice_24 : decode cX9_voice 24 = .ok (.getfield 49, 3) := by decide +kernel
theorem dX9_voice_27 : decode cX9_voice 27 = .ok (.aload_n 0, 1) := by decide +kernel
theorem dX9_voice_28 : decode cX9_voice 28 = .ok (.getfield 10, 3) := by decide +kernel
theorem dX9_voice_31 : decode cX9_voice 31 = .ok (.getfield 120, 3) := by decide +kernel
theorem dX9_voice_34 : decode cX9_voice 34 = .ok (.iload_n 1, 1) := by decide +kernel
theorem dX9_voice_35 : decode cX9_voice 35 = .ok (.iload_n 2, 1) := by decide +kernel
theorem dX9_voice_36 : decode cX9_voice 36 = .ok (.iload_n 3, 1) := by decide +kernel
theorem dX9_voice_37 : decode cX9_voice 37 = .ok (.invokevirtual 246, 3) := by decide +kernel
theorem dX9_voice_40 : decode cX9_voice 40 = .ok (.istore 4, 2) := by decide +kernel
theorem dX9_voice_42 : decode cX9_voice 42 = .ok (.aload_n 0, 1) := by decide +kernel
theorem dX9_voice_43 : decode cX9_voice 43 = .ok (.getfield 49, 3) := by decide +kernel
theorem dX9_voice_46 : decode cX9_voice 46 = .ok (.getfield 250, 3) := by decide +kernel
theorem dX9_voice_49 : decode cX9_voice 49 = .ok (.ifCond .eq 12, 3) := by decide +kernel
theorem dX9_voice_52 : decode cX9_voice 52 = .ok (.aload_n 0, 1) := by decide +kernel
theorem dX9_voice_53 : decode cX9_voice 53 = .ok (.bipush 6, 2) := by decide +kernel
theorem dX9_voice_55 : decode cX9_voice 55 = .ok (.invokevirtual 62, 3) := by decide +kernel
theorem dX9_voice_58 : decode cX9_voice 58 = .ok (.goto 5, 3) := by decide +kernel
theorem dX9_voice_61 : decode cX9_voice 61 = .ok (.iload 4, 2) := by decide +kernel
theorem dX9_voice_63 : decode cX9_voice 63 = .ok (.ireturn, 1) := by decide +kernel
theorem dX9_body_0 : decode cX9_body 0 = .ok (.iload_n 1, 1) := by decide +kernel
theorem dX9_body_1 : decode cX9_body 1 = .ok (.iconst 0, 1) := by decide +kernel
theorem dX9_body_2 : decode cX9_body 2 = .ok (.aload_n 0, 1) := by decide +kernel
theorem dX9_body_3 : decode cX9_body 3 = .ok (.getfield 49, 3) := by decide +kernel
theorem dX9_body_6 : decode cX9_body 6 = .ok (.getfield 254, 3) := by decide +kernel
theorem dX9_body_9 : decode cX9_body 9 = .ok (.iconst 1, 1) := by decide +kernel
theorem dX9_body_10 : decode cX9_body 10 = .ok (.isub, 1) := by decide +kernel
theorem dX9_body_11 : decode cX9_body 11 = .ok (.invokestatic 58, 3) := by decide +kernel
theorem dX9_body_14 : decode cX9_body 14 = .ok (.ifCond .eq 17, 3) := by decide +kernel
theorem dX9_body_17 : decode cX9_body 17 = .ok (.aload_n 0, 1) := by decide +kernel
theorem dX9_body_18 : decode cX9_body 18 = .ok (.getfield 49, 3) := by decide +kernel
theorem dX9_body_21 : decode cX9_body 21 = .ok (.getfield 255, 3) := by decide +kernel
theorem dX9_body_24 : decode cX9_body 24 = .ok (.iload_n 1, 1) := by decide +kernel
theorem dX9_body_25 : decode cX9_body 25 = .ok (.invokestatic 104, 3) := by decide +kernel
theorem dX9_body_28 : decode cX9_body 28 = .ok (.goto 8, 3) := by decide +kernel
theorem dX9_body_31 : decode cX9_body 31 = .ok (.aload_n 0, 1) := by decide +kernel
theorem dX9_body_32 : decode cX9_body 32 = .ok (.iconst 2, 1) := by decide +kernel
theorem dX9_body_33 : decode cX9_body 33 = .ok (.invokevirtual 62, 3) := by decide +kernel
theorem dX9_body_36 : decode cX9_body 36 = .ok (.ireturn, 1) := by decide +kernel
theorem dX9_sheet_0 : decode cX9_sheet 0 = .ok (.aload_n 0, 1) := by decide +kernel
theorem dX9_sheet_1 : decode cX9_sheet 1 = .ok (.iload_n 1, 1) := by decide +kernel
theorem dX9_sheet_2 : decode cX9_sheet 2 = .ok (.invokevirtual 258, 3) := by decide +kernel
theorem dX9_sheet_5 : decode cX9_sheet 5 = .ok (.astore 4, 2) := by decide +kernel
theorem dX9_sheet_7 : decode cX9_sheet 7 = .ok (.aload 4, 2) := by decide +kernel
theorem dX9_sheet_9 : decode cX9_sheet 9 = .ok (.ifnull 25, 3) := by decide +kernel
theorem dX9_sheet_12 : decode cX9_sheet 12 = .ok (.iload_n 2, 1) := by decide +kernel
theorem dX9_sheet_13 : decode cX9_sheet 13 = .ok (.ifCond .eq 27, 3) := by decide +kernel
theorem dX9_sheet_16 : decode cX9_sheet 16 = .ok (.iload_n 2, 1) := by decide +kernel
theorem dX9_sheet_17 : decode cX9_sheet 17 = .ok (.bipush 8, 2) := by decide +kernel
theorem dX9_sheet_19 : decode cX9_sheet 19 = .ok (.if_icmp .eq 21, 3) := by decide +kernel
theorem dX9_sheet_22 : decode cX9_sheet 22 = .ok (.iload_n 2, 1) := by decide +kernel
theorem dX9_sheet_23 : decode cX9_sheet 23 = .ok (.bipush 16, 2) := by decide +kernel
theorem dX9_sheet_25 : decode cX9_sheet 25 = .ok (.if_icmp .eq 15, 3) := by decide +kernel
theorem dX9_sheet_28 : decode cX9_sheet 28 = .ok (.iload_n 2, 1) := by decide +kernel
theorem dX9_sheet_29 : decode cX9_sheet 29 = .ok (.bipush 32, 2) := by decide +kernel
theorem dX9_sheet_31 : decode cX9_sheet 31 = .ok (.if_icmp .eq 9, 3) := by decide +kernel
theorem dX9_sheet_34 : decode cX9_sheet 34 = .ok (.aload_n 0, 1) := by decide +kernel
theorem dX9_sheet_35 : decode cX9_sheet 35 = .ok (.iconst 1, 1) := by decide +kernel
theorem dX9_sheet_36 : decode cX9_sheet 36 = .ok (.invokevirtual 62, 3) := by decide +kernel
theorem dX9_sheet_39 : decode cX9_sheet 39 = .ok (.ireturn, 1) := by decide +kernel
theorem dX9_sheet_40 : decode cX9_sheet 40 = .ok (.iload_n 2, 1) := by decide +kernel
theorem dX9_sheet_41 : decode cX9_sheet 41 = .ok (.ifCond .eq 13, 3) := by decide +kernel
theorem dX9_sheet_44 : decode cX9_sheet 44 = .ok (.iload_n 3, 1) := by decide +kernel
theorem dX9_sheet_45 : decode cX9_sheet 45 = .ok (.ifCond .ge 9, 3) := by decide +kernel
theorem dX9_sheet_48 : decode cX9_sheet 48 = .ok (.aload_n 0, 1) := by decide +kernel
theorem dX9_sheet_49 : decode cX9_sheet 49 = .ok (.iconst 3, 1) := by decide +kernel
theorem dX9_sheet_50 : decode cX9_sheet 50 = .ok (.invokevirtual 62, 3) := by decide +kernel
theorem dX9_sheet_53 : decode cX9_sheet 53 = .ok (.ireturn, 1) := by decide +kernel
theorem dX9_sheet_54 : decode cX9_sheet 54 = .ok (.iload_n 2, 1) := by decide +kernel
theorem dX9_sheet_55 : decode cX9_sheet 55 = .ok (.ifCond .eq 15, 3) := by decide +kernel
theorem dX9_sheet_58 : decode cX9_sheet 58 = .ok (.iload_n 3, 1) := by decide +kernel
theorem dX9_sheet_59 : decode cX9_sheet 59 = .ok (.bipush 24, 2) := by decide +kernel
theorem dX9_sheet_61 : decode cX9_sheet 61 = .ok (.if_icmp .le 9, 3) := by decide +kernel
theorem dX9_sheet_64 : decode cX9_sheet 64 = .ok (.aload_n 0, 1) := by decide +kernel
theorem dX9_sheet_65 : decode cX9_sheet 65 = .ok (.iconst 1, 1) := by decide +kernel
theorem dX9_sheet_66 : decode cX9_sheet 66 = .ok (.invokevirtual 62, 3) := by decide +kernel
theorem dX9_sheet_69 : decode cX9_sheet 69 = .ok (.ireturn, 1) := by decide +kernel
theorem dX9_sheet_70 : decode cX9_sheet 70 = .ok (.aload 4, 2) := by decide +kernel
theorem dX9_sheet_72 : decode cX9_sheet 72 = .ok (.iload_n 2, 1) := by decide +kernel
theorem dX9_sheet_73 : decode cX9_sheet 73 = .ok (.iload_n 3, 1) := by decide +kernel
theorem dX9_sheet_74 : decode cX9_sheet 74 = .ok (.invokevirtual 262, 3) := by decide +kernel
theorem dX9_sheet_77 : decode cX9_sheet 77 = .ok (.iconst 1, 1) := by decide +kernel
theorem dX9_sheet_78 : decode cX9_sheet 78 = .ok (.ireturn, 1) := by decide +kernel
theorem dX9_put_0 : decode cX9_put 0 = .ok (.aload_n 0, 1) := by decide +kernel
theorem dX9_put_1 : decode cX9_put 1 = .ok (.iload_n 1, 1) := by decide +kernel
theorem dX9_put_2 : decode cX9_put 2 = .ok (.invokevirtual 258, 3) := by decide +kernel
theorem dX9_put_5 : decode cX9_put 5 = .ok (.astore 4, 2) := by decide +kernel
theorem dX9_put_7 : decode cX9_put 7 = .ok (.aload 4, 2) := by decide +kernel
theorem dX9_put_9 : decode cX9_put 9 = .ok (.ifnonnull 9, 3) := by decide +kernel
theorem dX9_put_12 : decode cX9_put 12 = .ok (.aload_n 0, 1) := by decide +kernel
theorem dX9_put_13 : decode cX9_put 13 = .ok (.iconst 1, 1) := by decide +kernel
theorem dX9_put_14 : decode cX9_put 14 = .ok (.invokevirtual 62, 3) := by decide +kernel
theorem dX9_put_17 : decode cX9_put 17 = .ok (.ireturn, 1) := by decide +kernel
theorem dX9_put_18 : decode cX9_put 18 = .ok (.aload 4, 2) := by decide +kernel
theorem dX9_put_20 : decode cX9_put 20 = .ok (.getfield 266, 3) := by decide +kernel
theorem dX9_put_23 : decode cX9_put 23 = .ok (.ifCond .ne 9, 3) := by decide +kernel
theorem dX9_put_26 : decode cX9_put 26 = .ok (.aload_n 0, 1) := by decide +kernel
theorem dX9_put_27 : decode cX9_put 27 = .ok (.iconst 2, 1) := by decide +kernel
theorem dX9_put_28 : decode cX9_put 28 = .ok (.invokevirtual 62, 3) := by decide +kernel
theorem dX9_put_31 : decode cX9_put 31 = .ok (.ireturn, 1) := by decide +kernel
theorem dX9_put_32 : decode cX9_put 32 = .ok (.iload_n 2, 1) := by decide +kernel
theorem dX9_put_33 : decode cX9_put 33 = .ok (.iconst 0, 1) := by decide +kernel
theorem dX9_put_34 : decode cX9_put 34 = .ok (.aload 4, 2) := by decide +kernel
theorem dX9_put_36 : decode cX9_put 36 = .ok (.getfield 269, 3) := by decide +kernel
theorem dX9_put_39 : decode cX9_put 39 = .ok (.iconst 1, 1) := by decide +kernel
theorem dX9_put_40 : decode cX9_put 40 = .ok (.isub, 1) := by decide +kernel
theorem dX9_put_41 : decode cX9_put 41 = .ok (.invokestatic 58, 3) := by decide +kernel
theorem dX9_put_44 : decode cX9_put 44 = .ok (.ifCond .ne 9, 3) := by decide +kernel
theorem dX9_put_47 : decode cX9_put 47 = .ok (.aload_n 0, 1) := by decide +kernel
theorem dX9_put_48 : decode cX9_put 48 = .ok (.iconst 1, 1) := by decide +kernel
theorem dX9_put_49 : decode cX9_put 49 = .ok (.invokevirtual 62, 3) := by decide +kernel
theorem dX9_put_52 : decode cX9_put 52 = .ok (.ireturn, 1) := by decide +kernel
theorem dX9_put_53 : decode cX9_put 53 = .ok (.aload 4, 2) := by decide +kernel
theorem dX9_put_55 : decode cX9_put 55 = .ok (.getfield 270, 3) := by decide +kernel
theorem dX9_put_58 : decode cX9_put 58 = .ok (.iload_n 2, 1) := by decide +kernel
theorem dX9_put_59 : decode cX9_put 59 = .ok (.aload 4, 2) := by decide +kernel
theorem dX9_put_61 : decode cX9_put 61 = .ok (.iload_n 3, 1) := by decide +kernel
theorem dX9_put_62 : decode cX9_put 62 = .ok (.invokevirtual 271, 3) := by decide +kernel
theorem dX9_put_65 : decode cX9_put 65 = .ok (.invokestatic 78, 3) := by decide +kernel
theorem dX9_put_68 : decode cX9_put 68 = .ok (.pop, 1) := by decide +kernel
theorem dX9_put_69 : decode cX9_put 69 = .ok (.iconst 1, 1) := by decide +kernel
theorem dX9_put_70 : decode cX9_put 70 = .ok (.ireturn, 1) := by decide +kernel
theorem dX9_move_0 : decode cX9_move 0 = .ok (.aload_n 0, 1) := by decide +kernel
theorem dX9_move_1 : decode cX9_move 1 = .ok (.iload_n 1, 1) := by decide +kernel
theorem dX9_move_2 : decode cX9_move 2 = .ok (.invokevirtual 258, 3) := by decide +kernel
theorem dX9_move_5 : decode cX9_move 5 = .ok (.astore 6, 2) := by decide +kernel
theorem dX9_move_7 : decode cX9_move 7 = .ok (.aload_n 0, 1) := by decide +kernel
theorem dX9_move_8 : decode cX9_move 8 = .ok (.iload_n 3, 1) := by decide +kernel
theorem dX9_move_9 : decode cX9_move 9 = .ok (.invokevirtual 258, 3) := by decide +kernel
theorem dX9_move_12 : decode cX9_move 12 = .ok (.astore 7, 2) := by decide +kernel
theorem dX9_move_14 : decode cX9_move 14 = .ok (.aload 6, 2) := by decide +kernel
theorem dX9_move_16 : decode cX9_move 16 = .ok (.ifnull 8, 3) := by decide +kernel
theorem dX9_move_19 : decode cX9_move 19 = .ok (.aload 7, 2) := by decide +kernel
theorem dX9_move_21 : decode cX9_move 21 = .ok (.ifnonnull 9, 3) := by decide +kernel
theorem dX9_move_24 : decode cX9_move 24 = .ok (.aload_n 0, 1) := by decide +kernel
theorem dX9_move_25 : decode cX9_move 25 = .ok (.iconst 1, 1) := by decide +kernel
theorem dX9_move_26 : decode cX9_move 26 = .ok (.invokevirtual 62, 3) := by decide +kernel
theorem dX9_move_29 : decode cX9_move 29 = .ok (.ireturn, 1) := by decide +kernel
theorem dX9_move_30 : decode cX9_move 30 = .ok (.aload 6, 2) := by decide +kernel
theorem dX9_move_32 : decode cX9_move 32 = .ok (.getfield 266, 3) := by decide +kernel
theorem dX9_move_35 : decode cX9_move 35 = .ok (.ifCond .eq 11, 3) := by decide +kernel
theorem dX9_move_38 : decode cX9_move 38 = .ok (.aload 7, 2) := by decide +kernel
theorem dX9_move_40 : decode cX9_move 40 = .ok (.getfield 266, 3) := by decide +kernel
theorem dX9_move_43 : decode cX9_move 43 = .ok (.ifCond .ne 9, 3) := by decide +kernel
theorem dX9_move_46 : decode cX9_move 46 = .ok (.aload_n 0, 1) := by decide +kernel
theorem dX9_move_47 : decode cX9_move 47 = .ok (.iconst 2, 1) := by decide +kernel
theorem dX9_move_48 : decode cX9_move 48 = .ok (.invokevirtual 62, 3) := by decide +kernel
theorem dX9_move_51 : decode cX9_move 51 = .ok (.ireturn, 1) := by decide +kernel
theorem dX9_move_52 : decode cX9_move 52 = .ok (.aload 6, 2) := by decide +kernel
theorem dX9_move_54 : decode cX9_move 54 = .ok (.getfield 266, 3) := by decide +kernel
theorem dX9_move_57 : decode cX9_move 57 = .ok (.aload 7, 2) := by decide +kernel
theorem dX9_move_59 : decode cX9_move 59 = .ok (.getfield 266, 3) := by decide +kernel
theorem dX9_move_62 : decode cX9_move 62 = .ok (.if_icmp .eq 9, 3) := by decide +kernel
theorem dX9_move_65 : decode cX9_move 65 = .ok (.aload_n 0, 1) := by decide +kernel
theorem dX9_move_66 : decode cX9_move 66 = .ok (.iconst 5, 1) := by decide +kernel
theorem dX9_move_67 : decode cX9_move 67 = .ok (.invokevirtual 62, 3) := by decide +kernel
theorem dX9_move_70 : decode cX9_move 70 = .ok (.ireturn, 1) := by decide +kernel
theorem dX9_move_71 : decode cX9_move 71 = .ok (.aload 6, 2) := by decide +kernel
theorem dX9_move_73 : decode cX9_move 73 = .ok (.iload_n 2, 1) := by decide +kernel
theorem dX9_move_74 : decode cX9_move 74 = .ok (.iload 5, 2) := by decide +kernel
theorem dX9_move_76 : decode cX9_move 76 = .ok (.invokevirtual 274, 3) := by decide +kernel
theorem dX9_move_79 : decode cX9_move 79 = .ok (.ifCond .eq 15, 3) := by decide +kernel
theorem dX9_move_82 : decode cX9_move 82 = .ok (.aload 7, 2) := by decide +kernel
theorem dX9_move_84 : decode cX9_move 84 = .ok (.iload 4, 2) := by decide +kernel
theorem dX9_move_86 : decode cX9_move 86 = .ok (.iload 5, 2) := by decide +kernel
theorem dX9_move_88 : decode cX9_move 88 = .ok (.invokevirtual 274, 3) := by decide +kernel
theorem dX9_move_91 : decode cX9_move 91 = .ok (.ifCond .ne 9, 3) := by decide +kernel
theorem dX9_move_94 : decode cX9_move 94 = .ok (.aload_n 0, 1) := by decide +kernel
theorem dX9_move_95 : decode cX9_move 95 = .ok (.iconst 1, 1) := by decide +kernel
theorem dX9_move_96 : decode cX9_move 96 = .ok (.invokevirtual 62, 3) := by decide +kernel
theorem dX9_move_99 : decode cX9_move 99 = .ok (.ireturn, 1) := by decide +kernel
theorem dX9_move_100 : decode cX9_move 100 = .ok (.aload 6, 2) := by decide +kernel
theorem dX9_move_102 : decode cX9_move 102 = .ok (.getfield 270, 3) := by decide +kernel
theorem dX9_move_105 : decode cX9_move 105 = .ok (.iload_n 2, 1) := by decide +kernel
theorem dX9_move_106 : decode cX9_move 106 = .ok (.aload 7, 2) := by decide +kernel
theorem dX9_move_108 : decode cX9_move 108 = .ok (.getfield 270, 3) := by decide +kernel
theorem dX9_move_111 : decode cX9_move 111 = .ok (.iload 4, 2) := by decide +kernel
theorem dX9_move_113 : decode cX9_move 113 = .ok (.iload 5, 2) := by decide +kernel
theorem dX9_move_115 : decode cX9_move 115 = .ok (.invokestatic 277, 3) := by decide +kernel
theorem dX9_move_118 : decode cX9_move 118 = .ok (.iload 5, 2) := by decide +kernel
theorem dX9_move_120 : decode cX9_move 120 = .ok (.ireturn, 1) := by decide +kernel
theorem dX9_holds_0 : decode cX9_holds 0 = .ok (.aload_n 0, 1) := by decide +kernel
theorem dX9_holds_1 : decode cX9_holds 1 = .ok (.iload_n 1, 1) := by decide +kernel
theorem dX9_holds_2 : decode cX9_holds 2 = .ok (.invokevirtual 258, 3) := by decide +kernel
theorem dX9_holds_5 : decode cX9_holds 5 = .ok (.astore_n 2, 1) := by decide +kernel
theorem dX9_holds_6 : decode cX9_holds 6 = .ok (.aload_n 2, 1) := by decide +kernel
theorem dX9_holds_7 : decode cX9_holds 7 = .ok (.ifnonnull 9, 3) := by decide +kernel
theorem dX9_holds_10 : decode cX9_holds 10 = .ok (.aload_n 0, 1) := by decide +kernel
theorem dX9_holds_11 : decode cX9_holds 11 = .ok (.iconst 1, 1) := by decide +kernel
theorem dX9_holds_12 : decode cX9_holds 12 = .ok (.invokevirtual 62, 3) := by decide +kernel
theorem dX9_holds_15 : decode cX9_holds 15 = .ok (.ireturn, 1) := by decide +kernel
theorem dX9_holds_16 : decode cX9_holds 16 = .ok (.aload_n 2, 1) := by decide +kernel
theorem dX9_holds_17 : decode cX9_holds 17 = .ok (.getfield 266, 3) := by decide +kernel
theorem dX9_holds_20 : decode cX9_holds 20 = .ok (.ifCond .ne 9, 3) := by decide +kernel
theorem dX9_holds_23 : decode cX9_holds 23 = .ok (.aload_n 0, 1) := by decide +kernel
theorem dX9_holds_24 : decode cX9_holds 24 = .ok (.iconst 2, 1) := by decide +kernel
theorem dX9_holds_25 : decode cX9_holds 25 = .ok (.invokevirtual 62, 3) := by decide +kernel
theorem dX9_holds_28 : decode cX9_holds 28 = .ok (.ireturn, 1) := by decide +kernel
theorem dX9_holds_29 : decode cX9_holds 29 = .ok (.iconst 0, 1) := by decide +kernel
theorem dX9_holds_30 : decode cX9_holds 30 = .ok (.istore_n 3, 1) := by decide +kernel
theorem dX9_holds_31 : decode cX9_holds 31 = .ok (.iconst 0, 1) := by decide +kernel
theorem dX9_holds_32 : decode cX9_holds 32 = .ok (.istore 4, 2) := by decide +kernel
theorem dX9_holds_34 : decode cX9_holds 34 = .ok (.iload 4, 2) := by decide +kernel
theorem dX9_holds_36 : decode cX9_holds 36 = .ok (.iconst 1, 1) := by decide +kernel
theorem dX9_holds_37 : decode cX9_holds 37 = .ok (.iadd, 1) := by decide +kernel
theorem dX9_holds_38 : decode cX9_holds 38 = .ok (.aload_n 2, 1) := by decide +kernel
theorem dX9_holds_39 : decode cX9_holds 39 = .ok (.getfield 269, 3) := by decide +kernel
theorem dX9_holds_42 : decode cX9_holds 42 = .ok (.if_icmp .ge 79, 3) := by decide +kernel
theorem dX9_holds_45 : decode cX9_holds 45 = .ok (.aload_n 2, 1) := by decide +kernel
theorem dX9_holds_46 : decode cX9_holds 46 = .ok (.getfield 270, 3) := by decide +kernel
theorem dX9_holds_49 : decode cX9_holds 49 = .ok (.iload 4, 2) := by decide +kernel
theorem dX9_holds_51 : decode cX9_holds 51 = .ok (.invokestatic 104, 3) := by decide +kernel
theorem dX9_holds_54 : decode cX9_holds 54 = .ok (.istore 5, 2) := by decide +kernel
theorem dX9_holds_56 : decode cX9_holds 56 = .ok (.aload_n 2, 1) := by decide +kernel
theorem dX9_holds_57 : decode cX9_holds 57 = .ok (.getfield 270, 3) := by decide +kernel
theorem dX9_holds_60 : decode cX9_holds 60 = .ok (.iload 4, 2) := by decide +kernel
theorem dX9_holds_62 : decode cX9_holds 62 = .ok (.iconst 1, 1) := by decide +kernel
theorem dX9_holds_63 : decode cX9_holds 63 = .ok (.iadd, 1) := by decide +kernel
theorem dX9_holds_64 : decode cX9_holds 64 = .ok (.invokestatic 104, 3) := by decide +kernel
theorem dX9_holds_67 : decode cX9_holds 67 = .ok (.istore 6, 2) := by decide +kernel
theorem dX9_holds_69 : decode cX9_holds 69 = .ok (.iload 5, 2) := by decide +kernel
theorem dX9_holds_71 : decode cX9_holds 71 = .ok (.iload 6, 2) := by decide +kernel
theorem dX9_holds_73 : decode cX9_holds 73 = .ok (.invokestatic 82, 3) := by decide +kernel
theorem dX9_holds_76 : decode cX9_holds 76 = .ok (.ifCond .eq 45, 3) := by decide +kernel
theorem dX9_holds_79 : decode cX9_holds 79 = .ok (.aload_n 0, 1) := by decide +kernel
theorem dX9_holds_80 : decode cX9_holds 80 = .ok (.getfield 10, 3) := by decide +kernel
theorem dX9_holds_83 : decode cX9_holds 83 = .ok (.getfield 66, 3) := by decide +kernel
theorem dX9_holds_86 : decode cX9_holds 86 = .ok (.getfield 86, 3) := by decide +kernel
theorem dX9_holds_89 : decode cX9_holds 89 = .ok (.bipush 8, 2) := by decide +kernel
theorem dX9_holds_91 : decode cX9_holds 91 = .ok (.if_icmp .lt 6, 3) := by decide +kernel
theorem dX9_holds_94 : decode cX9_holds 94 = .ok (.goto 27, 3) := by decide +kernel
theorem dX9_holds_97 : decode cX9_holds 97 = .ok (.aload_n 0, 1) := by decide +kernel
theorem dX9_holds_98 : decode cX9_holds 98 = .ok (.getfield 10, 3) := by decide +kernel
theorem dX9_holds_101 : decode cX9_holds 101 = .ok (.getfield 66, 3) := by decide +kernel
theorem dX9_holds_104 : decode cX9_holds 104 = .ok (.iload 5, 2) := by decide +kernel
theorem dX9_holds_106 : decode cX9_holds 106 = .ok (.iload 6, 2) := by decide +kernel
theorem dX9_holds_108 : decode cX9_holds 108 = .ok (.invokevirtual 89, 3) := by decide +kernel
theorem dX9_holds_111 : decode cX9_holds 111 = .ok (.pop, 1) := by decide +kernel
theorem dX9_holds_112 : decode cX9_holds 112 = .ok (.iinc 3 1, 3) := by decide +kernel
theorem dX9_holds_115 : decode cX9_holds 115 = .ok (.iinc 4 2, 3) := by decide +kernel
theorem dX9_holds_118 : decode cX9_holds 118 = .ok (.goto (-84), 3) := by decide +kernel
theorem dX9_holds_121 : decode cX9_holds 121 = .ok (.iload_n 3, 1) := by decide +kernel
theorem dX9_holds_122 : decode cX9_holds 122 = .ok (.ireturn, 1) := by decide +kernel
theorem dX9_off_0 : decode cX9_off 0 = .ok (.aload_n 0, 1) := by decide +kernel
theorem dX9_off_1 : decode cX9_off 1 = .ok (.iload_n 1, 1) := by decide +kernel
theorem dX9_off_2 : decode cX9_off 2 = .ok (.invokevirtual 258, 3) := by decide +kernel
theorem dX9_off_5 : decode cX9_off 5 = .ok (.astore_n 2, 1) := by decide +kernel
theorem dX9_off_6 : decode cX9_off 6 = .ok (.aload_n 2, 1) := by decide +kernel
theorem dX9_off_7 : decode cX9_off 7 = .ok (.ifnonnull 9, 3) := by decide +kernel
theorem dX9_off_10 : decode cX9_off 10 = .ok (.aload_n 0, 1) := by decide +kernel
theorem dX9_off_11 : decode cX9_off 11 = .ok (.iconst 1, 1) := by decide +kernel
theorem dX9_off_12 : decode cX9_off 12 = .ok (.invokevirtual 62, 3) := by decide +kernel
theorem dX9_off_15 : decode cX9_off 15 = .ok (.ireturn, 1) := by decide +kernel
theorem dX9_off_16 : decode cX9_off 16 = .ok (.aload_n 2, 1) := by decide +kernel
theorem dX9_off_17 : decode cX9_off 17 = .ok (.getfield 266, 3) := by decide +kernel
theorem dX9_off_20 : decode cX9_off 20 = .ok (.ifCond .ne 9, 3) := by decide +kernel
theorem dX9_off_23 : decode cX9_off 23 = .ok (.aload_n 0, 1) := by decide +kernel
theorem dX9_off_24 : decode cX9_off 24 = .ok (.iconst 2, 1) := by decide +kernel
theorem dX9_off_25 : decode cX9_off 25 = .ok (.invokevirtual 62, 3) := by decide +kernel
theorem dX9_off_28 : decode cX9_off 28 = .ok (.ireturn, 1) := by decide +kernel
theorem dX9_off_29 : decode cX9_off 29 = .ok (.aload_n 0, 1) := by decide +kernel
theorem dX9_off_30 : decode cX9_off 30 = .ok (.getfield 19, 3) := by decide +kernel
theorem dX9_off_33 : decode cX9_off 33 = .ok (.aload_n 0, 1) := by decide +kernel
theorem dX9_off_34 : decode cX9_off 34 = .ok (.getfield 10, 3) := by decide +kernel
theorem dX9_off_37 : decode cX9_off 37 = .ok (.invokevirtual 204, 3) := by decide +kernel
theorem dX9_off_40 : decode cX9_off 40 = .ok (.aload_n 0, 1) := by decide +kernel
theorem dX9_off_41 : decode cX9_off 41 = .ok (.aload_n 2, 1) := by decide +kernel
theorem dX9_off_42 : decode cX9_off 42 = .ok (.invokevirtual 283, 3) := by decide +kernel
theorem dX9_off_45 : decode cX9_off 45 = .ok (.ireturn, 1) := by decide +kernel
theorem dX9_guess_0 : decode cX9_guess 0 = .ok (.aload_n 0, 1) := by decide +kernel
theorem dX9_guess_1 : decode cX9_guess 1 = .ok (.iload_n 1, 1) := by decide +kernel
theorem dX9_guess_2 : decode cX9_guess 2 = .ok (.invokevirtual 258, 3) := by decide +kernel
theorem dX9_guess_5 : decode cX9_guess 5 = .ok (.astore_n 2, 1) := by decide +kernel
theorem dX9_guess_6 : decode cX9_guess 6 = .ok (.aload_n 2, 1) := by decide +kernel
theorem dX9_guess_7 : decode cX9_guess 7 = .ok (.ifnonnull 9, 3) := by decide +kernel
theorem dX9_guess_10 : decode cX9_guess 10 = .ok (.aload_n 0, 1) := by decide +kernel
theorem dX9_guess_11 : decode cX9_guess 11 = .ok (.iconst 1, 1) := by decide +kernel
theorem dX9_guess_12 : decode cX9_guess 12 = .ok (.invokevirtual 62, 3) := by decide +kernel
theorem dX9_guess_15 : decode cX9_guess 15 = .ok (.ireturn, 1) := by decide +kernel
theorem dX9_guess_16 : decode cX9_guess 16 = .ok (.aload_n 2, 1) := by decide +kernel
theorem dX9_guess_17 : decode cX9_guess 17 = .ok (.getfield 266, 3) := by decide +kernel
theorem dX9_guess_20 : decode cX9_guess 20 = .ok (.ifCond .ne 9, 3) := by decide +kernel
theorem dX9_guess_23 : decode cX9_guess 23 = .ok (.aload_n 0, 1) := by decide +kernel
theorem dX9_guess_24 : decode cX9_guess 24 = .ok (.iconst 2, 1) := by decide +kernel
theorem dX9_guess_25 : decode cX9_guess 25 = .ok (.invokevirtual 62, 3) := by decide +kernel
theorem dX9_guess_28 : decode cX9_guess 28 = .ok (.ireturn, 1) := by decide +kernel
theorem dX9_guess_29 : decode cX9_guess 29 = .ok (.iconst 0, 1) := by decide +kernel
theorem dX9_guess_30 : decode cX9_guess 30 = .ok (.istore_n 3, 1) := by decide +kernel
theorem dX9_guess_31 : decode cX9_guess 31 = .ok (.ldc 241, 2) := by decide +kernel
theorem dX9_guess_33 : decode cX9_guess 33 = .ok (.istore 4, 2) := by decide +kernel
theorem dX9_guess_35 : decode cX9_guess 35 = .ok (.iconst 0, 1) := by decide +kernel
theorem dX9_guess_36 : decode cX9_guess 36 = .ok (.istore 5, 2) := by decide +kernel
theorem dX9_guess_38 : decode cX9_guess 38 = .ok (.iload 5, 2) := by decide +kernel
theorem dX9_guess_40 : decode cX9_guess 40 = .ok (.bipush 60, 2) := by decide +kernel
theorem dX9_guess_42 : decode cX9_guess 42 = .ok (.if_icmp .gt 52, 3) := by decide +kernel
theorem dX9_guess_45 : decode cX9_guess 45 = .ok (.aload_n 0, 1) := by decide +kernel
theorem dX9_guess_46 : decode cX9_guess 46 = .ok (.getfield 19, 3) := by decide +kernel
theorem dX9_guess_49 : decode cX9_guess 49 = .ok (.aload_n 0, 1) := by decide +kernel
theorem dX9_guess_50 : decode cX9_guess 50 = .ok (.getfield 10, 3) := by decide +kernel
theorem dX9_guess_53 : decode cX9_guess 53 = .ok (.invokevirtual 204, 3) := by decide +kernel
theorem dX9_guess_56 : decode cX9_guess 56 = .ok (.aload_n 0, 1) := by decide +kernel
theorem dX9_guess_57 : decode cX9_guess 57 = .ok (.getfield 19, 3) := by decide +kernel
theorem dX9_guess_60 : decode cX9_guess 60 = .ok (.getfield 114, 3) := by decide +kernel
theorem dX9_guess_63 : decode cX9_guess 63 = .ok (.iconst 5, 1) := by decide +kernel
theorem dX9_guess_64 : decode cX9_guess 64 = .ok (.iload 5, 2) := by decide +kernel
theorem dX9_guess_66 : decode cX9_guess 66 = .ok (.iastore, 1) := by decide +kernel
theorem dX9_guess_67 : decode cX9_guess 67 = .ok (.aload_n 0, 1) := by decide +kernel
theorem dX9_guess_68 : decode cX9_guess 68 = .ok (.aload_n 2, 1) := by decide +kernel
theorem dX9_guess_69 : decode cX9_guess 69 = .ok (.invokevirtual 283, 3) := by decide +kernel
theorem dX9_guess_72 : decode cX9_guess 72 = .ok (.istore 6, 2) := by decide +kernel
theorem dX9_guess_74 : decode cX9_guess 74 = .ok (.iload 6, 2) := by decide +kernel
theorem dX9_guess_76 : decode cX9_guess 76 = .ok (.iload 4, 2) := by decide +kernel
theorem dX9_guess_78 : decode cX9_guess 78 = .ok (.if_icmp .ge 10, 3) := by decide +kernel
theorem dX9_guess_81 : decode cX9_guess 81 = .ok (.iload 6, 2) := by decide +kernel
theorem dX9_guess_83 : decode cX9_guess 83 = .ok (.istore 4, 2) := by decide +kernel
theorem dX9_guess_85 : decode cX9_guess 85 = .ok (.iload 5, 2) := by decide +kernel
theorem dX9_guess_87 : decode cX9_guess 87 = .ok (.istore_n 3, 1) := by decide +kernel
theorem dX9_guess_88 : decode cX9_guess 88 = .ok (.iinc 5 1, 3) := by decide +kernel
theorem dX9_guess_91 : decode cX9_guess 91 = .ok (.goto (-53), 3) := by decide +kernel
theorem dX9_guess_94 : decode cX9_guess 94 = .ok (.iload_n 3, 1) := by decide +kernel
theorem dX9_guess_95 : decode cX9_guess 95 = .ok (.ireturn, 1) := by decide +kernel
theorem dX9_image_0 : decode cX9_image 0 = .ok (.aload_n 0, 1) := by decide +kernel
theorem dX9_image_1 : decode cX9_image 1 = .ok (.getfield 16, 3) := by decide +kernel
theorem dX9_image_4 : decode cX9_image 4 = .ok (.aload_n 0, 1) := by decide +kernel
theorem dX9_image_5 : decode cX9_image 5 = .ok (.getfield 10, 3) := by decide +kernel
theorem dX9_image_8 : decode cX9_image 8 = .ok (.invokevirtual 204, 3) := by decide +kernel
theorem dX9_image_11 : decode cX9_image 11 = .ok (.aload_n 0, 1) := by decide +kernel
theorem dX9_image_12 : decode cX9_image 12 = .ok (.dup, 1) := by decide +kernel
theorem dX9_image_13 : decode cX9_image 13 = .ok (.getfield 53, 3) := by decide +kernel
theorem dX9_image_16 : decode cX9_image 16 = .ok (.iconst 1, 1) := by decide +kernel
theorem dX9_image_17 : decode cX9_image 17 = .ok (.iadd, 1) := by decide +kernel
theorem dX9_image_18 : decode cX9_image 18 = .ok (.putfield 53, 3) := by decide +kernel
theorem dX9_image_21 : decode cX9_image 21 = .ok (.aload_n 0, 1) := by decide +kernel
theorem dX9_image_22 : decode cX9_image 22 = .ok (.getfield 53, 3) := by decide +kernel
theorem dX9_image_25 : decode cX9_image 25 = .ok (.ireturn, 1) := by decide +kernel
theorem dX9_restore_0 : decode cX9_restore 0 = .ok (.aload_n 0, 1) := by decide +kernel
theorem dX9_restore_1 : decode cX9_restore 1 = .ok (.getfield 53, 3) := by decide +kernel
theorem dX9_restore_4 : decode cX9_restore 4 = .ok (.ifCond .ne 9, 3) := by decide +kernel
theorem dX9_restore_7 : decode cX9_restore 7 = .ok (.aload_n 0, 1) := by decide +kernel
theorem dX9_restore_8 : decode cX9_restore 8 = .ok (.iconst 2, 1) := by decide +kernel
theorem dX9_restore_9 : decode cX9_restore 9 = .ok (.invokevirtual 62, 3) := by decide +kernel
theorem dX9_restore_12 : decode cX9_restore 12 = .ok (.ireturn, 1) := by decide +kernel
theorem dX9_restore_13 : decode cX9_restore 13 = .ok (.aload_n 0, 1) := by decide +kernel
theorem dX9_restore_14 : decode cX9_restore 14 = .ok (.getfield 10, 3) := by decide +kernel
theorem dX9_restore_17 : decode cX9_restore 17 = .ok (.aload_n 0, 1) := by decide +kernel
theorem dX9_restore_18 : decode cX9_restore 18 = .ok (.getfield 16, 3) := by decide +kernel
theorem dX9_restore_21 : decode cX9_restore 21 = .ok (.invokevirtual 204, 3) := by decide +kernel
theorem dX9_restore_24 : decode cX9_restore 24 = .ok (.aload_n 0, 1) := by decide +kernel
theorem dX9_restore_25 : decode cX9_restore 25 = .ok (.getfield 10, 3) := by decide +kernel
theorem dX9_restore_28 : decode cX9_restore 28 = .ok (.getfield 114, 3) := by decide +kernel
theorem dX9_restore_31 : decode cX9_restore 31 = .ok (.bipush 13, 2) := by decide +kernel
theorem dX9_restore_33 : decode cX9_restore 33 = .ok (.iaload, 1) := by decide +kernel
theorem dX9_restore_34 : decode cX9_restore 34 = .ok (.ireturn, 1) := by decide +kernel
theorem dX9_tell_0 : decode cX9_tell 0 = .ok (.aload_n 0, 1) := by decide +kernel
theorem dX9_tell_1 : decode cX9_tell 1 = .ok (.getfield 10, 3) := by decide +kernel
theorem dX9_tell_4 : decode cX9_tell 4 = .ok (.getfield 287, 3) := by decide +kernel
theorem dX9_tell_7 : decode cX9_tell 7 = .ok (.bipush 24, 2) := by decide +kernel
theorem dX9_tell_9 : decode cX9_tell 9 = .ok (.if_icmp .lt 9, 3) := by decide +kernel
theorem dX9_tell_12 : decode cX9_tell 12 = .ok (.aload_n 0, 1) := by decide +kernel
theorem dX9_tell_13 : decode cX9_tell 13 = .ok (.iconst 4, 1) := by decide +kernel
theorem dX9_tell_14 : decode cX9_tell 14 = .ok (.invokevirtual 62, 3) := by decide +kernel
theorem dX9_tell_17 : decode cX9_tell 17 = .ok (.ireturn, 1) := by decide +kernel
theorem dX9_tell_18 : decode cX9_tell 18 = .ok (.aload_n 0, 1) := by decide +kernel
theorem dX9_tell_19 : decode cX9_tell 19 = .ok (.getfield 10, 3) := by decide +kernel
theorem dX9_tell_22 : decode cX9_tell 22 = .ok (.getfield 290, 3) := by decide +kernel
theorem dX9_tell_25 : decode cX9_tell 25 = .ok (.aload_n 0, 1) := by decide +kernel
theorem dX9_tell_26 : decode cX9_tell 26 = .ok (.getfield 10, 3) := by decide +kernel
theorem dX9_tell_29 : decode cX9_tell 29 = .ok (.getfield 287, 3) := by decide +kernel
theorem dX9_tell_32 : decode cX9_tell 32 = .ok (.iload_n 1, 1) := by decide +kernel
theorem dX9_tell_33 : decode cX9_tell 33 = .ok (.invokestatic 78, 3) := by decide +kernel
theorem dX9_tell_36 : decode cX9_tell 36 = .ok (.pop, 1) := by decide +kernel
theorem dX9_tell_37 : decode cX9_tell 37 = .ok (.aload_n 0, 1) := by decide +kernel
theorem dX9_tell_38 : decode cX9_tell 38 = .ok (.getfield 10, 3) := by decide +kernel
theorem dX9_tell_41 : decode cX9_tell 41 = .ok (.dup, 1) := by decide +kernel
theorem dX9_tell_42 : decode cX9_tell 42 = .ok (.getfield 287, 3) := by decide +kernel
theorem dX9_tell_45 : decode cX9_tell 45 = .ok (.iconst 1, 1) := by decide +kernel
theorem dX9_tell_46 : decode cX9_tell 46 = .ok (.iadd, 1) := by decide +kernel
theorem dX9_tell_47 : decode cX9_tell 47 = .ok (.putfield 287, 3) := by decide +kernel
theorem dX9_tell_50 : decode cX9_tell 50 = .ok (.aload_n 0, 1) := by decide +kernel
theorem dX9_tell_51 : decode cX9_tell 51 = .ok (.getfield 10, 3) := by decide +kernel
theorem dX9_tell_54 : decode cX9_tell 54 = .ok (.getfield 287, 3) := by decide +kernel
theorem dX9_tell_57 : decode cX9_tell 57 = .ok (.ireturn, 1) := by decide +kernel
theorem dX9_check_0 : decode cX9_check 0 = .ok (.aload_n 0, 1) := by decide +kernel
theorem dX9_check_1 : decode cX9_check 1 = .ok (.getfield 10, 3) := by decide +kernel
theorem dX9_check_4 : decode cX9_check 4 = .ok (.getfield 287, 3) := by decide +kernel
theorem dX9_check_7 : decode cX9_check 7 = .ok (.istore_n 1, 1) := by decide +kernel
theorem dX9_check_8 : decode cX9_check 8 = .ok (.aload_n 0, 1) := by decide +kernel
theorem dX9_check_9 : decode cX9_check 9 = .ok (.getfield 19, 3) := by decide +kernel
theorem dX9_check_12 : decode cX9_check 12 = .ok (.aload_n 0, 1) := by decide +kernel
theorem dX9_check_13 : decode cX9_check 13 = .ok (.getfield 10, 3) := by decide +kernel
theorem dX9_check_16 : decode cX9_check 16 = .ok (.invokevirtual 204, 3) := by decide +kernel
theorem dX9_check_19 : decode cX9_check 19 = .ok (.aload_n 0, 1) := by decide +kernel
theorem dX9_check_20 : decode cX9_check 20 = .ok (.getfield 10, 3) := by decide +kernel
theorem dX9_check_23 : decode cX9_check 23 = .ok (.iconst 0, 1) := by decide +kernel
theorem dX9_check_24 : decode cX9_check 24 = .ok (.putfield 287, 3) := by decide +kernel
theorem dX9_check_27 : decode cX9_check 27 = .ok (.iconst 0, 1) := by decide +kernel
theorem dX9_check_28 : decode cX9_check 28 = .ok (.istore_n 2, 1) := by decide +kernel
theorem dX9_check_29 : decode cX9_check 29 = .ok (.iload_n 2, 1) := by decide +kernel
theorem dX9_check_30 : decode cX9_check 30 = .ok (.iload_n 1, 1) := by decide +kernel
theorem dX9_check_31 : decode cX9_check 31 = .ok (.if_icmp .ge 44, 3) := by decide +kernel
theorem dX9_check_34 : decode cX9_check 34 = .ok (.aload_n 0, 1) := by decide +kernel
theorem dX9_check_35 : decode cX9_check 35 = .ok (.getfield 19, 3) := by decide +kernel
theorem dX9_check_38 : decode cX9_check 38 = .ok (.invokevirtual 293, 3) := by decide +kernel
theorem dX9_check_41 : decode cX9_check 41 = .ok (.aload_n 0, 1) := by decide +kernel
theorem dX9_check_42 : decode cX9_check 42 = .ok (.getfield 10, 3) := by decide +kernel
theorem dX9_check_45 : decode cX9_check 45 = .ok (.getfield 290, 3) := by decide +kernel
theorem dX9_check_48 : decode cX9_check 48 = .ok (.iload_n 2, 1) := by decide +kernel
theorem dX9_check_49 : decode cX9_check 49 = .ok (.invokestatic 104, 3) := by decide +kernel
theorem dX9_check_52 : decode cX9_check 52 = .ok (.aload_n 0, 1) := by decide +kernel
theorem dX9_check_53 : decode cX9_check 53 = .ok (.getfield 19, 3) := by decide +kernel
theorem dX9_check_56 : decode cX9_check 56 = .ok (.getfield 114, 3) := by decide +kernel
theorem dX9_check_59 : decode cX9_check 59 = .ok (.bipush 7, 2) := by decide +kernel
theorem dX9_check_61 : decode cX9_check 61 = .ok (.iaload, 1) := by decide +kernel
theorem dX9_check_62 : decode cX9_check 62 = .ok (.if_icmp .eq 7, 3) := by decide +kernel
theorem dX9_check_65 : decode cX9_check 65 = .ok (.iconst 1, 1) := by decide +kernel
theorem dX9_check_66 : decode cX9_check 66 = .ok (.iload_n 2, 1) := by decide +kernel
theorem dX9_check_67 : decode cX9_check 67 = .ok (.iadd, 1) := by decide +kernel
theorem dX9_check_68 : decode cX9_check 68 = .ok (.ireturn, 1) := by decide +kernel
theorem dX9_check_69 : decode cX9_check 69 = .ok (.iinc 2 1, 3) := by decide +kernel
theorem dX9_check_72 : decode cX9_check 72 = .ok (.goto (-43), 3) := by decide +kernel
theorem dX9_check_75 : decode cX9_check 75 = .ok (.iconst 0, 1) := by decide +kernel
theorem dX9_check_76 : decode cX9_check 76 = .ok (.ireturn, 1) := by decide +kernel
theorem dX9_count_0 : decode cX9_count 0 = .ok (.iload_n 1, 1) := by decide +kernel
theorem dX9_count_1 : decode cX9_count 1 = .ok (.tableswitch 96 0 5 #[39, 50, 61, 69, 77, 85], 39) := by decide +kernel
theorem dX9_count_40 : decode cX9_count 40 = .ok (.aload_n 0, 1) := by decide +kernel
theorem dX9_count_41 : decode cX9_count 41 = .ok (.getfield 10, 3) := by decide +kernel
theorem dX9_count_44 : decode cX9_count 44 = .ok (.getfield 66, 3) := by decide +kernel
theorem dX9_count_47 : decode cX9_count 47 = .ok (.getfield 86, 3) := by decide +kernel
theorem dX9_count_50 : decode cX9_count 50 = .ok (.ireturn, 1) := by decide +kernel
theorem dX9_count_51 : decode cX9_count 51 = .ok (.aload_n 0, 1) := by decide +kernel
theorem dX9_count_52 : decode cX9_count 52 = .ok (.getfield 10, 3) := by decide +kernel
theorem dX9_count_55 : decode cX9_count 55 = .ok (.getfield 120, 3) := by decide +kernel
theorem dX9_count_58 : decode cX9_count 58 = .ok (.getfield 124, 3) := by decide +kernel
theorem dX9_count_61 : decode cX9_count 61 = .ok (.ireturn, 1) := by decide +kernel
theorem dX9_count_62 : decode cX9_count 62 = .ok (.aload_n 0, 1) := by decide +kernel
theorem dX9_count_63 : decode cX9_count 63 = .ok (.getfield 10, 3) := by decide +kernel
theorem dX9_count_66 : decode cX9_count 66 = .ok (.getfield 167, 3) := by decide +kernel
theorem dX9_count_69 : decode cX9_count 69 = .ok (.ireturn, 1) := by decide +kernel
theorem dX9_count_70 : decode cX9_count 70 = .ok (.aload_n 0, 1) := by decide +kernel
theorem dX9_count_71 : decode cX9_count 71 = .ok (.getfield 10, 3) := by decide +kernel
theorem dX9_count_74 : decode cX9_count 74 = .ok (.getfield 287, 3) := by decide +kernel
theorem dX9_count_77 : decode cX9_count 77 = .ok (.ireturn, 1) := by decide +kernel
theorem dX9_count_78 : decode cX9_count 78 = .ok (.aload_n 0, 1) := by decide +kernel
theorem dX9_count_79 : decode cX9_count 79 = .ok (.getfield 49, 3) := by decide +kernel
theorem dX9_count_82 : decode cX9_count 82 = .ok (.getfield 254, 3) := by decide +kernel
theorem dX9_count_85 : decode cX9_count 85 = .ok (.ireturn, 1) := by decide +kernel
theorem dX9_count_86 : decode cX9_count 86 = .ok (.aload_n 0, 1) := by decide +kernel
theorem dX9_count_87 : decode cX9_count 87 = .ok (.getfield 10, 3) := by decide +kernel
theorem dX9_count_90 : decode cX9_count 90 = .ok (.getfield 114, 3) := by decide +kernel
theorem dX9_count_93 : decode cX9_count 93 = .ok (.bipush 14, 2) := by decide +kernel
theorem dX9_count_95 : decode cX9_count 95 = .ok (.iaload, 1) := by decide +kernel
theorem dX9_count_96 : decode cX9_count 96 = .ok (.ireturn, 1) := by decide +kernel
theorem dX9_count_97 : decode cX9_count 97 = .ok (.aload_n 0, 1) := by decide +kernel
theorem dX9_count_98 : decode cX9_count 98 = .ok (.iconst 1, 1) := by decide +kernel
theorem dX9_count_99 : decode cX9_count 99 = .ok (.invokevirtual 62, 3) := by decide +kernel
theorem dX9_count_102 : decode cX9_count 102 = .ok (.ireturn, 1) := by decide +kernel
theorem dX9_told_0 : decode cX9_told 0 = .ok (.iload_n 1, 1) := by decide +kernel
theorem dX9_told_1 : decode cX9_told 1 = .ok (.iconst 1, 1) := by decide +kernel
theorem dX9_told_2 : decode cX9_told 2 = .ok (.bipush 6, 2) := by decide +kernel
theorem dX9_told_4 : decode cX9_told 4 = .ok (.invokestatic 58, 3) := by decide +kernel
theorem dX9_told_7 : decode cX9_told 7 = .ok (.ifCond .ne 9, 3) := by decide +kernel
theorem dX9_told_10 : decode cX9_told 10 = .ok (.aload_n 0, 1) := by decide +kernel
theorem dX9_told_11 : decode cX9_told 11 = .ok (.iconst 1, 1) := by decide +kernel
theorem dX9_told_12 : decode cX9_told 12 = .ok (.invokevirtual 62, 3) := by decide +kernel
theorem dX9_told_15 : decode cX9_told 15 = .ok (.ireturn, 1) := by decide +kernel
theorem dX9_told_16 : decode cX9_told 16 = .ok (.aload_n 0, 1) := by decide +kernel
theorem dX9_told_17 : decode cX9_told 17 = .ok (.getfield 42, 3) := by decide +kernel
theorem dX9_told_20 : decode cX9_told 20 = .ok (.iload_n 1, 1) := by decide +kernel
theorem dX9_told_21 : decode cX9_told 21 = .ok (.iconst 1, 1) := by decide +kernel
theorem dX9_told_22 : decode cX9_told 22 = .ok (.isub, 1) := by decide +kernel
theorem dX9_told_23 : decode cX9_told 23 = .ok (.invokestatic 104, 3) := by decide +kernel
theorem dX9_told_26 : decode cX9_told 26 = .ok (.ireturn, 1) := by decide +kernel
theorem dX9_refused_0 : decode cX9_refused 0 = .ok (.aload_n 0, 1) := by decide +kernel
theorem dX9_refused_1 : decode cX9_refused 1 = .ok (.getfield 42, 3) := by decide +kernel
theorem dX9_refused_4 : decode cX9_refused 4 = .ok (.iload_n 1, 1) := by decide +kernel
theorem dX9_refused_5 : decode cX9_refused 5 = .ok (.iconst 1, 1) := by decide +kernel
theorem dX9_refused_6 : decode cX9_refused 6 = .ok (.isub, 1) := by decide +kernel
theorem dX9_refused_7 : decode cX9_refused 7 = .ok (.aload_n 0, 1) := by decide +kernel
theorem dX9_refused_8 : decode cX9_refused 8 = .ok (.getfield 42, 3) := by decide +kernel
theorem dX9_refused_11 : decode cX9_refused 11 = .ok (.iload_n 1, 1) := by decide +kernel
theorem dX9_refused_12 : decode cX9_refused 12 = .ok (.iconst 1, 1) := by decide +kernel
theorem dX9_refused_13 : decode cX9_refused 13 = .ok (.isub, 1) := by decide +kernel
theorem dX9_refused_14 : decode cX9_refused 14 = .ok (.invokestatic 104, 3) := by decide +kernel
theorem dX9_refused_17 : decode cX9_refused 17 = .ok (.iconst 1, 1) := by decide +kernel
theorem dX9_refused_18 : decode cX9_refused 18 = .ok (.iadd, 1) := by decide +kernel
theorem dX9_refused_19 : decode cX9_refused 19 = .ok (.invokestatic 78, 3) := by decide +kernel
theorem dX9_refused_22 : decode cX9_refused 22 = .ok (.pop, 1) := by decide +kernel
theorem dX9_refused_23 : decode cX9_refused 23 = .ok (.ldc_w 296, 3) := by decide +kernel
theorem dX9_refused_26 : decode cX9_refused 26 = .ok (.iload_n 1, 1) := by decide +kernel
theorem dX9_refused_27 : decode cX9_refused 27 = .ok (.isub, 1) := by decide +kernel
theorem dX9_refused_28 : decode cX9_refused 28 = .ok (.ireturn, 1) := by decide +kernel
theorem dX9_isHold_0 : decode cX9_isHold 0 = .ok (.iload_n 1, 1) := by decide +kernel
theorem dX9_isHold_1 : decode cX9_isHold 1 = .ok (.iconst 0, 1) := by decide +kernel
theorem dX9_isHold_2 : decode cX9_isHold 2 = .ok (.aload_n 0, 1) := by decide +kernel
theorem dX9_isHold_3 : decode cX9_isHold 3 = .ok (.getfield 10, 3) := by decide +kernel
theorem dX9_isHold_6 : decode cX9_isHold 6 = .ok (.getfield 66, 3) := by decide +kernel
theorem dX9_isHold_9 : decode cX9_isHold 9 = .ok (.getfield 86, 3) := by decide +kernel
theorem dX9_isHold_12 : decode cX9_isHold 12 = .ok (.iconst 1, 1) := by decide +kernel
theorem dX9_isHold_13 : decode cX9_isHold 13 = .ok (.isub, 1) := by decide +kernel
theorem dX9_isHold_14 : decode cX9_isHold 14 = .ok (.invokestatic 58, 3) := by decide +kernel
theorem dX9_isHold_17 : decode cX9_isHold 17 = .ok (.ireturn, 1) := by decide +kernel
theorem dX9_isGoing_0 : decode cX9_isGoing 0 = .ok (.iload_n 1, 1) := by decide +kernel
theorem dX9_isGoing_1 : decode cX9_isGoing 1 = .ok (.iconst 0, 1) := by decide +kernel
theorem dX9_isGoing_2 : decode cX9_isGoing 2 = .ok (.aload_n 0, 1) := by decide +kernel
theorem dX9_isGoing_3 : decode cX9_isGoing 3 = .ok (.getfield 10, 3) := by decide +kernel
theorem dX9_isGoing_6 : decode cX9_isGoing 6 = .ok (.getfield 120, 3) := by decide +kernel
theorem dX9_isGoing_9 : decode cX9_isGoing 9 = .ok (.getfield 124, 3) := by decide +kernel
theorem dX9_isGoing_12 : decode cX9_isGoing 12 = .ok (.iconst 1, 1) := by decide +kernel
theorem dX9_isGoing_13 : decode cX9_isGoing 13 = .ok (.isub, 1) := by decide +kernel
theorem dX9_isGoing_14 : decode cX9_isGoing 14 = .ok (.invokestatic 58, 3) := by decide +kernel
theorem dX9_isGoing_17 : decode cX9_isGoing 17 = .ok (.ireturn, 1) := by decide +kernel
theorem dX9_sheetAt_0 : decode cX9_sheetAt 0 = .ok (.iload_n 1, 1) := by decide +kernel
theorem dX9_sheetAt_1 : decode cX9_sheetAt 1 = .ok (.ifCond .lt 21, 3) := by decide +kernel
theorem dX9_sheetAt_4 : decode cX9_sheetAt 4 = .ok (.iload_n 1, 1) := by decide +kernel
theorem dX9_sheetAt_5 : decode cX9_sheetAt 5 = .ok (.aload_n 0, 1) := by decide +kernel
theorem dX9_sheetAt_6 : decode cX9_sheetAt 6 = .ok (.getfield 38, 3) := by decide +kernel
theorem dX9_sheetAt_9 : decode cX9_sheetAt 9 = .ok (.arraylength, 1) := by decide +kernel
theorem dX9_sheetAt_10 : decode cX9_sheetAt 10 = .ok (.if_icmp .ge 12, 3) := by decide +kernel
theorem dX9_sheetAt_13 : decode cX9_sheetAt 13 = .ok (.aload_n 0, 1) := by decide +kernel
theorem dX9_sheetAt_14 : decode cX9_sheetAt 14 = .ok (.getfield 38, 3) := by decide +kernel
theorem dX9_sheetAt_17 : decode cX9_sheetAt 17 = .ok (.iload_n 1, 1) := by decide +kernel
theorem dX9_sheetAt_18 : decode cX9_sheetAt 18 = .ok (.aaload, 1) := by decide +kernel
theorem dX9_sheetAt_19 : decode cX9_sheetAt 19 = .ok (.goto 4, 3) := by decide +kernel
theorem dX9_sheetAt_22 : decode cX9_sheetAt 22 = .ok (.aconst_null, 1) := by decide +kernel
theorem dX9_sheetAt_23 : decode cX9_sheetAt 23 = .ok (.areturn, 1) := by decide +kernel
theorem dX9_offAhead_0 : decode cX9_offAhead 0 = .ok (.lconst 0, 1) := by decide +kernel
theorem dX9_offAhead_1 : decode cX9_offAhead 1 = .ok (.lstore_n 2, 1) := by decide +kernel
theorem dX9_offAhead_2 : decode cX9_offAhead 2 = .ok (.iconst 0, 1) := by decide +kernel
theorem dX9_offAhead_3 : decode cX9_offAhead 3 = .ok (.istore 4, 2) := by decide +kernel
theorem dX9_offAhead_5 : decode cX9_offAhead 5 = .ok (.iload 4, 2) := by decide +kernel
theorem dX9_offAhead_7 : decode cX9_offAhead 7 = .ok (.aload_n 1, 1) := by decide +kernel
theorem dX9_offAhead_8 : decode cX9_offAhead 8 = .ok (.getfield 269, 3) := by decide +kernel
theorem dX9_offAhead_11 : decode cX9_offAhead 11 = .ok (.if_icmp .ge 53, 3) := by decide +kernel
theorem dX9_offAhead_14 : decode cX9_offAhead 14 = .ok (.aload_n 0, 1) := by decide +kernel
theorem dX9_offAhead_15 : decode cX9_offAhead 15 = .ok (.getfield 19, 3) := by decide +kernel
theorem dX9_offAhead_18 : decode cX9_offAhead 18 = .ok (.invokevirtual 293, 3) := by decide +kernel
theorem dX9_offAhead_21 : decode cX9_offAhead 21 = .ok (.aload_n 1, 1) := by decide +kernel
theorem dX9_offAhead_22 : decode cX9_offAhead 22 = .ok (.getfield 270, 3) := by decide +kernel
theorem dX9_offAhead_25 : decode cX9_offAhead 25 = .ok (.iload 4, 2) := by decide +kernel
theorem dX9_offAhead_27 : decode cX9_offAhead 27 = .ok (.invokestatic 104, 3) := by decide +kernel
theorem dX9_offAhead_30 : decode cX9_offAhead 30 = .ok (.i2l, 1) := by decide +kernel
theorem dX9_offAhead_31 : decode cX9_offAhead 31 = .ok (.aload_n 0, 1) := by decide +kernel
theorem dX9_offAhead_32 : decode cX9_offAhead 32 = .ok (.getfield 19, 3) := by decide +kernel
theorem dX9_offAhead_35 : decode cX9_offAhead 35 = .ok (.getfield 114, 3) := by decide +kernel
theorem dX9_offAhead_38 : decode cX9_offAhead 38 = .ok (.iconst 0, 1) := by decide +kernel
theorem dX9_offAhead_39 : decode cX9_offAhead 39 = .ok (.iaload, 1) := by decide +kernel
theorem dX9_offAhead_40 : decode cX9_offAhead 40 = .ok (.i2l, 1) := by decide +kernel
theorem dX9_offAhead_41 : decode cX9_offAhead 41 = .ok (.lsub, 1) := by decide +kernel
theorem dX9_offAhead_42 : decode cX9_offAhead 42 = .ok (.invokestatic 297, 3) := by decide +kernel
theorem dX9_offAhead_45 : decode cX9_offAhead 45 = .ok (.lstore 5, 2) := by decide +kernel
theorem dX9_offAhead_47 : decode cX9_offAhead 47 = .ok (.lload_n 2, 1) := by decide +kernel
theorem dX9_offAhead_48 : decode cX9_offAhead 48 = .ok (.ldc2_w 300, 3) := by decide +kernel
theorem dX9_offAhead_51 : decode cX9_offAhead 51 = .ok (.lload 5, 2) := by decide +kernel
theorem dX9_offAhead_53 : decode cX9_offAhead 53 = .ok (.invokestatic 302, 3) := by decide +kernel
theorem dX9_offAhead_56 : decode cX9_offAhead 56 = .ok (.ladd, 1) := by decide +kernel
theorem dX9_offAhead_57 : decode cX9_offAhead 57 = .ok (.lstore_n 2, 1) := by decide +kernel
theorem dX9_offAhead_58 : decode cX9_offAhead 58 = .ok (.iinc 4 1, 3) := by decide +kernel
theorem dX9_offAhead_61 : decode cX9_offAhead 61 = .ok (.goto (-56), 3) := by decide +kernel
theorem dX9_offAhead_64 : decode cX9_offAhead 64 = .ok (.lload_n 2, 1) := by decide +kernel
theorem dX9_offAhead_65 : decode cX9_offAhead 65 = .ok (.l2i, 1) := by decide +kernel
theorem dX9_offAhead_66 : decode cX9_offAhead 66 = .ok (.ireturn, 1) := by decide +kernel
theorem dX9_within_0 : decode cX9_within 0 = .ok (.iload_n 0, 1) := by decide +kernel
theorem dX9_within_1 : decode cX9_within 1 = .ok (.iload_n 1, 1) := by decide +kernel
theorem dX9_within_2 : decode cX9_within 2 = .ok (.if_icmp .lt 12, 3) := by decide +kernel
theorem dX9_within_5 : decode cX9_within 5 = .ok (.iload_n 0, 1) := by decide +kernel
theorem dX9_within_6 : decode cX9_within 6 = .ok (.iload_n 2, 1) := by decide +kernel
theorem dX9_within_7 : decode cX9_within 7 = .ok (.if_icmp .gt 7, 3) := by decide +kernel
theorem dX9_within_10 : decode cX9_within 10 = .ok (.iconst 1, 1) := by decide +kernel
theorem dX9_within_11 : decode cX9_within 11 = .ok (.goto 4, 3) := by decide +kernel
theorem dX9_within_14 : decode cX9_within 14 = .ok (.iconst 0, 1) := by decide +kernel
theorem dX9_within_15 : decode cX9_within 15 = .ok (.ireturn, 1) := by decide +kernel
theorem dX9_held_0 : decode cX9_held 0 = .ok (.iload_n 1, 1) := by decide +kernel
theorem dX9_held_1 : decode cX9_held 1 = .ok (.iload_n 2, 1) := by decide +kernel
theorem dX9_held_2 : decode cX9_held 2 = .ok (.iload_n 0, 1) := by decide +kernel
theorem dX9_held_3 : decode cX9_held 3 = .ok (.invokestatic 230, 3) := by decide +kernel
theorem dX9_held_6 : decode cX9_held 6 = .ok (.invokestatic 225, 3) := by decide +kernel
theorem dX9_held_9 : decode cX9_held 9 = .ok (.ireturn, 1) := by decide +kernel
theorem dX9_at_0 : decode cX9_at 0 = .ok (.iload_n 1, 1) := by decide +kernel
theorem dX9_at_1 : decode cX9_at 1 = .ok (.ifCond .lt 15, 3) := by decide +kernel
theorem dX9_at_4 : decode cX9_at 4 = .ok (.iload_n 1, 1) := by decide +kernel
theorem dX9_at_5 : decode cX9_at 5 = .ok (.aload_n 0, 1) := by decide +kernel
theorem dX9_at_6 : decode cX9_at 6 = .ok (.arraylength, 1) := by decide +kernel
theorem dX9_at_7 : decode cX9_at 7 = .ok (.if_icmp .ge 9, 3) := by decide +kernel
theorem dX9_at_10 : decode cX9_at 10 = .ok (.aload_n 0, 1) := by decide +kernel
theorem dX9_at_11 : decode cX9_at 11 = .ok (.iload_n 1, 1) := by decide +kernel
theorem dX9_at_12 : decode cX9_at 12 = .ok (.iaload, 1) := by decide +kernel
theorem dX9_at_13 : decode cX9_at 13 = .ok (.goto 4, 3) := by decide +kernel
theorem dX9_at_16 : decode cX9_at 16 = .ok (.iconst 0, 1) := by decide +kernel
theorem dX9_at_17 : decode cX9_at 17 = .ok (.ireturn, 1) := by decide +kernel
theorem dX9_exchange_0 : decode cX9_exchange 0 = .ok (.iload_n 1, 1) := by decide +kernel
theorem dX9_exchange_1 : decode cX9_exchange 1 = .ok (.ifCond .lt 9, 3) := by decide +kernel
theorem dX9_exchange_4 : decode cX9_exchange 4 = .ok (.iload_n 1, 1) := by decide +kernel
theorem dX9_exchange_5 : decode cX9_exchange 5 = .ok (.aload_n 0, 1) := by decide +kernel
theorem dX9_exchange_6 : decode cX9_exchange 6 = .ok (.arraylength, 1) := by decide +kernel
theorem dX9_exchange_7 : decode cX9_exchange 7 = .ok (.if_icmp .lt 5, 3) := by decide +kernel
theorem dX9_exchange_10 : decode cX9_exchange 10 = .ok (.iconst 0, 1) := by decide +kernel
theorem dX9_exchange_11 : decode cX9_exchange 11 = .ok (.ireturn, 1) := by decide +kernel
theorem dX9_exchange_12 : decode cX9_exchange 12 = .ok (.aload_n 0, 1) := by decide +kernel
theorem dX9_exchange_13 : decode cX9_exchange 13 = .ok (.iload_n 1, 1) := by decide +kernel
theorem dX9_exchange_14 : decode cX9_exchange 14 = .ok (.iaload, 1) := by decide +kernel
theorem dX9_exchange_15 : decode cX9_exchange 15 = .ok (.istore_n 3, 1) := by decide +kernel
theorem dX9_exchange_16 : decode cX9_exchange 16 = .ok (.aload_n 0, 1) := by decide +kernel
theorem dX9_exchange_17 : decode cX9_exchange 17 = .ok (.iload_n 1, 1) := by decide +kernel
theorem dX9_exchange_18 : decode cX9_exchange 18 = .ok (.iload_n 2, 1) := by decide +kernel
theorem dX9_exchange_19 : decode cX9_exchange 19 = .ok (.iastore, 1) := by decide +kernel
theorem dX9_exchange_20 : decode cX9_exchange 20 = .ok (.iload_n 3, 1) := by decide +kernel
theorem dX9_exchange_21 : decode cX9_exchange 21 = .ok (.ireturn, 1) := by decide +kernel
theorem dX9_copy_0 : decode cX9_copy 0 = .ok (.aload_n 0, 1) := by decide +kernel
theorem dX9_copy_1 : decode cX9_copy 1 = .ok (.iconst 0, 1) := by decide +kernel
theorem dX9_copy_2 : decode cX9_copy 2 = .ok (.aload_n 1, 1) := by decide +kernel
theorem dX9_copy_3 : decode cX9_copy 3 = .ok (.iconst 0, 1) := by decide +kernel
theorem dX9_copy_4 : decode cX9_copy 4 = .ok (.aload_n 0, 1) := by decide +kernel
theorem dX9_copy_5 : decode cX9_copy 5 = .ok (.arraylength, 1) := by decide +kernel
theorem dX9_copy_6 : decode cX9_copy 6 = .ok (.aload_n 1, 1) := by decide +kernel
theorem dX9_copy_7 : decode cX9_copy 7 = .ok (.arraylength, 1) := by decide +kernel
theorem dX9_copy_8 : decode cX9_copy 8 = .ok (.invokestatic 230, 3) := by decide +kernel
theorem dX9_copy_11 : decode cX9_copy 11 = .ok (.invokestatic 277, 3) := by decide +kernel
theorem dX9_copy_14 : decode cX9_copy 14 = .ok (.return_, 1) := by decide +kernel
theorem dL_law_0 : decode cL_law 0 = .ok (.new 7, 3) := by decide +kernel
theorem dL_law_3 : decode cL_law 3 = .ok (.dup, 1) := by decide +kernel
theorem dL_law_4 : decode cL_law 4 = .ok (.invokespecial 9, 3) := by decide +kernel
theorem dL_law_7 : decode cL_law 7 = .ok (.astore_n 1, 1) := by decide +kernel
theorem dL_law_8 : decode cL_law 8 = .ok (.new 10, 3) := by decide +kernel
theorem dL_law_11 : decode cL_law 11 = .ok (.dup, 1) := by decide +kernel
theorem dL_law_12 : decode cL_law 12 = .ok (.invokespecial 12, 3) := by decide +kernel
theorem dL_law_15 : decode cL_law 15 = .ok (.astore_n 2, 1) := by decide +kernel
theorem dL_law_16 : decode cL_law 16 = .ok (.iconst 0, 1) := by decide +kernel
theorem dL_law_17 : decode cL_law 17 = .ok (.istore_n 3, 1) := by decide +kernel
theorem dL_law_18 : decode cL_law 18 = .ok (.iload_n 3, 1) := by decide +kernel
theorem dL_law_19 : decode cL_law 19 = .ok (.aload_n 0, 1) := by decide +kernel
theorem dL_law_20 : decode cL_law 20 = .ok (.arraylength, 1) := by decide +kernel
theorem dL_law_21 : decode cL_law 21 = .ok (.bipush 6, 2) := by decide +kernel
theorem dL_law_23 : decode cL_law 23 = .ok (.isub, 1) := by decide +kernel
theorem dL_law_24 : decode cL_law 24 = .ok (.if_icmp .gt 1317, 3) := by decide +kernel
theorem dL_law_27 : decode cL_law 27 = .ok (.aload_n 0, 1) := by decide +kernel
theorem dL_law_28 : decode cL_law 28 = .ok (.iload_n 3, 1) := by decide +kernel
theorem dL_law_29 : decode cL_law 29 = .ok (.iaload, 1) := by decide +kernel
theorem dL_law_30 : decode cL_law 30 = .ok (.bipush 63, 2) := by decide +kernel
theorem dL_law_32 : decode cL_law 32 = .ok (.iand, 1) := by decide +kernel
theorem dL_law_33 : decode cL_law 33 = .ok (.tableswitch 1302 0 37 #[167, 210, 243, 276, 319, 352, 375, 388, 421, 454, 487, 530, 593, 616, 639, 662, 685, 708, 741, 775, 808, 831, 854, 887, 910, 953, 976, 1019, 1062, 1125, 1148, 1171, 1194, 1207, 1220, 1243, 1256, 1279], 167) := by decide +kernel
theorem dL_law_200 : decode cL_law 200 = .ok (.aload_n 1, 1) := by decide +kernel
theorem dL_law_201 : decode cL_law 201 = .ok (.aload_n 0, 1) := by decide +kernel
theorem dL_law_202 : decode cL_law 202 = .ok (.iload_n 3, 1) := by decide +kernel
theorem dL_law_203 : decode cL_law 203 = .ok (.iconst 1, 1) := by decide +kernel
theorem dL_law_204 : decode cL_law 204 = .ok (.iadd, 1) := by decide +kernel
theorem dL_law_205 : decode cL_law 205 = .ok (.iaload, 1) := by decide +kernel
theorem dL_law_206 : decode cL_law 206 = .ok (.aload_n 0, 1) := by decide +kernel
theorem dL_law_207 : decode cL_law 207 = .ok (.iload_n 3, 1) := by decide +kernel
theorem dL_law_208 : decode cL_law 208 = .ok (.iconst 2, 1) := by decide +kernel
theorem dL_law_209 : decode cL_law 209 = .ok (.iadd, 1) := by decide +kernel
theorem dL_law_210 : decode cL_law 210 = .ok (.iaload, 1) := by decide +kernel
theorem dL_law_211 : decode cL_law 211 = .ok (.aload_n 0, 1) := by decide +kernel
theorem dL_law_212 : decode cL_law 212 = .ok (.iload_n 3, 1) := by decide +kernel
theorem dL_law_213 : decode cL_law 213 = .ok (.iconst 3, 1) := by decide +kernel
theorem dL_law_214 : decode cL_law 214 = .ok (.iadd, 1) := by decide +kernel
theorem dL_law_215 : decode cL_law 215 = .ok (.iaload, 1) := by decide +kernel
theorem dL_law_216 : decode cL_law 216 = .ok (.invokevirtual 13, 3) := by decide +kernel
theorem dL_law_219 : decode cL_law 219 = .ok (.aload_n 2, 1) := by decide +kernel
theorem dL_law_220 : decode cL_law 220 = .ok (.aload_n 0, 1) := by decide +kernel
theorem dL_law_221 : decode cL_law 221 = .ok (.iload_n 3, 1) := by decide +kernel
theorem dL_law_222 : decode cL_law 222 = .ok (.iconst 1, 1) := by decide +kernel
theorem dL_law_223 : decode cL_law 223 = .ok (.iadd, 1) := by decide +kernel
theorem dL_law_224 : decode cL_law 224 = .ok (.iaload, 1) := by decide +kernel
theorem dL_law_225 : decode cL_law 225 = .ok (.aload_n 0, 1) := by decide +kernel
theorem dL_law_226 : decode cL_law 226 = .ok (.iload_n 3, 1) := by decide +kernel
theorem dL_law_227 : decode cL_law 227 = .ok (.iconst 2, 1) := by decide +kernel
theorem dL_law_228 : decode cL_law 228 = .ok (.iadd, 1) := by decide +kernel
theorem dL_law_229 : decode cL_law 229 = .ok (.iaload, 1) := by decide +kernel
theorem dL_law_230 : decode cL_law 230 = .ok (.aload_n 0, 1) := by decide +kernel
theorem dL_law_231 : decode cL_law 231 = .ok (.iload_n 3, 1) := by decide +kernel
theorem dL_law_232 : decode cL_law 232 = .ok (.iconst 3, 1) := by decide +kernel
theorem dL_law_233 : decode cL_law 233 = .ok (.iadd, 1) := by decide +kernel
theorem dL_law_234 : decode cL_law 234 = .ok (.iaload, 1) := by decide +kernel
theorem dL_law_235 : decode cL_law 235 = .ok (.invokevirtual 17, 3) := by decide +kernel
theorem dL_law_238 : decode cL_law 238 = .ok (.if_icmp .eq 1097, 3) := by decide +kernel
theorem dL_law_241 : decode cL_law 241 = .ok (.iconst 0, 1) := by decide +kernel
theorem dL_law_242 : decode cL_law 242 = .ok (.ireturn, 1) := by decide +kernel
theorem dL_law_243 : decode cL_law 243 = .ok (.aload_n 1, 1) := by decide +kernel
theorem dL_law_244 : decode cL_law 244 = .ok (.aload_n 0, 1) := by decide +kernel
theorem dL_law_245 : decode cL_law 245 = .ok (.iload_n 3, 1) := by decide +kernel
theorem dL_law_246 : decode cL_law 246 = .ok (.iconst 1, 1) := by decide +kernel
theorem dL_law_247 : decode cL_law 247 = .ok (.iadd, 1) := by decide +kernel
theorem dL_law_248 : decode cL_law 248 = .ok (.iaload, 1) := by decide +kernel
theorem dL_law_249 : decode cL_law 249 = .ok (.aload_n 0, 1) := by decide +kernel
theorem dL_law_250 : decode cL_law 250 = .ok (.iload_n 3, 1) := by decide +kernel
theorem dL_law_251 : decode cL_law 251 = .ok (.iconst 2, 1) := by decide +kernel
theorem dL_law_252 : decode cL_law 252 = .ok (.iadd, 1) := by decide +kernel
theorem dL_law_253 : decode cL_law 253 = .ok (.iaload, 1) := by decide +kernel
theorem dL_law_254 : decode cL_law 254 = .ok (.invokevirtual 18, 3) := by decide +kernel
theorem dL_law_257 : decode cL_law 257 = .ok (.aload_n 2, 1) := by decide +kernel
theorem dL_law_258 : decode cL_law 258 = .ok (.aload_n 0, 1) := by decide +kernel
theorem dL_law_259 : decode cL_law 259 = .ok (.iload_n 3, 1) := by decide +kernel
theorem dL_law_260 : decode cL_law 260 = .ok (.iconst 1, 1) := by decide +kernel
theorem dL_law_261 : decode cL_law 261 = .ok (.iadd, 1) := by decide +kernel
theorem dL_law_262 : decode cL_law 262 = .ok (.iaload, 1) := by decide +kernel
theorem dL_law_263 : decode cL_law 263 = .ok (.aload_n 0, 1) := by decide +kernel
theorem dL_law_264 : decode cL_law 264 = .ok (.iload_n 3, 1) := by decide +kernel
theorem dL_law_265 : decode cL_law 265 = .ok (.iconst 2, 1) := by decide +kernel
theorem dL_law_266 : decode cL_law 266 = .ok (.iadd, 1) := by decide +kernel
theorem dL_law_267 : decode cL_law 267 = .ok (.iaload, 1) := by decide +kernel
theorem dL_law_268 : decode cL_law 268 = .ok (.invokevirtual 22, 3) := by decide +kernel
theorem dL_law_271 : decode cL_law 271 = .ok (.if_icmp .eq 1064, 3) := by decide +kernel
theorem dL_law_274 : decode cL_law 274 = .ok (.iconst 0, 1) := by decide +kernel
theorem dL_law_275 : decode cL_law 275 = .ok (.ireturn, 1) := by decide +kernel
theorem dL_law_276 : decode cL_law 276 = .ok (.aload_n 1, 1) := by decide +kernel
theorem dL_law_277 : decode cL_law 277 = .ok (.aload_n 0, 1) := by decide +kernel
theorem dL_law_278 : decode cL_law 278 = .ok (.iload_n 3, 1) := by decide +kernel
theorem dL_law_279 : decode cL_law 279 = .ok (.iconst 1, 1) := by decide +kernel
theorem dL_law_280 : decode cL_law 280 = .ok (.iadd, 1) := by decide +kernel
theorem dL_law_281 : decode cL_law 281 = .ok (.iaload, 1) := by decide +kernel
theorem dL_law_282 : decode cL_law 282 = .ok (.aload_n 0, 1) := by decide +kernel
theorem dL_law_283 : decode cL_law 283 = .ok (.iload_n 3, 1) := by decide +kernel
theorem dL_law_284 : decode cL_law 284 = .ok (.iconst 2, 1) := by decide +kernel
theorem dL_law_285 : decode cL_law 285 = .ok (.iadd, 1) := by decide +kernel
theorem dL_law_286 : decode cL_law 286 = .ok (.iaload, 1) := by decide +kernel
theorem dL_law_287 : decode cL_law 287 = .ok (.invokevirtual 23, 3) := by decide +kernel
theorem dL_law_290 : decode cL_law 290 = .ok (.aload_n 2, 1) := by decide +kernel
theorem dL_law_291 : decode cL_law 291 = .ok (.aload_n 0, 1) := by decide +kernel
theorem dL_law_292 : decode cL_law 292 = .ok (.iload_n 3, 1) := by decide +kernel
theorem dL_law_293 : decode cL_law 293 = .ok (.iconst 1, 1) := by decide +kernel
theorem dL_law_294 : decode cL_law 294 = .ok (.iadd, 1) := by decide +kernel
theorem dL_law_295 : decode cL_law 295 = .ok (.iaload, 1) := by decide +kernel
theorem dL_law_296 : decode cL_law 296 = .ok (.aload_n 0, 1) := by decide +kernel
theorem dL_law_297 : decode cL_law 297 = .ok (.iload_n 3, 1) := by decide +kernel
theorem dL_law_298 : decode cL_law 298 = .ok (.iconst 2, 1) := by decide +kernel
theorem dL_law_299 : decode cL_law 299 = .ok (.iadd, 1) := by decide +kernel
theorem dL_law_300 : decode cL_law 300 = .ok (.iaload, 1) := by decide +kernel
theorem dL_law_301 : decode cL_law 301 = .ok (.invokevirtual 26, 3) := by decide +kernel
theorem dL_law_304 : decode cL_law 304 = .ok (.if_icmp .eq 1031, 3) := by decide +kernel
theorem dL_law_307 : decode cL_law 307 = .ok (.iconst 0, 1) := by decide +kernel
theorem dL_law_308 : decode cL_law 308 = .ok (.ireturn, 1) := by decide +kernel
theorem dL_law_309 : decode cL_law 309 = .ok (.aload_n 1, 1) := by decide +kernel
theorem dL_law_310 : decode cL_law 310 = .ok (.aload_n 0, 1) := by decide +kernel
theorem dL_law_311 : decode cL_law 311 = .ok (.iload_n 3, 1) := by decide +kernel
theorem dL_law_312 : decode cL_law 312 = .ok (.iconst 1, 1) := by decide +kernel
theorem dL_law_313 : decode cL_law 313 = .ok (.iadd, 1) := by decide +kernel
theorem dL_law_314 : decode cL_law 314 = .ok (.iaload, 1) := by decide +kernel
theorem dL_law_315 : decode cL_law 315 = .ok (.aload_n 0, 1) := by decide +kernel
theorem dL_law_316 : decode cL_law 316 = .ok (.iload_n 3, 1) := by decide +kernel
theorem dL_law_317 : decode cL_law 317 = .ok (.iconst 2, 1) := by decide +kernel
theorem dL_law_318 : decode cL_law 318 = .ok (.iadd, 1) := by decide +kernel
theorem dL_law_319 : decode cL_law 319 = .ok (.iaload, 1) := by decide +kernel
theorem dL_law_320 : decode cL_law 320 = .ok (.aload_n 0, 1) := by decide +kernel
theorem dL_law_321 : decode cL_law 321 = .ok (.iload_n 3, 1) := by decide +kernel
theorem dL_law_322 : decode cL_law 322 = .ok (.iconst 3, 1) := by decide +kernel
theorem dL_law_323 : decode cL_law 323 = .ok (.iadd, 1) := by decide +kernel
theorem dL_law_324 : decode cL_law 324 = .ok (.iaload, 1) := by decide +kernel
theorem dL_law_325 : decode cL_law 325 = .ok (.invokevirtual 27, 3) := by decide +kernel
theorem dL_law_328 : decode cL_law 328 = .ok (.aload_n 2, 1) := by decide +kernel
theorem dL_law_329 : decode cL_law 329 = .ok (.aload_n 0, 1) := by decide +kernel
theorem dL_law_330 : decode cL_law 330 = .ok (.iload_n 3, 1) := by decide +kernel
theorem dL_law_331 : decode cL_law 331 = .ok (.iconst 1, 1) := by decide +kernel
theorem dL_law_332 : decode cL_law 332 = .ok (.iadd, 1) := by decide +kernel
theorem dL_law_333 : decode cL_law 333 = .ok (.iaload, 1) := by decide +kernel
theorem dL_law_334 : decode cL_law 334 = .ok (.aload_n 0, 1) := by decide +kernel
theorem dL_law_335 : decode cL_law 335 = .ok (.iload_n 3, 1) := by decide +kernel
theorem dL_law_336 : decode cL_law 336 = .ok (.iconst 2, 1) := by decide +kernel
theorem dL_law_337 : decode cL_law 337 = .ok (.iadd, 1) := by decide +kernel
theorem dL_law_338 : decode cL_law 338 = .ok (.iaload, 1) := by decide +kernel
theorem dL_law_339 : decode cL_law 339 = .ok (.aload_n 0, 1) := by decide +kernel
theorem dL_law_340 : decode cL_law 340 = .ok (.iload_n 3, 1) := by decide +kernel
theorem dL_law_341 : decode cL_law 341 = .ok (.iconst 3, 1) := by decide +kernel
theorem dL_law_342 : decode cL_law 342 = .ok (.iadd, 1) := by decide +kernel
theorem dL_law_343 : decode cL_law 343 = .ok (.iaload, 1) := by decide +kernel
theorem dL_law_344 : decode cL_law 344 = .ok (.invokevirtual 30, 3) := by decide +kernel
theorem dL_law_347 : decode cL_law 347 = .ok (.if_icmp .eq 988, 3) := by decide +kernel
theorem dL_law_350 : decode cL_law 350 = .ok (.iconst 0, 1) := by decide +kernel
theorem dL_law_351 : decode cL_law 351 = .ok (.ireturn, 1) := by decide +kernel
theorem dL_law_352 : decode cL_law 352 = .ok (.aload_n 1, 1) := by decide +kernel
theorem dL_law_353 : decode cL_law 353 = .ok (.aload_n 0, 1) := by decide +kernel
theorem dL_law_354 : decode cL_law 354 = .ok (.iload_n 3, 1) := by decide +kernel
theorem dL_law_355 : decode cL_law 355 = .ok (.iconst 1, 1) := by decide +kernel
theorem dL_law_356 : decode cL_law 356 = .ok (.iadd, 1) := by decide +kernel
theorem dL_law_357 : decode cL_law 357 = .ok (.iaload, 1) := by decide +kernel
theorem dL_law_358 : decode cL_law 358 = .ok (.aload_n 0, 1) := by decide +kernel
theorem dL_law_359 : decode cL_law 359 = .ok (.iload_n 3, 1) := by decide +kernel
theorem dL_law_360 : decode cL_law 360 = .ok (.iconst 2, 1) := by decide +kernel
theorem dL_law_361 : decode cL_law 361 = .ok (.iadd, 1) := by decide +kernel
theorem dL_law_362 : decode cL_law 362 = .ok (.iaload, 1) := by decide +kernel
theorem dL_law_363 : decode cL_law 363 = .ok (.invokevirtual 31, 3) := by decide +kernel
theorem dL_law_366 : decode cL_law 366 = .ok (.aload_n 2, 1) := by decide +kernel
theorem dL_law_367 : decode cL_law 367 = .ok (.aload_n 0, 1) := by decide +kernel
theorem dL_law_368 : decode cL_law 368 = .ok (.iload_n 3, 1) := by decide +kernel
theorem dL_law_369 : decode cL_law 369 = .ok (.iconst 1, 1) := by decide +kernel
theorem dL_law_370 : decode cL_law 370 = .ok (.iadd, 1) := by decide +kernel
theorem dL_law_371 : decode cL_law 371 = .ok (.iaload, 1) := by decide +kernel
theorem dL_law_372 : decode cL_law 372 = .ok (.aload_n 0, 1) := by decide +kernel
theorem dL_law_373 : decode cL_law 373 = .ok (.iload_n 3, 1) := by decide +kernel
theorem dL_law_374 : decode cL_law 374 = .ok (.iconst 2, 1) := by decide +kernel
theorem dL_law_375 : decode cL_law 375 = .ok (.iadd, 1) := by decide +kernel
theorem dL_law_376 : decode cL_law 376 = .ok (.iaload, 1) := by decide +kernel
theorem dL_law_377 : decode cL_law 377 = .ok (.invokevirtual 34, 3) := by decide +kernel
theorem dL_law_380 : decode cL_law 380 = .ok (.if_icmp .eq 955, 3) := by decide +kernel
theorem dL_law_383 : decode cL_law 383 = .ok (.iconst 0, 1) := by decide +kernel
theorem dL_law_384 : decode cL_law 384 = .ok (.ireturn, 1) := by decide +kernel
theorem dL_law_385 : decode cL_law 385 = .ok (.aload_n 1, 1) := by decide +kernel
theorem dL_law_386 : decode cL_law 386 = .ok (.aload_n 0, 1) := by decide +kernel
theorem dL_law_387 : decode cL_law 387 = .ok (.iload_n 3, 1) := by decide +kernel
theorem dL_law_388 : decode cL_law 388 = .ok (.iconst 1, 1) := by decide +kernel
theorem dL_law_389 : decode cL_law 389 = .ok (.iadd, 1) := by decide +kernel
theorem dL_law_390 : decode cL_law 390 = .ok (.iaload, 1) := by decide +kernel
theorem dL_law_391 : decode cL_law 391 = .ok (.invokevirtual 35, 3) := by decide +kernel
theorem dL_law_394 : decode cL_law 394 = .ok (.aload_n 2, 1) := by decide +kernel
theorem dL_law_395 : decode cL_law 395 = .ok (.aload_n 0, 1) := by decide +kernel
theorem dL_law_396 : decode cL_law 396 = .ok (.iload_n 3, 1) := by decide +kernel
theorem dL_law_397 : decode cL_law 397 = .ok (.iconst 1, 1) := by decide +kernel
theorem dL_law_398 : decode cL_law 398 = .ok (.iadd, 1) := by decide +kernel
theorem dL_law_399 : decode cL_law 399 = .ok (.iaload, 1) := by decide +kernel
theorem dL_law_400 : decode cL_law 400 = .ok (.invokevirtual 39, 3) := by decide +kernel
theorem dL_law_403 : decode cL_law 403 = .ok (.if_icmp .eq 932, 3) := by decide +kernel
theorem dL_law_406 : decode cL_law 406 = .ok (.iconst 0, 1) := by decide +kernel
theorem dL_law_407 : decode cL_law 407 = .ok (.ireturn, 1) := by decide +kernel
theorem dL_law_408 : decode cL_law 408 = .ok (.aload_n 1, 1) := by decide +kernel
theorem dL_law_409 : decode cL_law 409 = .ok (.invokevirtual 40, 3) := by decide +kernel
theorem dL_law_412 : decode cL_law 412 = .ok (.aload_n 2, 1) := by decide +kernel
theorem dL_law_413 : decode cL_law 413 = .ok (.invokevirtual 44, 3) := by decide +kernel
theorem dL_law_416 : decode cL_law 416 = .ok (.if_icmp .eq 919, 3) := by decide +kernel
theorem dL_law_419 : decode cL_law 419 = .ok (.iconst 0, 1) := by decide +kernel
theorem dL_law_420 : decode cL_law 420 = .ok (.ireturn, 1) := by decide +kernel
theorem dL_law_421 : decode cL_law 421 = .ok (.aload_n 1, 1) := by decide +kernel
theorem dL_law_422 : decode cL_law 422 = .ok (.aload_n 0, 1) := by decide +kernel
theorem dL_law_423 : decode cL_law 423 = .ok (.iload_n 3, 1) := by decide +kernel
theorem dL_law_424 : decode cL_law 424 = .ok (.iconst 1, 1) := by decide +kernel
theorem dL_law_425 : decode cL_law 425 = .ok (.iadd, 1) := by decide +kernel
theorem dL_law_426 : decode cL_law 426 = .ok (.iaload, 1) := by decide +kernel
theorem dL_law_427 : decode cL_law 427 = .ok (.aload_n 0, 1) := by decide +kernel
theorem dL_law_428 : decode cL_law 428 = .ok (.iload_n 3, 1) := by decide +kernel
theorem dL_law_429 : decode cL_law 429 = .ok (.iconst 2, 1) := by decide +kernel
theorem dL_law_430 : decode cL_law 430 = .ok (.iadd, 1) := by decide +kernel
theorem dL_law_431 : decode cL_law 431 = .ok (.iaload, 1) := by decide +kernel
theorem dL_law_432 : decode cL_law 432 = .ok (.invokevirtual 45, 3) := by decide +kernel
theorem dL_law_435 : decode cL_law 435 = .ok (.aload_n 2, 1) := by decide +kernel
theorem dL_law_436 : decode cL_law 436 = .ok (.aload_n 0, 1) := by decide +kernel
theorem dL_law_437 : decode cL_law 437 = .ok (.iload_n 3, 1) := by decide +kernel
theorem dL_law_438 : decode cL_law 438 = .ok (.iconst 1, 1) := by decide +kernel
theorem dL_law_439 : decode cL_law 439 = .ok (.iadd, 1) := by decide +kernel
theorem dL_law_440 : decode cL_law 440 = .ok (.iaload, 1) := by decide +kernel
theorem dL_law_441 : decode cL_law 441 = .ok (.aload_n 0, 1) := by decide +kernel
theorem dL_law_442 : decode cL_law 442 = .ok (.iload_n 3, 1) := by decide +kernel
theorem dL_law_443 : decode cL_law 443 = .ok (.iconst 2, 1) := by decide +kernel
theorem dL_law_444 : decode cL_law 444 = .ok (.iadd, 1) := by decide +kernel
theorem dL_law_445 : decode cL_law 445 = .ok (.iaload, 1) := by decide +kernel
theorem dL_law_446 : decode cL_law 446 = .ok (.invokevirtual 48, 3) := by decide +kernel
theorem dL_law_449 : decode cL_law 449 = .ok (.if_icmp .eq 886, 3) := by decide +kernel
theorem dL_law_452 : decode cL_law 452 = .ok (.iconst 0, 1) := by decide +kernel
theorem dL_law_453 : decode cL_law 453 = .ok (.ireturn, 1) := by decide +kernel
theorem dL_law_454 : decode cL_law 454 = .ok (.aload_n 1, 1) := by decide +kernel
theorem dL_law_455 : decode cL_law 455 = .ok (.aload_n 0, 1) := by decide +kernel
theorem dL_law_456 : decode cL_law 456 = .ok (.iload_n 3, 1) := by decide +kernel
theorem dL_law_457 : decode cL_law 457 = .ok (.iconst 1, 1) := by decide +kernel
theorem dL_law_458 : decode cL_law 458 = .ok (.iadd, 1) := by decide +kernel
theorem dL_law_459 : decode cL_law 459 = .ok (.iaload, 1) := by decide +kernel
theorem dL_law_460 : decode cL_law 460 = .ok (.aload_n 0, 1) := by decide +kernel
theorem dL_law_461 : decode cL_law 461 = .ok (.iload_n 3, 1) := by decide +kernel
theorem dL_law_462 : decode cL_law 462 = .ok (.iconst 2, 1) := by decide +kernel
theorem dL_law_463 : decode cL_law 463 = .ok (.iadd, 1) := by decide +kernel
theorem dL_law_464 : decode cL_law 464 = .ok (.iaload, 1) := by decide +kernel
theorem dL_law_465 : decode cL_law 465 = .ok (.invokevirtual 49, 3) := by decide +kernel
theorem dL_law_468 : decode cL_law 468 = .ok (.aload_n 2, 1) := by decide +kernel
theorem dL_law_469 : decode cL_law 469 = .ok (.aload_n 0, 1) := by decide +kernel
theorem dL_law_470 : decode cL_law 470 = .ok (.iload_n 3, 1) := by decide +kernel
theorem dL_law_471 : decode cL_law 471 = .ok (.iconst 1, 1) := by decide +kernel
theorem dL_law_472 : decode cL_law 472 = .ok (.iadd, 1) := by decide +kernel
theorem dL_law_473 : decode cL_law 473 = .ok (.iaload, 1) := by decide +kernel
theorem dL_law_474 : decode cL_law 474 = .ok (.aload_n 0, 1) := by decide +kernel
theorem dL_law_475 : decode cL_law 475 = .ok (.iload_n 3, 1) := by decide +kernel
theorem dL_law_476 : decode cL_law 476 = .ok (.iconst 2, 1) := by decide +kernel
theorem dL_law_477 : decode cL_law 477 = .ok (.iadd, 1) := by decide +kernel
theorem dL_law_478 : decode cL_law 478 = .ok (.iaload, 1) := by decide +kernel
theorem dL_law_479 : decode cL_law 479 = .ok (.invokevirtual 52, 3) := by decide +kernel
theorem dL_law_482 : decode cL_law 482 = .ok (.if_icmp .eq 853, 3) := by decide +kernel
theorem dL_law_485 : decode cL_law 485 = .ok (.iconst 0, 1) := by decide +kernel
theorem dL_law_486 : decode cL_law 486 = .ok (.ireturn, 1) := by decide +kernel
theorem dL_law_487 : decode cL_law 487 = .ok (.aload_n 1, 1) := by decide +kernel
theorem dL_law_488 : decode cL_law 488 = .ok (.aload_n 0, 1) := by decide +kernel
theorem dL_law_489 : decode cL_law 489 = .ok (.iload_n 3, 1) := by decide +kernel
theorem dL_law_490 : decode cL_law 490 = .ok (.iconst 1, 1) := by decide +kernel
theorem dL_law_491 : decode cL_law 491 = .ok (.iadd, 1) := by decide +kernel
theorem dL_law_492 : decode cL_law 492 = .ok (.iaload, 1) := by decide +kernel
theorem dL_law_493 : decode cL_law 493 = .ok (.aload_n 0, 1) := by decide +kernel
theorem dL_law_494 : decode cL_law 494 = .ok (.iload_n 3, 1) := by decide +kernel
theorem dL_law_495 : decode cL_law 495 = .ok (.iconst 2, 1) := by decide +kernel
theorem dL_law_496 : decode cL_law 496 = .ok (.iadd, 1) := by decide +kernel
theorem dL_law_497 : decode cL_law 497 = .ok (.iaload, 1) := by decide +kernel
theorem dL_law_498 : decode cL_law 498 = .ok (.invokevirtual 53, 3) := by decide +kernel
theorem dL_law_501 : decode cL_law 501 = .ok (.aload_n 2, 1) := by decide +kernel
theorem dL_law_502 : decode cL_law 502 = .ok (.aload_n 0, 1) := by decide +kernel
theorem dL_law_503 : decode cL_law 503 = .ok (.iload_n 3, 1) := by decide +kernel
theorem dL_law_504 : decode cL_law 504 = .ok (.iconst 1, 1) := by decide +kernel
theorem dL_law_505 : decode cL_law 505 = .ok (.iadd, 1) := by decide +kernel
theorem dL_law_506 : decode cL_law 506 = .ok (.iaload, 1) := by decide +kernel
theorem dL_law_507 : decode cL_law 507 = .ok (.aload_n 0, 1) := by decide +kernel
theorem dL_law_508 : decode cL_law 508 = .ok (.iload_n 3, 1) := by decide +kernel
theorem dL_law_509 : decode cL_law 509 = .ok (.iconst 2, 1) := by decide +kernel
theorem dL_law_510 : decode cL_law 510 = .ok (.iadd, 1) := by decide +kernel
theorem dL_law_511 : decode cL_law 511 = .ok (.iaload, 1) := by decide +kernel
theorem dL_law_512 : decode cL_law 512 = .ok (.invokevirtual 56, 3) := by decide +kernel
theorem dL_law_515 : decode cL_law 515 = .ok (.if_icmp .eq 820, 3) := by decide +kernel
theorem dL_law_518 : decode cL_law 518 = .ok (.iconst 0, 1) := by decide +kernel
theorem dL_law_519 : decode cL_law 519 = .ok (.ireturn, 1) := by decide +kernel
theorem dL_law_520 : decode cL_law 520 = .ok (.aload_n 1, 1) := by decide +kernel
theorem dL_law_521 : decode cL_law 521 = .ok (.aload_n 0, 1) := by decide +kernel
theorem dL_law_522 : decode cL_law 522 = .ok (.iload_n 3, 1) := by decide +kernel
theorem dL_law_523 : decode cL_law 523 = .ok (.iconst 1, 1) := by decide +kernel
theorem dL_law_524 : decode cL_law 524 = .ok (.iadd, 1) := by decide +kernel
theorem dL_law_525 : decode cL_law 525 = .ok (.iaload, 1) := by decide +kernel
theorem dL_law_526 : decode cL_law 526 = .ok (.aload_n 0, 1) := by decide +kernel
theorem dL_law_527 : decode cL_law 527 = .ok (.iload_n 3, 1) := by decide +kernel
theorem dL_law_528 : decode cL_law 528 = .ok (.iconst 2, 1) := by decide +kernel
theorem dL_law_529 : decode cL_law 529 = .ok (.iadd, 1) := by decide +kernel
theorem dL_law_530 : decode cL_law 530 = .ok (.iaload, 1) := by decide +kernel
theorem dL_law_531 : decode cL_law 531 = .ok (.aload_n 0, 1) := by decide +kernel
theorem dL_law_532 : decode cL_law 532 = .ok (.iload_n 3, 1) := by decide +kernel
theorem dL_law_533 : decode cL_law 533 = .ok (.iconst 3, 1) := by decide +kernel
theorem dL_law_534 : decode cL_law 534 = .ok (.iadd, 1) := by decide +kernel
theorem dL_law_535 : decode cL_law 535 = .ok (.iaload, 1) := by decide +kernel
theorem dL_law_536 : decode cL_law 536 = .ok (.invokevirtual 57, 3) := by decide +kernel
theorem dL_law_539 : decode cL_law 539 = .ok (.aload_n 2, 1) := by decide +kernel
theorem dL_law_540 : decode cL_law 540 = .ok (.aload_n 0, 1) := by decide +kernel
theorem dL_law_541 : decode cL_law 541 = .ok (.iload_n 3, 1) := by decide +kernel
theorem dL_law_542 : decode cL_law 542 = .ok (.iconst 1, 1) := by decide +kernel
theorem dL_law_543 : decode cL_law 543 = .ok (.iadd, 1) := by decide +kernel
theorem dL_law_544 : decode cL_law 544 = .ok (.iaload, 1) := by decide +kernel
theorem dL_law_545 : decode cL_law 545 = .ok (.aload_n 0, 1) := by decide +kernel
theorem dL_law_546 : decode cL_law 546 = .ok (.iload_n 3, 1) := by decide +kernel
theorem dL_law_547 : decode cL_law 547 = .ok (.iconst 2, 1) := by decide +kernel
theorem dL_law_548 : decode cL_law 548 = .ok (.iadd, 1) := by decide +kernel
theorem dL_law_549 : decode cL_law 549 = .ok (.iaload, 1) := by decide +kernel
theorem dL_law_550 : decode cL_law 550 = .ok (.aload_n 0, 1) := by decide +kernel
theorem dL_law_551 : decode cL_law 551 = .ok (.iload_n 3, 1) := by decide +kernel
theorem dL_law_552 : decode cL_law 552 = .ok (.iconst 3, 1) := by decide +kernel
theorem dL_law_553 : decode cL_law 553 = .ok (.iadd, 1) := by decide +kernel
theorem dL_law_554 : decode cL_law 554 = .ok (.iaload, 1) := by decide +kernel
theorem dL_law_555 : decode cL_law 555 = .ok (.invokevirtual 60, 3) := by decide +kernel
theorem dL_law_558 : decode cL_law 558 = .ok (.if_icmp .eq 777, 3) := by decide +kernel
theorem dL_law_561 : decode cL_law 561 = .ok (.iconst 0, 1) := by decide +kernel
theorem dL_law_562 : decode cL_law 562 = .ok (.ireturn, 1) := by decide +kernel
theorem dL_law_563 : decode cL_law 563 = .ok (.aload_n 1, 1) := by decide +kernel
theorem dL_law_564 : decode cL_law 564 = .ok (.aload_n 0, 1) := by decide +kernel
theorem dL_law_565 : decode cL_law 565 = .ok (.iload_n 3, 1) := by decide +kernel
theorem dL_law_566 : decode cL_law 566 = .ok (.iconst 1, 1) := by decide +kernel
theorem dL_law_567 : decode cL_law 567 = .ok (.iadd, 1) := by decide +kernel
theorem dL_law_568 : decode cL_law 568 = .ok (.iaload, 1) := by decide +kernel
theorem dL_law_569 : decode cL_law 569 = .ok (.i2l, 1) := by decide +kernel
theorem dL_law_570 : decode cL_law 570 = .ok (.bipush 32, 2) := by decide +kernel
theorem dL_law_572 : decode cL_law 572 = .ok (.lshl, 1) := by decide +kernel
theorem dL_law_573 : decode cL_law 573 = .ok (.aload_n 0, 1) := by decide +kernel
theorem dL_law_574 : decode cL_law 574 = .ok (.iload_n 3, 1) := by decide +kernel
theorem dL_law_575 : decode cL_law 575 = .ok (.iconst 2, 1) := by decide +kernel
theorem dL_law_576 : decode cL_law 576 = .ok (.iadd, 1) := by decide +kernel
theorem dL_law_577 : decode cL_law 577 = .ok (.iaload, 1) := by decide +kernel
theorem dL_law_578 : decode cL_law 578 = .ok (.i2l, 1) := by decide +kernel
theorem dL_law_579 : decode cL_law 579 = .ok (.ldc2_w 61, 3) := by decide +kernel
theorem dL_law_582 : decode cL_law 582 = .ok (.land, 1) := by decide +kernel
theorem dL_law_583 : decode cL_law 583 = .ok (.lor, 1) := by decide +kernel
theorem dL_law_584 : decode cL_law 584 = .ok (.aload_n 0, 1) := by decide +kernel
theorem dL_law_585 : decode cL_law 585 = .ok (.iload_n 3, 1) := by decide +kernel
theorem dL_law_586 : decode cL_law 586 = .ok (.iconst 3, 1) := by decide +kernel
theorem dL_law_587 : decode cL_law 587 = .ok (.iadd, 1) := by decide +kernel
theorem dL_law_588 : decode cL_law 588 = .ok (.iaload, 1) := by decide +kernel
theorem dL_law_589 : decode cL_law 589 = .ok (.invokevirtual 63, 3) := by decide +kernel
theorem dL_law_592 : decode cL_law 592 = .ok (.aload_n 2, 1) := by decide +kernel
theorem dL_law_593 : decode cL_law 593 = .ok (.aload_n 0, 1) := by decide +kernel
theorem dL_law_594 : decode cL_law 594 = .ok (.iload_n 3, 1) := by decide +kernel
theorem dL_law_595 : decode cL_law 595 = .ok (.iconst 1, 1) := by decide +kernel
theorem dL_law_596 : decode cL_law 596 = .ok (.iadd, 1) := by decide +kernel
theorem dL_law_597 : decode cL_law 597 = .ok (.iaload, 1) := by decide +kernel
theorem dL_law_598 : decode cL_law 598 = .ok (.i2l, 1) := by decide +kernel
theorem dL_law_599 : decode cL_law 599 = .ok (.bipush 32, 2) := by decide +kernel
theorem dL_law_601 : decode cL_law 601 = .ok (.lshl, 1) := by decide +kernel
theorem dL_law_602 : decode cL_law 602 = .ok (.aload_n 0, 1) := by decide +kernel
theorem dL_law_603 : decode cL_law 603 = .ok (.iload_n 3, 1) := by decide +kernel
theorem dL_law_604 : decode cL_law 604 = .ok (.iconst 2, 1) := by decide +kernel
theorem dL_law_605 : decode cL_law 605 = .ok (.iadd, 1) := by decide +kernel
theorem dL_law_606 : decode cL_law 606 = .ok (.iaload, 1) := by decide +kernel
theorem dL_law_607 : decode cL_law 607 = .ok (.i2l, 1) := by decide +kernel
theorem dL_law_608 : decode cL_law 608 = .ok (.ldc2_w 61, 3) := by decide +kernel
theorem dL_law_611 : decode cL_law 611 = .ok (.land, 1) := by decide +kernel
theorem dL_law_612 : decode cL_law 612 = .ok (.lor, 1) := by decide +kernel
theorem dL_law_613 : decode cL_law 613 = .ok (.aload_n 0, 1) := by decide +kernel
theorem dL_law_614 : decode cL_law 614 = .ok (.iload_n 3, 1) := by decide +kernel
theorem dL_law_615 : decode cL_law 615 = .ok (.iconst 3, 1) := by decide +kernel
theorem dL_law_616 : decode cL_law 616 = .ok (.iadd, 1) := by decide +kernel
theorem dL_law_617 : decode cL_law 617 = .ok (.iaload, 1) := by decide +kernel
theorem dL_law_618 : decode cL_law 618 = .ok (.invokevirtual 67, 3) := by decide +kernel
theorem dL_law_621 : decode cL_law 621 = .ok (.if_icmp .eq 714, 3) := by decide +kernel
theorem dL_law_624 : decode cL_law 624 = .ok (.iconst 0, 1) := by decide +kernel
theorem dL_law_625 : decode cL_law 625 = .ok (.ireturn, 1) := by decide +kernel
theorem dL_law_626 : decode cL_law 626 = .ok (.aload_n 1, 1) := by decide +kernel
theorem dL_law_627 : decode cL_law 627 = .ok (.aload_n 0, 1) := by decide +kernel
theorem dL_law_628 : decode cL_law 628 = .ok (.iload_n 3, 1) := by decide +kernel
theorem dL_law_629 : decode cL_law 629 = .ok (.iconst 1, 1) := by decide +kernel
theorem dL_law_630 : decode cL_law 630 = .ok (.iadd, 1) := by decide +kernel
theorem dL_law_631 : decode cL_law 631 = .ok (.iaload, 1) := by decide +kernel
theorem dL_law_632 : decode cL_law 632 = .ok (.invokevirtual 68, 3) := by decide +kernel
theorem dL_law_635 : decode cL_law 635 = .ok (.aload_n 2, 1) := by decide +kernel
theorem dL_law_636 : decode cL_law 636 = .ok (.aload_n 0, 1) := by decide +kernel
theorem dL_law_637 : decode cL_law 637 = .ok (.iload_n 3, 1) := by decide +kernel
theorem dL_law_638 : decode cL_law 638 = .ok (.iconst 1, 1) := by decide +kernel
theorem dL_law_639 : decode cL_law 639 = .ok (.iadd, 1) := by decide +kernel
theorem dL_law_640 : decode cL_law 640 = .ok (.iaload, 1) := by decide +kernel
theorem dL_law_641 : decode cL_law 641 = .ok (.invokevirtual 71, 3) := by decide +kernel
theorem dL_law_644 : decode cL_law 644 = .ok (.if_icmp .eq 691, 3) := by decide +kernel
theorem dL_law_647 : decode cL_law 647 = .ok (.iconst 0, 1) := by decide +kernel
theorem dL_law_648 : decode cL_law 648 = .ok (.ireturn, 1) := by decide +kernel
theorem dL_law_649 : decode cL_law 649 = .ok (.aload_n 1, 1) := by decide +kernel
theorem dL_law_650 : decode cL_law 650 = .ok (.aload_n 0, 1) := by decide +kernel
theorem dL_law_651 : decode cL_law 651 = .ok (.iload_n 3, 1) := by decide +kernel
theorem dL_law_652 : decode cL_law 652 = .ok (.iconst 1, 1) := by decide +kernel
theorem dL_law_653 : decode cL_law 653 = .ok (.iadd, 1) := by decide +kernel
theorem dL_law_654 : decode cL_law 654 = .ok (.iaload, 1) := by decide +kernel
theorem dL_law_655 : decode cL_law 655 = .ok (.invokevirtual 72, 3) := by decide +kernel
theorem dL_law_658 : decode cL_law 658 = .ok (.aload_n 2, 1) := by decide +kernel
theorem dL_law_659 : decode cL_law 659 = .ok (.aload_n 0, 1) := by decide +kernel
theorem dL_law_660 : decode cL_law 660 = .ok (.iload_n 3, 1) := by decide +kernel
theorem dL_law_661 : decode cL_law 661 = .ok (.iconst 1, 1) := by decide +kernel
theorem dL_law_662 : decode cL_law 662 = .ok (.iadd, 1) := by decide +kernel
theorem dL_law_663 : decode cL_law 663 = .ok (.iaload, 1) := by decide +kernel
theorem dL_law_664 : decode cL_law 664 = .ok (.invokevirtual 75, 3) := by decide +kernel
theorem dL_law_667 : decode cL_law 667 = .ok (.if_icmp .eq 668, 3) := by decide +kernel
theorem dL_law_670 : decode cL_law 670 = .ok (.iconst 0, 1) := by decide +kernel
theorem dL_law_671 : decode cL_law 671 = .ok (.ireturn, 1) := by decide +kernel
theorem dL_law_672 : decode cL_law 672 = .ok (.aload_n 1, 1) := by decide +kernel
theorem dL_law_673 : decode cL_law 673 = .ok (.aload_n 0, 1) := by decide +kernel
theorem dL_law_674 : decode cL_law 674 = .ok (.iload_n 3, 1) := by decide +kernel
theorem dL_law_675 : decode cL_law 675 = .ok (.iconst 1, 1) := by decide +kernel
theorem dL_law_676 : decode cL_law 676 = .ok (.iadd, 1) := by decide +kernel
theorem dL_law_677 : decode cL_law 677 = .ok (.iaload, 1) := by decide +kernel
theorem dL_law_678 : decode cL_law 678 = .ok (.invokevirtual 76, 3) := by decide +kernel
theorem dL_law_681 : decode cL_law 681 = .ok (.aload_n 2, 1) := by decide +kernel
theorem dL_law_682 : decode cL_law 682 = .ok (.aload_n 0, 1) := by decide +kernel
theorem dL_law_683 : decode cL_law 683 = .ok (.iload_n 3, 1) := by decide +kernel
theorem dL_law_684 : decode cL_law 684 = .ok (.iconst 1, 1) := by decide +kernel
theorem dL_law_685 : decode cL_law 685 = .ok (.iadd, 1) := by decide +kernel
theorem dL_law_686 : decode cL_law 686 = .ok (.iaload, 1) := by decide +kernel
theorem dL_law_687 : decode cL_law 687 = .ok (.invokevirtual 79, 3) := by decide +kernel
theorem dL_law_690 : decode cL_law 690 = .ok (.if_icmp .eq 645, 3) := by decide +kernel
theorem dL_law_693 : decode cL_law 693 = .ok (.iconst 0, 1) := by decide +kernel
theorem dL_law_694 : decode cL_law 694 = .ok (.ireturn, 1) := by decide +kernel
theorem dL_law_695 : decode cL_law 695 = .ok (.aload_n 1, 1) := by decide +kernel
theorem dL_law_696 : decode cL_law 696 = .ok (.aload_n 0, 1) := by decide +kernel
theorem dL_law_697 : decode cL_law 697 = .ok (.iload_n 3, 1) := by decide +kernel
theorem dL_law_698 : decode cL_law 698 = .ok (.iconst 1, 1) := by decide +kernel
theorem dL_law_699 : decode cL_law 699 = .ok (.iadd, 1) := by decide +kernel
theorem dL_law_700 : decode cL_law 700 = .ok (.iaload, 1) := by decide +kernel
theorem dL_law_701 : decode cL_law 701 = .ok (.invokevirtual 80, 3) := by decide +kernel
theorem dL_law_704 : decode cL_law 704 = .ok (.aload_n 2, 1) := by decide +kernel
theorem dL_law_705 : decode cL_law 705 = .ok (.aload_n 0, 1) := by decide +kernel
theorem dL_law_706 : decode cL_law 706 = .ok (.iload_n 3, 1) := by decide +kernel
theorem dL_law_707 : decode cL_law 707 = .ok (.iconst 1, 1) := by decide +kernel
theorem dL_law_708 : decode cL_law 708 = .ok (.iadd, 1) := by decide +kernel
theorem dL_law_709 : decode cL_law 709 = .ok (.iaload, 1) := by decide +kernel
theorem dL_law_710 : decode cL_law 710 = .ok (.invokevirtual 83, 3) := by decide +kernel
theorem dL_law_713 : decode cL_law 713 = .ok (.if_icmp .eq 622, 3) := by decide +kernel
theorem dL_law_716 : decode cL_law 716 = .ok (.iconst 0, 1) := by decide +kernel
theorem dL_law_717 : decode cL_law 717 = .ok (.ireturn, 1) := by decide +kernel
theorem dL_law_718 : decode cL_law 718 = .ok (.aload_n 1, 1) := by decide +kernel
theorem dL_law_719 : decode cL_law 719 = .ok (.aload_n 0, 1) := by decide +kernel
theorem dL_law_720 : decode cL_law 720 = .ok (.iload_n 3, 1) := by decide +kernel
theorem dL_law_721 : decode cL_law 721 = .ok (.iconst 1, 1) := by decide +kernel
theorem dL_law_722 : decode cL_law 722 = .ok (.iadd, 1) := by decide +kernel
theorem dL_law_723 : decode cL_law 723 = .ok (.iaload, 1) := by decide +kernel
theorem dL_law_724 : decode cL_law 724 = .ok (.invokevirtual 84, 3) := by decide +kernel
theorem dL_law_727 : decode cL_law 727 = .ok (.aload_n 2, 1) := by decide +kernel
theorem dL_law_728 : decode cL_law 728 = .ok (.aload_n 0, 1) := by decide +kernel
theorem dL_law_729 : decode cL_law 729 = .ok (.iload_n 3, 1) := by decide +kernel
theorem dL_law_730 : decode cL_law 730 = .ok (.iconst 1, 1) := by decide +kernel
theorem dL_law_731 : decode cL_law 731 = .ok (.iadd, 1) := by decide +kernel
theorem dL_law_732 : decode cL_law 732 = .ok (.iaload, 1) := by decide +kernel
theorem dL_law_733 : decode cL_law 733 = .ok (.invokevirtual 87, 3) := by decide +kernel
theorem dL_law_736 : decode cL_law 736 = .ok (.if_icmp .eq 599, 3) := by decide +kernel
theorem dL_law_739 : decode cL_law 739 = .ok (.iconst 0, 1) := by decide +kernel
theorem dL_law_740 : decode cL_law 740 = .ok (.ireturn, 1) := by decide +kernel
theorem dL_law_741 : decode cL_law 741 = .ok (.aload_n 1, 1) := by decide +kernel
theorem dL_law_742 : decode cL_law 742 = .ok (.aload_n 0, 1) := by decide +kernel
theorem dL_law_743 : decode cL_law 743 = .ok (.iload_n 3, 1) := by decide +kernel
theorem dL_law_744 : decode cL_law 744 = .ok (.iconst 1, 1) := by decide +kernel
theorem dL_law_745 : decode cL_law 745 = .ok (.iadd, 1) := by decide +kernel
theorem dL_law_746 : decode cL_law 746 = .ok (.iaload, 1) := by decide +kernel
theorem dL_law_747 : decode cL_law 747 = .ok (.aload_n 0, 1) := by decide +kernel
theorem dL_law_748 : decode cL_law 748 = .ok (.iload_n 3, 1) := by decide +kernel
theorem dL_law_749 : decode cL_law 749 = .ok (.iconst 2, 1) := by decide +kernel
theorem dL_law_750 : decode cL_law 750 = .ok (.iadd, 1) := by decide +kernel
theorem dL_law_751 : decode cL_law 751 = .ok (.iaload, 1) := by decide +kernel
theorem dL_law_752 : decode cL_law 752 = .ok (.invokevirtual 88, 3) := by decide +kernel
theorem dL_law_755 : decode cL_law 755 = .ok (.aload_n 2, 1) := by decide +kernel
theorem dL_law_756 : decode cL_law 756 = .ok (.aload_n 0, 1) := by decide +kernel
theorem dL_law_757 : decode cL_law 757 = .ok (.iload_n 3, 1) := by decide +kernel
theorem dL_law_758 : decode cL_law 758 = .ok (.iconst 1, 1) := by decide +kernel
theorem dL_law_759 : decode cL_law 759 = .ok (.iadd, 1) := by decide +kernel
theorem dL_law_760 : decode cL_law 760 = .ok (.iaload, 1) := by decide +kernel
theorem dL_law_761 : decode cL_law 761 = .ok (.aload_n 0, 1) := by decide +kernel
theorem dL_law_762 : decode cL_law 762 = .ok (.iload_n 3, 1) := by decide +kernel
theorem dL_law_763 : decode cL_law 763 = .ok (.iconst 2, 1) := by decide +kernel
theorem dL_law_764 : decode cL_law 764 = .ok (.iadd, 1) := by decide +kernel
theorem dL_law_765 : decode cL_law 765 = .ok (.iaload, 1) := by decide +kernel
theorem dL_law_766 : decode cL_law 766 = .ok (.invokevirtual 91, 3) := by decide +kernel
theorem dL_law_769 : decode cL_law 769 = .ok (.if_icmp .eq 566, 3) := by decide +kernel
theorem dL_law_772 : decode cL_law 772 = .ok (.iconst 0, 1) := by decide +kernel
theorem dL_law_773 : decode cL_law 773 = .ok (.ireturn, 1) := by decide +kernel
theorem dL_law_774 : decode cL_law 774 = .ok (.aload_n 1, 1) := by decide +kernel
theorem dL_law_775 : decode cL_law 775 = .ok (.aload_n 0, 1) := by decide +kernel
theorem dL_law_776 : decode cL_law 776 = .ok (.iload_n 3, 1) := by decide +kernel
theorem dL_law_777 : decode cL_law 777 = .ok (.iconst 1, 1) := by decide +kernel
theorem dL_law_778 : decode cL_law 778 = .ok (.iadd, 1) := by decide +kernel
theorem dL_law_779 : decode cL_law 779 = .ok (.iaload, 1) := by decide +kernel
theorem dL_law_780 : decode cL_law 780 = .ok (.aload_n 0, 1) := by decide +kernel
theorem dL_law_781 : decode cL_law 781 = .ok (.iload_n 3, 1) := by decide +kernel
theorem dL_law_782 : decode cL_law 782 = .ok (.iconst 2, 1) := by decide +kernel
theorem dL_law_783 : decode cL_law 783 = .ok (.iadd, 1) := by decide +kernel
theorem dL_law_784 : decode cL_law 784 = .ok (.iaload, 1) := by decide +kernel
theorem dL_law_785 : decode cL_law 785 = .ok (.invokevirtual 92, 3) := by decide +kernel
theorem dL_law_788 : decode cL_law 788 = .ok (.aload_n 2, 1) := by decide +kernel
theorem dL_law_789 : decode cL_law 789 = .ok (.aload_n 0, 1) := by decide +kernel
theorem dL_law_790 : decode cL_law 790 = .ok (.iload_n 3, 1) := by decide +kernel
theorem dL_law_791 : decode cL_law 791 = .ok (.iconst 1, 1) := by decide +kernel
theorem dL_law_792 : decode cL_law 792 = .ok (.iadd, 1) := by decide +kernel
theorem dL_law_793 : decode cL_law 793 = .ok (.iaload, 1) := by decide +kernel
theorem dL_law_794 : decode cL_law 794 = .ok (.aload_n 0, 1) := by decide +kernel
theorem dL_law_795 : decode cL_law 795 = .ok (.iload_n 3, 1) := by decide +kernel
theorem dL_law_796 : decode cL_law 796 = .ok (.iconst 2, 1) := by decide +kernel
theorem dL_law_797 : decode cL_law 797 = .ok (.iadd, 1) := by decide +kernel
theorem dL_law_798 : decode cL_law 798 = .ok (.iaload, 1) := by decide +kernel
theorem dL_law_799 : decode cL_law 799 = .ok (.invokevirtual 96, 3) := by decide +kernel
theorem dL_law_802 : decode cL_law 802 = .ok (.lcmp, 1) := by decide +kernel
theorem dL_law_803 : decode cL_law 803 = .ok (.ifCond .eq 532, 3) := by decide +kernel
theorem dL_law_806 : decode cL_law 806 = .ok (.iconst 0, 1) := by decide +kernel
theorem dL_law_807 : decode cL_law 807 = .ok (.ireturn, 1) := by decide +kernel
theorem dL_law_808 : decode cL_law 808 = .ok (.aload_n 1, 1) := by decide +kernel
theorem dL_law_809 : decode cL_law 809 = .ok (.aload_n 0, 1) := by decide +kernel
theorem dL_law_810 : decode cL_law 810 = .ok (.iload_n 3, 1) := by decide +kernel
theorem dL_law_811 : decode cL_law 811 = .ok (.iconst 1, 1) := by decide +kernel
theorem dL_law_812 : decode cL_law 812 = .ok (.iadd, 1) := by decide +kernel
theorem dL_law_813 : decode cL_law 813 = .ok (.iaload, 1) := by decide +kernel
theorem dL_law_814 : decode cL_law 814 = .ok (.aload_n 0, 1) := by decide +kernel
theorem dL_law_815 : decode cL_law 815 = .ok (.iload_n 3, 1) := by decide +kernel
theorem dL_law_816 : decode cL_law 816 = .ok (.iconst 2, 1) := by decide +kernel
theorem dL_law_817 : decode cL_law 817 = .ok (.iadd, 1) := by decide +kernel
theorem dL_law_818 : decode cL_law 818 = .ok (.iaload, 1) := by decide +kernel
theorem dL_law_819 : decode cL_law 819 = .ok (.invokevirtual 97, 3) := by decide +kernel
theorem dL_law_822 : decode cL_law 822 = .ok (.aload_n 2, 1) := by decide +kernel
theorem dL_law_823 : decode cL_law 823 = .ok (.aload_n 0, 1) := by decide +kernel
theorem dL_law_824 : decode cL_law 824 = .ok (.iload_n 3, 1) := by decide +kernel
theorem dL_law_825 : decode cL_law 825 = .ok (.iconst 1, 1) := by decide +kernel
theorem dL_law_826 : decode cL_law 826 = .ok (.iadd, 1) := by decide +kernel
theorem dL_law_827 : decode cL_law 827 = .ok (.iaload, 1) := by decide +kernel
theorem dL_law_828 : decode cL_law 828 = .ok (.aload_n 0, 1) := by decide +kernel
theorem dL_law_829 : decode cL_law 829 = .ok (.iload_n 3, 1) := by decide +kernel
theorem dL_law_830 : decode cL_law 830 = .ok (.iconst 2, 1) := by decide +kernel
theorem dL_law_831 : decode cL_law 831 = .ok (.iadd, 1) := by decide +kernel
theorem dL_law_832 : decode cL_law 832 = .ok (.iaload, 1) := by decide +kernel
theorem dL_law_833 : decode cL_law 833 = .ok (.invokevirtual 100, 3) := by decide +kernel
theorem dL_law_836 : decode cL_law 836 = .ok (.if_icmp .eq 499, 3) := by decide +kernel
theorem dL_law_839 : decode cL_law 839 = .ok (.iconst 0, 1) := by decide +kernel
theorem dL_law_840 : decode cL_law 840 = .ok (.ireturn, 1) := by decide +kernel
theorem dL_law_841 : decode cL_law 841 = .ok (.aload_n 1, 1) := by decide +kernel
theorem dL_law_842 : decode cL_law 842 = .ok (.aload_n 0, 1) := by decide +kernel
theorem dL_law_843 : decode cL_law 843 = .ok (.iload_n 3, 1) := by decide +kernel
theorem dL_law_844 : decode cL_law 844 = .ok (.iconst 1, 1) := by decide +kernel
theorem dL_law_845 : decode cL_law 845 = .ok (.iadd, 1) := by decide +kernel
theorem dL_law_846 : decode cL_law 846 = .ok (.iaload, 1) := by decide +kernel
theorem dL_law_847 : decode cL_law 847 = .ok (.invokevirtual 101, 3) := by decide +kernel
theorem dL_law_850 : decode cL_law 850 = .ok (.aload_n 2, 1) := by decide +kernel
theorem dL_law_851 : decode cL_law 851 = .ok (.aload_n 0, 1) := by decide +kernel
theorem dL_law_852 : decode cL_law 852 = .ok (.iload_n 3, 1) := by decide +kernel
theorem dL_law_853 : decode cL_law 853 = .ok (.iconst 1, 1) := by decide +kernel
theorem dL_law_854 : decode cL_law 854 = .ok (.iadd, 1) := by decide +kernel
theorem dL_law_855 : decode cL_law 855 = .ok (.iaload, 1) := by decide +kernel
theorem dL_law_856 : decode cL_law 856 = .ok (.invokevirtual 104, 3) := by decide +kernel
theorem dL_law_859 : decode cL_law 859 = .ok (.if_icmp .eq 476, 3) := by decide +kernel
theorem dL_law_862 : decode cL_law 862 = .ok (.iconst 0, 1) := by decide +kernel
theorem dL_law_863 : decode cL_law 863 = .ok (.ireturn, 1) := by decide +kernel
theorem dL_law_864 : decode cL_law 864 = .ok (.aload_n 1, 1) := by decide +kernel
theorem dL_law_865 : decode cL_law 865 = .ok (.aload_n 0, 1) := by decide +kernel
theorem dL_law_866 : decode cL_law 866 = .ok (.iload_n 3, 1) := by decide +kernel
theorem dL_law_867 : decode cL_law 867 = .ok (.iconst 1, 1) := by decide +kernel
theorem dL_law_868 : decode cL_law 868 = .ok (.iadd, 1) := by decide +kernel
theorem dL_law_869 : decode cL_law 869 = .ok (.iaload, 1) := by decide +kernel
theorem dL_law_870 : decode cL_law 870 = .ok (.invokevirtual 105, 3) := by decide +kernel
theorem dL_law_873 : decode cL_law 873 = .ok (.aload_n 2, 1) := by decide +kernel
theorem dL_law_874 : decode cL_law 874 = .ok (.aload_n 0, 1) := by decide +kernel
theorem dL_law_875 : decode cL_law 875 = .ok (.iload_n 3, 1) := by decide +kernel
theorem dL_law_876 : decode cL_law 876 = .ok (.iconst 1, 1) := by decide +kernel
theorem dL_law_877 : decode cL_law 877 = .ok (.iadd, 1) := by decide +kernel
theorem dL_law_878 : decode cL_law 878 = .ok (.iaload, 1) := by decide +kernel
theorem dL_law_879 : decode cL_law 879 = .ok (.invokevirtual 108, 3) := by decide +kernel
theorem dL_law_882 : decode cL_law 882 = .ok (.if_icmp .eq 453, 3) := by decide +kernel
theorem dL_law_885 : decode cL_law 885 = .ok (.iconst 0, 1) := by decide +kernel
theorem dL_law_886 : decode cL_law 886 = .ok (.ireturn, 1) := by decide +kernel
theorem dL_law_887 : decode cL_law 887 = .ok (.aload_n 1, 1) := by decide +kernel
theorem dL_law_888 : decode cL_law 888 = .ok (.aload_n 0, 1) := by decide +kernel
theorem dL_law_889 : decode cL_law 889 = .ok (.iload_n 3, 1) := by decide +kernel
theorem dL_law_890 : decode cL_law 890 = .ok (.iconst 1, 1) := by decide +kernel
theorem dL_law_891 : decode cL_law 891 = .ok (.iadd, 1) := by decide +kernel
theorem dL_law_892 : decode cL_law 892 = .ok (.iaload, 1) := by decide +kernel
theorem dL_law_893 : decode cL_law 893 = .ok (.aload_n 0, 1) := by decide +kernel
theorem dL_law_894 : decode cL_law 894 = .ok (.iload_n 3, 1) := by decide +kernel
theorem dL_law_895 : decode cL_law 895 = .ok (.iconst 2, 1) := by decide +kernel
theorem dL_law_896 : decode cL_law 896 = .ok (.iadd, 1) := by decide +kernel
theorem dL_law_897 : decode cL_law 897 = .ok (.iaload, 1) := by decide +kernel
theorem dL_law_898 : decode cL_law 898 = .ok (.invokevirtual 109, 3) := by decide +kernel
theorem dL_law_901 : decode cL_law 901 = .ok (.aload_n 2, 1) := by decide +kernel
theorem dL_law_902 : decode cL_law 902 = .ok (.aload_n 0, 1) := by decide +kernel
theorem dL_law_903 : decode cL_law 903 = .ok (.iload_n 3, 1) := by decide +kernel
theorem dL_law_904 : decode cL_law 904 = .ok (.iconst 1, 1) := by decide +kernel
theorem dL_law_905 : decode cL_law 905 = .ok (.iadd, 1) := by decide +kernel
theorem dL_law_906 : decode cL_law 906 = .ok (.iaload, 1) := by decide +kernel
theorem dL_law_907 : decode cL_law 907 = .ok (.aload_n 0, 1) := by decide +kernel
theorem dL_law_908 : decode cL_law 908 = .ok (.iload_n 3, 1) := by decide +kernel
theorem dL_law_909 : decode cL_law 909 = .ok (.iconst 2, 1) := by decide +kernel
theorem dL_law_910 : decode cL_law 910 = .ok (.iadd, 1) := by decide +kernel
theorem dL_law_911 : decode cL_law 911 = .ok (.iaload, 1) := by decide +kernel
theorem dL_law_912 : decode cL_law 912 = .ok (.invokevirtual 112, 3) := by decide +kernel
theorem dL_law_915 : decode cL_law 915 = .ok (.if_icmp .eq 420, 3) := by decide +kernel
theorem dL_law_918 : decode cL_law 918 = .ok (.iconst 0, 1) := by decide +kernel
theorem dL_law_919 : decode cL_law 919 = .ok (.ireturn, 1) := by decide +kernel
theorem dL_law_920 : decode cL_law 920 = .ok (.aload_n 1, 1) := by decide +kernel
theorem dL_law_921 : decode cL_law 921 = .ok (.aload_n 0, 1) := by decide +kernel
theorem dL_law_922 : decode cL_law 922 = .ok (.iload_n 3, 1) := by decide +kernel
theorem dL_law_923 : decode cL_law 923 = .ok (.iconst 1, 1) := by decide +kernel
theorem dL_law_924 : decode cL_law 924 = .ok (.iadd, 1) := by decide +kernel
theorem dL_law_925 : decode cL_law 925 = .ok (.iaload, 1) := by decide +kernel
theorem dL_law_926 : decode cL_law 926 = .ok (.invokevirtual 113, 3) := by decide +kernel
theorem dL_law_929 : decode cL_law 929 = .ok (.aload_n 2, 1) := by decide +kernel
theorem dL_law_930 : decode cL_law 930 = .ok (.aload_n 0, 1) := by decide +kernel
theorem dL_law_931 : decode cL_law 931 = .ok (.iload_n 3, 1) := by decide +kernel
theorem dL_law_932 : decode cL_law 932 = .ok (.iconst 1, 1) := by decide +kernel
theorem dL_law_933 : decode cL_law 933 = .ok (.iadd, 1) := by decide +kernel
theorem dL_law_934 : decode cL_law 934 = .ok (.iaload, 1) := by decide +kernel
theorem dL_law_935 : decode cL_law 935 = .ok (.invokevirtual 116, 3) := by decide +kernel
theorem dL_law_938 : decode cL_law 938 = .ok (.if_icmp .eq 397, 3) := by decide +kernel
theorem dL_law_941 : decode cL_law 941 = .ok (.iconst 0, 1) := by decide +kernel
theorem dL_law_942 : decode cL_law 942 = .ok (.ireturn, 1) := by decide +kernel
theorem dL_law_943 : decode cL_law 943 = .ok (.aload_n 1, 1) := by decide +kernel
theorem dL_law_944 : decode cL_law 944 = .ok (.aload_n 0, 1) := by decide +kernel
theorem dL_law_945 : decode cL_law 945 = .ok (.iload_n 3, 1) := by decide +kernel
theorem dL_law_946 : decode cL_law 946 = .ok (.iconst 1, 1) := by decide +kernel
theorem dL_law_947 : decode cL_law 947 = .ok (.iadd, 1) := by decide +kernel
theorem dL_law_948 : decode cL_law 948 = .ok (.iaload, 1) := by decide +kernel
theorem dL_law_949 : decode cL_law 949 = .ok (.aload_n 0, 1) := by decide +kernel
theorem dL_law_950 : decode cL_law 950 = .ok (.iload_n 3, 1) := by decide +kernel
theorem dL_law_951 : decode cL_law 951 = .ok (.iconst 2, 1) := by decide +kernel
theorem dL_law_952 : decode cL_law 952 = .ok (.iadd, 1) := by decide +kernel
theorem dL_law_953 : decode cL_law 953 = .ok (.iaload, 1) := by decide +kernel
theorem dL_law_954 : decode cL_law 954 = .ok (.aload_n 0, 1) := by decide +kernel
theorem dL_law_955 : decode cL_law 955 = .ok (.iload_n 3, 1) := by decide +kernel
theorem dL_law_956 : decode cL_law 956 = .ok (.iconst 3, 1) := by decide +kernel
theorem dL_law_957 : decode cL_law 957 = .ok (.iadd, 1) := by decide +kernel
theorem dL_law_958 : decode cL_law 958 = .ok (.iaload, 1) := by decide +kernel
theorem dL_law_959 : decode cL_law 959 = .ok (.invokevirtual 117, 3) := by decide +kernel
theorem dL_law_962 : decode cL_law 962 = .ok (.aload_n 2, 1) := by decide +kernel
theorem dL_law_963 : decode cL_law 963 = .ok (.aload_n 0, 1) := by decide +kernel
theorem dL_law_964 : decode cL_law 964 = .ok (.iload_n 3, 1) := by decide +kernel
theorem dL_law_965 : decode cL_law 965 = .ok (.iconst 1, 1) := by decide +kernel
theorem dL_law_966 : decode cL_law 966 = .ok (.iadd, 1) := by decide +kernel
theorem dL_law_967 : decode cL_law 967 = .ok (.iaload, 1) := by decide +kernel
theorem dL_law_968 : decode cL_law 968 = .ok (.aload_n 0, 1) := by decide +kernel
theorem dL_law_969 : decode cL_law 969 = .ok (.iload_n 3, 1) := by decide +kernel
theorem dL_law_970 : decode cL_law 970 = .ok (.iconst 2, 1) := by decide +kernel
theorem dL_law_971 : decode cL_law 971 = .ok (.iadd, 1) := by decide +kernel
theorem dL_law_972 : decode cL_law 972 = .ok (.iaload, 1) := by decide +kernel
theorem dL_law_973 : decode cL_law 973 = .ok (.aload_n 0, 1) := by decide +kernel
theorem dL_law_974 : decode cL_law 974 = .ok (.iload_n 3, 1) := by decide +kernel
theorem dL_law_975 : decode cL_law 975 = .ok (.iconst 3, 1) := by decide +kernel
theorem dL_law_976 : decode cL_law 976 = .ok (.iadd, 1) := by decide +kernel
theorem dL_law_977 : decode cL_law 977 = .ok (.iaload, 1) := by decide +kernel
theorem dL_law_978 : decode cL_law 978 = .ok (.invokevirtual 120, 3) := by decide +kernel
theorem dL_law_981 : decode cL_law 981 = .ok (.if_icmp .eq 354, 3) := by decide +kernel
theorem dL_law_984 : decode cL_law 984 = .ok (.iconst 0, 1) := by decide +kernel
theorem dL_law_985 : decode cL_law 985 = .ok (.ireturn, 1) := by decide +kernel
theorem dL_law_986 : decode cL_law 986 = .ok (.aload_n 1, 1) := by decide +kernel
theorem dL_law_987 : decode cL_law 987 = .ok (.aload_n 0, 1) := by decide +kernel
theorem dL_law_988 : decode cL_law 988 = .ok (.iload_n 3, 1) := by decide +kernel
theorem dL_law_989 : decode cL_law 989 = .ok (.iconst 1, 1) := by decide +kernel
theorem dL_law_990 : decode cL_law 990 = .ok (.iadd, 1) := by decide +kernel
theorem dL_law_991 : decode cL_law 991 = .ok (.iaload, 1) := by decide +kernel
theorem dL_law_992 : decode cL_law 992 = .ok (.invokevirtual 121, 3) := by decide +kernel
theorem dL_law_995 : decode cL_law 995 = .ok (.aload_n 2, 1) := by decide +kernel
theorem dL_law_996 : decode cL_law 996 = .ok (.aload_n 0, 1) := by decide +kernel
theorem dL_law_997 : decode cL_law 997 = .ok (.iload_n 3, 1) := by decide +kernel
theorem dL_law_998 : decode cL_law 998 = .ok (.iconst 1, 1) := by decide +kernel
theorem dL_law_999 : decode cL_law 999 = .ok (.iadd, 1) := by decide +kernel
theorem dL_law_1000 : decode cL_law 1000 = .ok (.iaload, 1) := by decide +kernel
theorem dL_law_1001 : decode cL_law 1001 = .ok (.invokevirtual 124, 3) := by decide +kernel
theorem dL_law_1004 : decode cL_law 1004 = .ok (.if_icmp .eq 331, 3) := by decide +kernel
theorem dL_law_1007 : decode cL_law 1007 = .ok (.iconst 0, 1) := by decide +kernel
theorem dL_law_1008 : decode cL_law 1008 = .ok (.ireturn, 1) := by decide +kernel
theorem dL_law_1009 : decode cL_law 1009 = .ok (.aload_n 1, 1) := by decide +kernel
theorem dL_law_1010 : decode cL_law 1010 = .ok (.aload_n 0, 1) := by decide +kernel
theorem dL_law_1011 : decode cL_law 1011 = .ok (.iload_n 3, 1) := by decide +kernel
theorem dL_law_1012 : decode cL_law 1012 = .ok (.iconst 1, 1) := by decide +kernel
theorem dL_law_1013 : decode cL_law 1013 = .ok (.iadd, 1) := by decide +kernel
theorem dL_law_1014 : decode cL_law 1014 = .ok (.iaload, 1) := by decide +kernel
theorem dL_law_1015 : decode cL_law 1015 = .ok (.aload_n 0, 1) := by decide +kernel
theorem dL_law_1016 : decode cL_law 1016 = .ok (.iload_n 3, 1) := by decide +kernel
theorem dL_law_1017 : decode cL_law 1017 = .ok (.iconst 2, 1) := by decide +kernel
theorem dL_law_1018 : decode cL_law 1018 = .ok (.iadd, 1) := by decide +kernel
theorem dL_law_1019 : decode cL_law 1019 = .ok (.iaload, 1) := by decide +kernel
theorem dL_law_1020 : decode cL_law 1020 = .ok (.aload_n 0, 1) := by decide +kernel
theorem dL_law_1021 : decode cL_law 1021 = .ok (.iload_n 3, 1) := by decide +kernel
theorem dL_law_1022 : decode cL_law 1022 = .ok (.iconst 3, 1) := by decide +kernel
theorem dL_law_1023 : decode cL_law 1023 = .ok (.iadd, 1) := by decide +kernel
theorem dL_law_1024 : decode cL_law 1024 = .ok (.iaload, 1) := by decide +kernel
theorem dL_law_1025 : decode cL_law 1025 = .ok (.invokevirtual 125, 3) := by decide +kernel
theorem dL_law_1028 : decode cL_law 1028 = .ok (.aload_n 2, 1) := by decide +kernel
theorem dL_law_1029 : decode cL_law 1029 = .ok (.aload_n 0, 1) := by decide +kernel
theorem dL_law_1030 : decode cL_law 1030 = .ok (.iload_n 3, 1) := by decide +kernel
theorem dL_law_1031 : decode cL_law 1031 = .ok (.iconst 1, 1) := by decide +kernel
theorem dL_law_1032 : decode cL_law 1032 = .ok (.iadd, 1) := by decide +kernel
theorem dL_law_1033 : decode cL_law 1033 = .ok (.iaload, 1) := by decide +kernel
theorem dL_law_1034 : decode cL_law 1034 = .ok (.aload_n 0, 1) := by decide +kernel
theorem dL_law_1035 : decode cL_law 1035 = .ok (.iload_n 3, 1) := by decide +kernel
theorem dL_law_1036 : decode cL_law 1036 = .ok (.iconst 2, 1) := by decide +kernel
theorem dL_law_1037 : decode cL_law 1037 = .ok (.iadd, 1) := by decide +kernel
theorem dL_law_1038 : decode cL_law 1038 = .ok (.iaload, 1) := by decide +kernel
theorem dL_law_1039 : decode cL_law 1039 = .ok (.aload_n 0, 1) := by decide +kernel
theorem dL_law_1040 : decode cL_law 1040 = .ok (.iload_n 3, 1) := by decide +kernel
theorem dL_law_1041 : decode cL_law 1041 = .ok (.iconst 3, 1) := by decide +kernel
theorem dL_law_1042 : decode cL_law 1042 = .ok (.iadd, 1) := by decide +kernel
theorem dL_law_1043 : decode cL_law 1043 = .ok (.iaload, 1) := by decide +kernel
theorem dL_law_1044 : decode cL_law 1044 = .ok (.invokevirtual 128, 3) := by decide +kernel
theorem dL_law_1047 : decode cL_law 1047 = .ok (.if_icmp .eq 288, 3) := by decide +kernel
theorem dL_law_1050 : decode cL_law 1050 = .ok (.iconst 0, 1) := by decide +kernel
theorem dL_law_1051 : decode cL_law 1051 = .ok (.ireturn, 1) := by decide +kernel
theorem dL_law_1052 : decode cL_law 1052 = .ok (.aload_n 1, 1) := by decide +kernel
theorem dL_law_1053 : decode cL_law 1053 = .ok (.aload_n 0, 1) := by decide +kernel
theorem dL_law_1054 : decode cL_law 1054 = .ok (.iload_n 3, 1) := by decide +kernel
theorem dL_law_1055 : decode cL_law 1055 = .ok (.iconst 1, 1) := by decide +kernel
theorem dL_law_1056 : decode cL_law 1056 = .ok (.iadd, 1) := by decide +kernel
theorem dL_law_1057 : decode cL_law 1057 = .ok (.iaload, 1) := by decide +kernel
theorem dL_law_1058 : decode cL_law 1058 = .ok (.aload_n 0, 1) := by decide +kernel
theorem dL_law_1059 : decode cL_law 1059 = .ok (.iload_n 3, 1) := by decide +kernel
theorem dL_law_1060 : decode cL_law 1060 = .ok (.iconst 2, 1) := by decide +kernel
theorem dL_law_1061 : decode cL_law 1061 = .ok (.iadd, 1) := by decide +kernel
theorem dL_law_1062 : decode cL_law 1062 = .ok (.iaload, 1) := by decide +kernel
theorem dL_law_1063 : decode cL_law 1063 = .ok (.aload_n 0, 1) := by decide +kernel
theorem dL_law_1064 : decode cL_law 1064 = .ok (.iload_n 3, 1) := by decide +kernel
theorem dL_law_1065 : decode cL_law 1065 = .ok (.iconst 3, 1) := by decide +kernel
theorem dL_law_1066 : decode cL_law 1066 = .ok (.iadd, 1) := by decide +kernel
theorem dL_law_1067 : decode cL_law 1067 = .ok (.iaload, 1) := by decide +kernel
theorem dL_law_1068 : decode cL_law 1068 = .ok (.invokevirtual 129, 3) := by decide +kernel
theorem dL_law_1071 : decode cL_law 1071 = .ok (.aload_n 2, 1) := by decide +kernel
theorem dL_law_1072 : decode cL_law 1072 = .ok (.aload_n 0, 1) := by decide +kernel
theorem dL_law_1073 : decode cL_law 1073 = .ok (.iload_n 3, 1) := by decide +kernel
theorem dL_law_1074 : decode cL_law 1074 = .ok (.iconst 1, 1) := by decide +kernel
theorem dL_law_1075 : decode cL_law 1075 = .ok (.iadd, 1) := by decide +kernel
theorem dL_law_1076 : decode cL_law 1076 = .ok (.iaload, 1) := by decide +kernel
theorem dL_law_1077 : decode cL_law 1077 = .ok (.aload_n 0, 1) := by decide +kernel
theorem dL_law_1078 : decode cL_law 1078 = .ok (.iload_n 3, 1) := by decide +kernel
theorem dL_law_1079 : decode cL_law 1079 = .ok (.iconst 2, 1) := by decide +kernel
theorem dL_law_1080 : decode cL_law 1080 = .ok (.iadd, 1) := by decide +kernel
theorem dL_law_1081 : decode cL_law 1081 = .ok (.iaload, 1) := by decide +kernel
theorem dL_law_1082 : decode cL_law 1082 = .ok (.aload_n 0, 1) := by decide +kernel
theorem dL_law_1083 : decode cL_law 1083 = .ok (.iload_n 3, 1) := by decide +kernel
theorem dL_law_1084 : decode cL_law 1084 = .ok (.iconst 3, 1) := by decide +kernel
theorem dL_law_1085 : decode cL_law 1085 = .ok (.iadd, 1) := by decide +kernel
theorem dL_law_1086 : decode cL_law 1086 = .ok (.iaload, 1) := by decide +kernel
theorem dL_law_1087 : decode cL_law 1087 = .ok (.invokevirtual 132, 3) := by decide +kernel
theorem dL_law_1090 : decode cL_law 1090 = .ok (.if_icmp .eq 245, 3) := by decide +kernel
theorem dL_law_1093 : decode cL_law 1093 = .ok (.iconst 0, 1) := by decide +kernel
theorem dL_law_1094 : decode cL_law 1094 = .ok (.ireturn, 1) := by decide +kernel
theorem dL_law_1095 : decode cL_law 1095 = .ok (.aload_n 1, 1) := by decide +kernel
theorem dL_law_1096 : decode cL_law 1096 = .ok (.aload_n 0, 1) := by decide +kernel
theorem dL_law_1097 : decode cL_law 1097 = .ok (.iload_n 3, 1) := by decide +kernel
theorem dL_law_1098 : decode cL_law 1098 = .ok (.iconst 1, 1) := by decide +kernel
theorem dL_law_1099 : decode cL_law 1099 = .ok (.iadd, 1) := by decide +kernel
theorem dL_law_1100 : decode cL_law 1100 = .ok (.iaload, 1) := by decide +kernel
theorem dL_law_1101 : decode cL_law 1101 = .ok (.aload_n 0, 1) := by decide +kernel
theorem dL_law_1102 : decode cL_law 1102 = .ok (.iload_n 3, 1) := by decide +kernel
theorem dL_law_1103 : decode cL_law 1103 = .ok (.iconst 2, 1) := by decide +kernel
theorem dL_law_1104 : decode cL_law 1104 = .ok (.iadd, 1) := by decide +kernel
theorem dL_law_1105 : decode cL_law 1105 = .ok (.iaload, 1) := by decide +kernel
theorem dL_law_1106 : decode cL_law 1106 = .ok (.aload_n 0, 1) := by decide +kernel
theorem dL_law_1107 : decode cL_law 1107 = .ok (.iload_n 3, 1) := by decide +kernel
theorem dL_law_1108 : decode cL_law 1108 = .ok (.iconst 3, 1) := by decide +kernel
theorem dL_law_1109 : decode cL_law 1109 = .ok (.iadd, 1) := by decide +kernel
theorem dL_law_1110 : decode cL_law 1110 = .ok (.iaload, 1) := by decide +kernel
theorem dL_law_1111 : decode cL_law 1111 = .ok (.aload_n 0, 1) := by decide +kernel
theorem dL_law_1112 : decode cL_law 1112 = .ok (.iload_n 3, 1) := by decide +kernel
theorem dL_law_1113 : decode cL_law 1113 = .ok (.iconst 4, 1) := by decide +kernel
theorem dL_law_1114 : decode cL_law 1114 = .ok (.iadd, 1) := by decide +kernel
theorem dL_law_1115 : decode cL_law 1115 = .ok (.iaload, 1) := by decide +kernel
theorem dL_law_1116 : decode cL_law 1116 = .ok (.aload_n 0, 1) := by decide +kernel
theorem dL_law_1117 : decode cL_law 1117 = .ok (.iload_n 3, 1) := by decide +kernel
theorem dL_law_1118 : decode cL_law 1118 = .ok (.iconst 5, 1) := by decide +kernel
theorem dL_law_1119 : decode cL_law 1119 = .ok (.iadd, 1) := by decide +kernel
theorem dL_law_1120 : decode cL_law 1120 = .ok (.iaload, 1) := by decide +kernel
theorem dL_law_1121 : decode cL_law 1121 = .ok (.invokevirtual 133, 3) := by decide +kernel
theorem dL_law_1124 : decode cL_law 1124 = .ok (.aload_n 2, 1) := by decide +kernel
theorem dL_law_1125 : decode cL_law 1125 = .ok (.aload_n 0, 1) := by decide +kernel
theorem dL_law_1126 : decode cL_law 1126 = .ok (.iload_n 3, 1) := by decide +kernel
theorem dL_law_1127 : decode cL_law 1127 = .ok (.iconst 1, 1) := by decide +kernel
theorem dL_law_1128 : decode cL_law 1128 = .ok (.iadd, 1) := by decide +kernel
theorem dL_law_1129 : decode cL_law 1129 = .ok (.iaload, 1) := by decide +kernel
theorem dL_law_1130 : decode cL_law 1130 = .ok (.aload_n 0, 1) := by decide +kernel
theorem dL_law_1131 : decode cL_law 1131 = .ok (.iload_n 3, 1) := by decide +kernel
theorem dL_law_1132 : decode cL_law 1132 = .ok (.iconst 2, 1) := by decide +kernel
theorem dL_law_1133 : decode cL_law 1133 = .ok (.iadd, 1) := by decide +kernel
theorem dL_law_1134 : decode cL_law 1134 = .ok (.iaload, 1) := by decide +kernel
theorem dL_law_1135 : decode cL_law 1135 = .ok (.aload_n 0, 1) := by decide +kernel
theorem dL_law_1136 : decode cL_law 1136 = .ok (.iload_n 3, 1) := by decide +kernel
theorem dL_law_1137 : decode cL_law 1137 = .ok (.iconst 3, 1) := by decide +kernel
theorem dL_law_1138 : decode cL_law 1138 = .ok (.iadd, 1) := by decide +kernel
theorem dL_law_1139 : decode cL_law 1139 = .ok (.iaload, 1) := by decide +kernel
theorem dL_law_1140 : decode cL_law 1140 = .ok (.aload_n 0, 1) := by decide +kernel
theorem dL_law_1141 : decode cL_law 1141 = .ok (.iload_n 3, 1) := by decide +kernel
theorem dL_law_1142 : decode cL_law 1142 = .ok (.iconst 4, 1) := by decide +kernel
theorem dL_law_1143 : decode cL_law 1143 = .ok (.iadd, 1) := by decide +kernel
theorem dL_law_1144 : decode cL_law 1144 = .ok (.iaload, 1) := by decide +kernel
theorem dL_law_1145 : decode cL_law 1145 = .ok (.aload_n 0, 1) := by decide +kernel
theorem dL_law_1146 : decode cL_law 1146 = .ok (.iload_n 3, 1) := by decide +kernel
theorem dL_law_1147 : decode cL_law 1147 = .ok (.iconst 5, 1) := by decide +kernel
theorem dL_law_1148 : decode cL_law 1148 = .ok (.iadd, 1) := by decide +kernel
theorem dL_law_1149 : decode cL_law 1149 = .ok (.iaload, 1) := by decide +kernel
theorem dL_law_1150 : decode cL_law 1150 = .ok (.invokevirtual 137, 3) := by decide +kernel
theorem dL_law_1153 : decode cL_law 1153 = .ok (.if_icmp .eq 182, 3) := by decide +kernel
theorem dL_law_1156 : decode cL_law 1156 = .ok (.iconst 0, 1) := by decide +kernel
theorem dL_law_1157 : decode cL_law 1157 = .ok (.ireturn, 1) := by decide +kernel
theorem dL_law_1158 : decode cL_law 1158 = .ok (.aload_n 1, 1) := by decide +kernel
theorem dL_law_1159 : decode cL_law 1159 = .ok (.aload_n 0, 1) := by decide +kernel
theorem dL_law_1160 : decode cL_law 1160 = .ok (.iload_n 3, 1) := by decide +kernel
theorem dL_law_1161 : decode cL_law 1161 = .ok (.iconst 1, 1) := by decide +kernel
theorem dL_law_1162 : decode cL_law 1162 = .ok (.iadd, 1) := by decide +kernel
theorem dL_law_1163 : decode cL_law 1163 = .ok (.iaload, 1) := by decide +kernel
theorem dL_law_1164 : decode cL_law 1164 = .ok (.invokevirtual 138, 3) := by decide +kernel
theorem dL_law_1167 : decode cL_law 1167 = .ok (.aload_n 2, 1) := by decide +kernel
theorem dL_law_1168 : decode cL_law 1168 = .ok (.aload_n 0, 1) := by decide +kernel
theorem dL_law_1169 : decode cL_law 1169 = .ok (.iload_n 3, 1) := by decide +kernel
theorem dL_law_1170 : decode cL_law 1170 = .ok (.iconst 1, 1) := by decide +kernel
theorem dL_law_1171 : decode cL_law 1171 = .ok (.iadd, 1) := by decide +kernel
theorem dL_law_1172 : decode cL_law 1172 = .ok (.iaload, 1) := by decide +kernel
theorem dL_law_1173 : decode cL_law 1173 = .ok (.invokevirtual 141, 3) := by decide +kernel
theorem dL_law_1176 : decode cL_law 1176 = .ok (.if_icmp .eq 159, 3) := by decide +kernel
theorem dL_law_1179 : decode cL_law 1179 = .ok (.iconst 0, 1) := by decide +kernel
theorem dL_law_1180 : decode cL_law 1180 = .ok (.ireturn, 1) := by decide +kernel
theorem dL_law_1181 : decode cL_law 1181 = .ok (.aload_n 1, 1) := by decide +kernel
theorem dL_law_1182 : decode cL_law 1182 = .ok (.aload_n 0, 1) := by decide +kernel
theorem dL_law_1183 : decode cL_law 1183 = .ok (.iload_n 3, 1) := by decide +kernel
theorem dL_law_1184 : decode cL_law 1184 = .ok (.iconst 1, 1) := by decide +kernel
theorem dL_law_1185 : decode cL_law 1185 = .ok (.iadd, 1) := by decide +kernel
theorem dL_law_1186 : decode cL_law 1186 = .ok (.iaload, 1) := by decide +kernel
theorem dL_law_1187 : decode cL_law 1187 = .ok (.invokevirtual 142, 3) := by decide +kernel
theorem dL_law_1190 : decode cL_law 1190 = .ok (.aload_n 2, 1) := by decide +kernel
theorem dL_law_1191 : decode cL_law 1191 = .ok (.aload_n 0, 1) := by decide +kernel
theorem dL_law_1192 : decode cL_law 1192 = .ok (.iload_n 3, 1) := by decide +kernel
theorem dL_law_1193 : decode cL_law 1193 = .ok (.iconst 1, 1) := by decide +kernel
theorem dL_law_1194 : decode cL_law 1194 = .ok (.iadd, 1) := by decide +kernel
theorem dL_law_1195 : decode cL_law 1195 = .ok (.iaload, 1) := by decide +kernel
theorem dL_law_1196 : decode cL_law 1196 = .ok (.invokevirtual 145, 3) := by decide +kernel
theorem dL_law_1199 : decode cL_law 1199 = .ok (.if_icmp .eq 136, 3) := by decide +kernel
theorem dL_law_1202 : decode cL_law 1202 = .ok (.iconst 0, 1) := by decide +kernel
theorem dL_law_1203 : decode cL_law 1203 = .ok (.ireturn, 1) := by decide +kernel
theorem dL_law_1204 : decode cL_law 1204 = .ok (.aload_n 1, 1) := by decide +kernel
theorem dL_law_1205 : decode cL_law 1205 = .ok (.aload_n 0, 1) := by decide +kernel
theorem dL_law_1206 : decode cL_law 1206 = .ok (.iload_n 3, 1) := by decide +kernel
theorem dL_law_1207 : decode cL_law 1207 = .ok (.iconst 1, 1) := by decide +kernel
theorem dL_law_1208 : decode cL_law 1208 = .ok (.iadd, 1) := by decide +kernel
theorem dL_law_1209 : decode cL_law 1209 = .ok (.iaload, 1) := by decide +kernel
theorem dL_law_1210 : decode cL_law 1210 = .ok (.invokevirtual 146, 3) := by decide +kernel
theorem dL_law_1213 : decode cL_law 1213 = .ok (.aload_n 2, 1) := by decide +kernel
theorem dL_law_1214 : decode cL_law 1214 = .ok (.aload_n 0, 1) := by decide +kernel
theorem dL_law_1215 : decode cL_law 1215 = .ok (.iload_n 3, 1) := by decide +kernel
theorem dL_law_1216 : decode cL_law 1216 = .ok (.iconst 1, 1) := by decide +kernel
theorem dL_law_1217 : decode cL_law 1217 = .ok (.iadd, 1) := by decide +kernel
theorem dL_law_1218 : decode cL_law 1218 = .ok (.iaload, 1) := by decide +kernel
theorem dL_law_1219 : decode cL_law 1219 = .ok (.invokevirtual 149, 3) := by decide +kernel
theorem dL_law_1222 : decode cL_law 1222 = .ok (.if_icmp .eq 113, 3) := by decide +kernel
theorem dL_law_1225 : decode cL_law 1225 = .ok (.iconst 0, 1) := by decide +kernel
theorem dL_law_1226 : decode cL_law 1226 = .ok (.ireturn, 1) := by decide +kernel
theorem dL_law_1227 : decode cL_law 1227 = .ok (.aload_n 1, 1) := by decide +kernel
theorem dL_law_1228 : decode cL_law 1228 = .ok (.invokevirtual 150, 3) := by decide +kernel
theorem dL_law_1231 : decode cL_law 1231 = .ok (.aload_n 2, 1) := by decide +kernel
theorem dL_law_1232 : decode cL_law 1232 = .ok (.invokevirtual 153, 3) := by decide +kernel
theorem dL_law_1235 : decode cL_law 1235 = .ok (.if_icmp .eq 100, 3) := by decide +kernel
theorem dL_law_1238 : decode cL_law 1238 = .ok (.iconst 0, 1) := by decide +kernel
theorem dL_law_1239 : decode cL_law 1239 = .ok (.ireturn, 1) := by decide +kernel
theorem dL_law_1240 : decode cL_law 1240 = .ok (.aload_n 1, 1) := by decide +kernel
theorem dL_law_1241 : decode cL_law 1241 = .ok (.invokevirtual 154, 3) := by decide +kernel
theorem dL_law_1244 : decode cL_law 1244 = .ok (.aload_n 2, 1) := by decide +kernel
theorem dL_law_1245 : decode cL_law 1245 = .ok (.invokevirtual 157, 3) := by decide +kernel
theorem dL_law_1248 : decode cL_law 1248 = .ok (.if_icmp .eq 87, 3) := by decide +kernel
theorem dL_law_1251 : decode cL_law 1251 = .ok (.iconst 0, 1) := by decide +kernel
theorem dL_law_1252 : decode cL_law 1252 = .ok (.ireturn, 1) := by decide +kernel
theorem dL_law_1253 : decode cL_law 1253 = .ok (.aload_n 1, 1) := by decide +kernel
theorem dL_law_1254 : decode cL_law 1254 = .ok (.aload_n 0, 1) := by decide +kernel
theorem dL_law_1255 : decode cL_law 1255 = .ok (.iload_n 3, 1) := by decide +kernel
theorem dL_law_1256 : decode cL_law 1256 = .ok (.iconst 1, 1) := by decide +kernel
theorem dL_law_1257 : decode cL_law 1257 = .ok (.iadd, 1) := by decide +kernel
theorem dL_law_1258 : decode cL_law 1258 = .ok (.iaload, 1) := by decide +kernel
theorem dL_law_1259 : decode cL_law 1259 = .ok (.invokevirtual 158, 3) := by decide +kernel
theorem dL_law_1262 : decode cL_law 1262 = .ok (.aload_n 2, 1) := by decide +kernel
theorem dL_law_1263 : decode cL_law 1263 = .ok (.aload_n 0, 1) := by decide +kernel
theorem dL_law_1264 : decode cL_law 1264 = .ok (.iload_n 3, 1) := by decide +kernel
theorem dL_law_1265 : decode cL_law 1265 = .ok (.iconst 1, 1) := by decide +kernel
theorem dL_law_1266 : decode cL_law 1266 = .ok (.iadd, 1) := by decide +kernel
theorem dL_law_1267 : decode cL_law 1267 = .ok (.iaload, 1) := by decide +kernel
theorem dL_law_1268 : decode cL_law 1268 = .ok (.invokevirtual 161, 3) := by decide +kernel
theorem dL_law_1271 : decode cL_law 1271 = .ok (.if_icmp .eq 64, 3) := by decide +kernel
theorem dL_law_1274 : decode cL_law 1274 = .ok (.iconst 0, 1) := by decide +kernel
theorem dL_law_1275 : decode cL_law 1275 = .ok (.ireturn, 1) := by decide +kernel
theorem dL_law_1276 : decode cL_law 1276 = .ok (.aload_n 1, 1) := by decide +kernel
theorem dL_law_1277 : decode cL_law 1277 = .ok (.invokevirtual 162, 3) := by decide +kernel
theorem dL_law_1280 : decode cL_law 1280 = .ok (.aload_n 2, 1) := by decide +kernel
theorem dL_law_1281 : decode cL_law 1281 = .ok (.invokevirtual 165, 3) := by decide +kernel
theorem dL_law_1284 : decode cL_law 1284 = .ok (.if_icmp .eq 51, 3) := by decide +kernel
theorem dL_law_1287 : decode cL_law 1287 = .ok (.iconst 0, 1) := by decide +kernel
theorem dL_law_1288 : decode cL_law 1288 = .ok (.ireturn, 1) := by decide +kernel
theorem dL_law_1289 : decode cL_law 1289 = .ok (.aload_n 1, 1) := by decide +kernel
theorem dL_law_1290 : decode cL_law 1290 = .ok (.aload_n 0, 1) := by decide +kernel
theorem dL_law_1291 : decode cL_law 1291 = .ok (.iload_n 3, 1) := by decide +kernel
theorem dL_law_1292 : decode cL_law 1292 = .ok (.iconst 1, 1) := by decide +kernel
theorem dL_law_1293 : decode cL_law 1293 = .ok (.iadd, 1) := by decide +kernel
theorem dL_law_1294 : decode cL_law 1294 = .ok (.iaload, 1) := by decide +kernel
theorem dL_law_1295 : decode cL_law 1295 = .ok (.invokevirtual 166, 3) := by decide +kernel
theorem dL_law_1298 : decode cL_law 1298 = .ok (.aload_n 2, 1) := by decide +kernel
theorem dL_law_1299 : decode cL_law 1299 = .ok (.aload_n 0, 1) := by decide +kernel
theorem dL_law_1300 : decode cL_law 1300 = .ok (.iload_n 3, 1) := by decide +kernel
theorem dL_law_1301 : decode cL_law 1301 = .ok (.iconst 1, 1) := by decide +kernel
theorem dL_law_1302 : decode cL_law 1302 = .ok (.iadd, 1) := by decide +kernel
theorem dL_law_1303 : decode cL_law 1303 = .ok (.iaload, 1) := by decide +kernel
theorem dL_law_1304 : decode cL_law 1304 = .ok (.invokevirtual 169, 3) := by decide +kernel
theorem dL_law_1307 : decode cL_law 1307 = .ok (.if_icmp .eq 28, 3) := by decide +kernel
theorem dL_law_1310 : decode cL_law 1310 = .ok (.iconst 0, 1) := by decide +kernel
theorem dL_law_1311 : decode cL_law 1311 = .ok (.ireturn, 1) := by decide +kernel
theorem dL_law_1312 : decode cL_law 1312 = .ok (.aload_n 1, 1) := by decide +kernel
theorem dL_law_1313 : decode cL_law 1313 = .ok (.aload_n 0, 1) := by decide +kernel
theorem dL_law_1314 : decode cL_law 1314 = .ok (.iload_n 3, 1) := by decide +kernel
theorem dL_law_1315 : decode cL_law 1315 = .ok (.iconst 1, 1) := by decide +kernel
theorem dL_law_1316 : decode cL_law 1316 = .ok (.iadd, 1) := by decide +kernel
theorem dL_law_1317 : decode cL_law 1317 = .ok (.iaload, 1) := by decide +kernel
theorem dL_law_1318 : decode cL_law 1318 = .ok (.invokevirtual 170, 3) := by decide +kernel
theorem dL_law_1321 : decode cL_law 1321 = .ok (.aload_n 2, 1) := by decide +kernel
theorem dL_law_1322 : decode cL_law 1322 = .ok (.aload_n 0, 1) := by decide +kernel
theorem dL_law_1323 : decode cL_law 1323 = .ok (.iload_n 3, 1) := by decide +kernel
theorem dL_law_1324 : decode cL_law 1324 = .ok (.iconst 1, 1) := by decide +kernel
theorem dL_law_1325 : decode cL_law 1325 = .ok (.iadd, 1) := by decide +kernel
theorem dL_law_1326 : decode cL_law 1326 = .ok (.iaload, 1) := by decide +kernel
theorem dL_law_1327 : decode cL_law 1327 = .ok (.invokevirtual 173, 3) := by decide +kernel
theorem dL_law_1330 : decode cL_law 1330 = .ok (.if_icmp .eq 5, 3) := by decide +kernel
theorem dL_law_1333 : decode cL_law 1333 = .ok (.iconst 0, 1) := by decide +kernel
theorem dL_law_1334 : decode cL_law 1334 = .ok (.ireturn, 1) := by decide +kernel
theorem dL_law_1335 : decode cL_law 1335 = .ok (.iinc 3 6, 3) := by decide +kernel
theorem dL_law_1338 : decode cL_law 1338 = .ok (.goto (-1320), 3) := by decide +kernel
theorem dL_law_1341 : decode cL_law 1341 = .ok (.iconst 1, 1) := by decide +kernel
theorem dL_law_1342 : decode cL_law 1342 = .ok (.ireturn, 1) := by decide +kernel
