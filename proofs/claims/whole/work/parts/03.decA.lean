theorem dX0_init_0 : decode cX0_init 0 = .ok (.aload_n 0, 1) := by decide +kernel
theorem dX0_init_1 : decode cX0_init 1 = .ok (.invokespecial 1, 3) := by decide +kernel
theorem dX0_init_4 : decode cX0_init 4 = .ok (.return_, 1) := by decide +kernel
theorem dX0_become_0 : decode cX0_become 0 = .ok (.aload_n 0, 1) := by decide +kernel
theorem dX0_become_1 : decode cX0_become 1 = .ok (.iload_n 1, 1) := by decide +kernel
theorem dX0_become_2 : decode cX0_become 2 = .ok (.iconst 0, 1) := by decide +kernel
theorem dX0_become_3 : decode cX0_become 3 = .ok (.bipush 9, 2) := by decide +kernel
theorem dX0_become_5 : decode cX0_become 5 = .ok (.invokestatic 7, 3) := by decide +kernel
theorem dX0_become_8 : decode cX0_become 8 = .ok (.putfield 13, 3) := by decide +kernel
theorem dX0_become_11 : decode cX0_become 11 = .ok (.aload_n 0, 1) := by decide +kernel
theorem dX0_become_12 : decode cX0_become 12 = .ok (.iload_n 2, 1) := by decide +kernel
theorem dX0_become_13 : decode cX0_become 13 = .ok (.putfield 19, 3) := by decide +kernel
theorem dX0_become_16 : decode cX0_become 16 = .ok (.aload_n 0, 1) := by decide +kernel
theorem dX0_become_17 : decode cX0_become 17 = .ok (.iload_n 3, 1) := by decide +kernel
theorem dX0_become_18 : decode cX0_become 18 = .ok (.putfield 22, 3) := by decide +kernel
theorem dX0_become_21 : decode cX0_become 21 = .ok (.aload_n 0, 1) := by decide +kernel
theorem dX0_become_22 : decode cX0_become 22 = .ok (.iload 4, 2) := by decide +kernel
theorem dX0_become_24 : decode cX0_become 24 = .ok (.putfield 25, 3) := by decide +kernel
theorem dX0_become_27 : decode cX0_become 27 = .ok (.return_, 1) := by decide +kernel
theorem dX1_init_0 : decode cX1_init 0 = .ok (.aload_n 0, 1) := by decide +kernel
theorem dX1_init_1 : decode cX1_init 1 = .ok (.invokespecial 3, 3) := by decide +kernel
theorem dX1_init_4 : decode cX1_init 4 = .ok (.aload_n 0, 1) := by decide +kernel
theorem dX1_init_5 : decode cX1_init 5 = .ok (.bipush 8, 2) := by decide +kernel
theorem dX1_init_7 : decode cX1_init 7 = .ok (.newarray .int, 2) := by decide +kernel
theorem dX1_init_9 : decode cX1_init 9 = .ok (.putfield 9, 3) := by decide +kernel
theorem dX1_init_12 : decode cX1_init 12 = .ok (.aload_n 0, 1) := by decide +kernel
theorem dX1_init_13 : decode cX1_init 13 = .ok (.bipush 8, 2) := by decide +kernel
theorem dX1_init_15 : decode cX1_init 15 = .ok (.newarray .int, 2) := by decide +kernel
theorem dX1_init_17 : decode cX1_init 17 = .ok (.putfield 15, 3) := by decide +kernel
theorem dX1_init_20 : decode cX1_init 20 = .ok (.aload_n 0, 1) := by decide +kernel
theorem dX1_init_21 : decode cX1_init 21 = .ok (.bipush 8, 2) := by decide +kernel
theorem dX1_init_23 : decode cX1_init 23 = .ok (.newarray .int, 2) := by decide +kernel
theorem dX1_init_25 : decode cX1_init 25 = .ok (.putfield 18, 3) := by decide +kernel
theorem dX1_init_28 : decode cX1_init 28 = .ok (.aload_n 0, 1) := by decide +kernel
theorem dX1_init_29 : decode cX1_init 29 = .ok (.iconst 0, 1) := by decide +kernel
theorem dX1_init_30 : decode cX1_init 30 = .ok (.putfield 21, 3) := by decide +kernel
theorem dX1_init_33 : decode cX1_init 33 = .ok (.return_, 1) := by decide +kernel
theorem dX1_become_0 : decode cX1_become 0 = .ok (.aload_n 1, 1) := by decide +kernel
theorem dX1_become_1 : decode cX1_become 1 = .ok (.getfield 9, 3) := by decide +kernel
theorem dX1_become_4 : decode cX1_become 4 = .ok (.aload_n 0, 1) := by decide +kernel
theorem dX1_become_5 : decode cX1_become 5 = .ok (.getfield 9, 3) := by decide +kernel
theorem dX1_become_8 : decode cX1_become 8 = .ok (.invokestatic 25, 3) := by decide +kernel
theorem dX1_become_11 : decode cX1_become 11 = .ok (.aload_n 1, 1) := by decide +kernel
theorem dX1_become_12 : decode cX1_become 12 = .ok (.getfield 15, 3) := by decide +kernel
theorem dX1_become_15 : decode cX1_become 15 = .ok (.aload_n 0, 1) := by decide +kernel
theorem dX1_become_16 : decode cX1_become 16 = .ok (.getfield 15, 3) := by decide +kernel
theorem dX1_become_19 : decode cX1_become 19 = .ok (.invokestatic 25, 3) := by decide +kernel
theorem dX1_become_22 : decode cX1_become 22 = .ok (.aload_n 1, 1) := by decide +kernel
theorem dX1_become_23 : decode cX1_become 23 = .ok (.getfield 18, 3) := by decide +kernel
theorem dX1_become_26 : decode cX1_become 26 = .ok (.aload_n 0, 1) := by decide +kernel
theorem dX1_become_27 : decode cX1_become 27 = .ok (.getfield 18, 3) := by decide +kernel
theorem dX1_become_30 : decode cX1_become 30 = .ok (.invokestatic 25, 3) := by decide +kernel
theorem dX1_become_33 : decode cX1_become 33 = .ok (.aload_n 0, 1) := by decide +kernel
theorem dX1_become_34 : decode cX1_become 34 = .ok (.aload_n 1, 1) := by decide +kernel
theorem dX1_become_35 : decode cX1_become 35 = .ok (.getfield 21, 3) := by decide +kernel
theorem dX1_become_38 : decode cX1_become 38 = .ok (.putfield 21, 3) := by decide +kernel
theorem dX1_become_41 : decode cX1_become 41 = .ok (.return_, 1) := by decide +kernel
theorem dX1_add_0 : decode cX1_add 0 = .ok (.aload_n 0, 1) := by decide +kernel
theorem dX1_add_1 : decode cX1_add 1 = .ok (.getfield 21, 3) := by decide +kernel
theorem dX1_add_4 : decode cX1_add 4 = .ok (.istore 4, 2) := by decide +kernel
theorem dX1_add_6 : decode cX1_add 6 = .ok (.aload_n 0, 1) := by decide +kernel
theorem dX1_add_7 : decode cX1_add 7 = .ok (.getfield 9, 3) := by decide +kernel
theorem dX1_add_10 : decode cX1_add 10 = .ok (.iload 4, 2) := by decide +kernel
theorem dX1_add_12 : decode cX1_add 12 = .ok (.iload_n 1, 1) := by decide +kernel
theorem dX1_add_13 : decode cX1_add 13 = .ok (.invokestatic 29, 3) := by decide +kernel
theorem dX1_add_16 : decode cX1_add 16 = .ok (.pop, 1) := by decide +kernel
theorem dX1_add_17 : decode cX1_add 17 = .ok (.aload_n 0, 1) := by decide +kernel
theorem dX1_add_18 : decode cX1_add 18 = .ok (.getfield 15, 3) := by decide +kernel
theorem dX1_add_21 : decode cX1_add 21 = .ok (.iload 4, 2) := by decide +kernel
theorem dX1_add_23 : decode cX1_add 23 = .ok (.iload_n 2, 1) := by decide +kernel
theorem dX1_add_24 : decode cX1_add 24 = .ok (.invokestatic 29, 3) := by decide +kernel
theorem dX1_add_27 : decode cX1_add 27 = .ok (.pop, 1) := by decide +kernel
theorem dX1_add_28 : decode cX1_add 28 = .ok (.aload_n 0, 1) := by decide +kernel
theorem dX1_add_29 : decode cX1_add 29 = .ok (.getfield 18, 3) := by decide +kernel
theorem dX1_add_32 : decode cX1_add 32 = .ok (.iload 4, 2) := by decide +kernel
theorem dX1_add_34 : decode cX1_add 34 = .ok (.iload_n 3, 1) := by decide +kernel
theorem dX1_add_35 : decode cX1_add 35 = .ok (.invokestatic 29, 3) := by decide +kernel
theorem dX1_add_38 : decode cX1_add 38 = .ok (.pop, 1) := by decide +kernel
theorem dX1_add_39 : decode cX1_add 39 = .ok (.aload_n 0, 1) := by decide +kernel
theorem dX1_add_40 : decode cX1_add 40 = .ok (.bipush 8, 2) := by decide +kernel
theorem dX1_add_42 : decode cX1_add 42 = .ok (.iload 4, 2) := by decide +kernel
theorem dX1_add_44 : decode cX1_add 44 = .ok (.iconst 1, 1) := by decide +kernel
theorem dX1_add_45 : decode cX1_add 45 = .ok (.iadd, 1) := by decide +kernel
theorem dX1_add_46 : decode cX1_add 46 = .ok (.invokestatic 33, 3) := by decide +kernel
theorem dX1_add_49 : decode cX1_add 49 = .ok (.putfield 21, 3) := by decide +kernel
theorem dX1_add_52 : decode cX1_add 52 = .ok (.iload 4, 2) := by decide +kernel
theorem dX1_add_54 : decode cX1_add 54 = .ok (.ireturn, 1) := by decide +kernel
theorem dX2_init_0 : decode cX2_init 0 = .ok (.aload_n 0, 1) := by decide +kernel
theorem dX2_init_1 : decode cX2_init 1 = .ok (.invokespecial 3, 3) := by decide +kernel
theorem dX2_init_4 : decode cX2_init 4 = .ok (.aload_n 0, 1) := by decide +kernel
theorem dX2_init_5 : decode cX2_init 5 = .ok (.new 9, 3) := by decide +kernel
theorem dX2_init_8 : decode cX2_init 8 = .ok (.dup, 1) := by decide +kernel
theorem dX2_init_9 : decode cX2_init 9 = .ok (.invokespecial 11, 3) := by decide +kernel
theorem dX2_init_12 : decode cX2_init 12 = .ok (.putfield 12, 3) := by decide +kernel
theorem dX2_init_15 : decode cX2_init 15 = .ok (.aload_n 0, 1) := by decide +kernel
theorem dX2_init_16 : decode cX2_init 16 = .ok (.bipush 60, 2) := by decide +kernel
theorem dX2_init_18 : decode cX2_init 18 = .ok (.newarray .int, 2) := by decide +kernel
theorem dX2_init_20 : decode cX2_init 20 = .ok (.putfield 18, 3) := by decide +kernel
theorem dX2_init_23 : decode cX2_init 23 = .ok (.aload_n 0, 1) := by decide +kernel
theorem dX2_init_24 : decode cX2_init 24 = .ok (.iconst 0, 1) := by decide +kernel
theorem dX2_init_25 : decode cX2_init 25 = .ok (.putfield 22, 3) := by decide +kernel
theorem dX2_init_28 : decode cX2_init 28 = .ok (.aload_n 0, 1) := by decide +kernel
theorem dX2_init_29 : decode cX2_init 29 = .ok (.iconst 0, 1) := by decide +kernel
theorem dX2_init_30 : decode cX2_init 30 = .ok (.putfield 26, 3) := by decide +kernel
theorem dX2_init_33 : decode cX2_init 33 = .ok (.aload_n 0, 1) := by decide +kernel
theorem dX2_init_34 : decode cX2_init 34 = .ok (.iconst 0, 1) := by decide +kernel
theorem dX2_init_35 : decode cX2_init 35 = .ok (.putfield 29, 3) := by decide +kernel
theorem dX2_init_38 : decode cX2_init 38 = .ok (.aload_n 0, 1) := by decide +kernel
theorem dX2_init_39 : decode cX2_init 39 = .ok (.iconst 0, 1) := by decide +kernel
theorem dX2_init_40 : decode cX2_init 40 = .ok (.putfield 32, 3) := by decide +kernel
theorem dX2_init_43 : decode cX2_init 43 = .ok (.aload_n 0, 1) := by decide +kernel
theorem dX2_init_44 : decode cX2_init 44 = .ok (.iconst 1, 1) := by decide +kernel
theorem dX2_init_45 : decode cX2_init 45 = .ok (.putfield 35, 3) := by decide +kernel
theorem dX2_init_48 : decode cX2_init 48 = .ok (.return_, 1) := by decide +kernel
theorem dX2_read_0 : decode cX2_read 0 = .ok (.aload_n 0, 1) := by decide +kernel
theorem dX2_read_1 : decode cX2_read 1 = .ok (.getfield 12, 3) := by decide +kernel
theorem dX2_read_4 : decode cX2_read 4 = .ok (.iconst 0, 1) := by decide +kernel
theorem dX2_read_5 : decode cX2_read 5 = .ok (.putfield 39, 3) := by decide +kernel
theorem dX2_read_8 : decode cX2_read 8 = .ok (.aload_n 0, 1) := by decide +kernel
theorem dX2_read_9 : decode cX2_read 9 = .ok (.iconst 0, 1) := by decide +kernel
theorem dX2_read_10 : decode cX2_read 10 = .ok (.putfield 22, 3) := by decide +kernel
theorem dX2_read_13 : decode cX2_read 13 = .ok (.aload_n 0, 1) := by decide +kernel
theorem dX2_read_14 : decode cX2_read 14 = .ok (.iconst 0, 1) := by decide +kernel
theorem dX2_read_15 : decode cX2_read 15 = .ok (.putfield 26, 3) := by decide +kernel
theorem dX2_read_18 : decode cX2_read 18 = .ok (.aload_n 0, 1) := by decide +kernel
theorem dX2_read_19 : decode cX2_read 19 = .ok (.iconst 0, 1) := by decide +kernel
theorem dX2_read_20 : decode cX2_read 20 = .ok (.putfield 32, 3) := by decide +kernel
theorem dX2_read_23 : decode cX2_read 23 = .ok (.aload_n 0, 1) := by decide +kernel
theorem dX2_read_24 : decode cX2_read 24 = .ok (.iconst 1, 1) := by decide +kernel
theorem dX2_read_25 : decode cX2_read 25 = .ok (.putfield 35, 3) := by decide +kernel
theorem dX2_read_28 : decode cX2_read 28 = .ok (.iconst 0, 1) := by decide +kernel
theorem dX2_read_29 : decode cX2_read 29 = .ok (.istore 4, 2) := by decide +kernel
theorem dX2_read_31 : decode cX2_read 31 = .ok (.iload 4, 2) := by decide +kernel
theorem dX2_read_33 : decode cX2_read 33 = .ok (.iload_n 2, 1) := by decide +kernel
theorem dX2_read_34 : decode cX2_read 34 = .ok (.if_icmp .ge 26, 3) := by decide +kernel
theorem dX2_read_37 : decode cX2_read 37 = .ok (.aload_n 0, 1) := by decide +kernel
theorem dX2_read_38 : decode cX2_read 38 = .ok (.aload_n 1, 1) := by decide +kernel
theorem dX2_read_39 : decode cX2_read 39 = .ok (.iload 4, 2) := by decide +kernel
theorem dX2_read_41 : decode cX2_read 41 = .ok (.invokestatic 42, 3) := by decide +kernel
theorem dX2_read_44 : decode cX2_read 44 = .ok (.aload_n 3, 1) := by decide +kernel
theorem dX2_read_45 : decode cX2_read 45 = .ok (.invokevirtual 46, 3) := by decide +kernel
theorem dX2_read_48 : decode cX2_read 48 = .ok (.ifCond .ne 6, 3) := by decide +kernel
theorem dX2_read_51 : decode cX2_read 51 = .ok (.iload 4, 2) := by decide +kernel
theorem dX2_read_53 : decode cX2_read 53 = .ok (.ireturn, 1) := by decide +kernel
theorem dX2_read_54 : decode cX2_read 54 = .ok (.iinc 4 1, 3) := by decide +kernel
theorem dX2_read_57 : decode cX2_read 57 = .ok (.goto (-26), 3) := by decide +kernel
theorem dX2_read_60 : decode cX2_read 60 = .ok (.aload_n 0, 1) := by decide +kernel
theorem dX2_read_61 : decode cX2_read 61 = .ok (.invokevirtual 50, 3) := by decide +kernel
theorem dX2_read_64 : decode cX2_read 64 = .ok (.aload_n 0, 1) := by decide +kernel
theorem dX2_read_65 : decode cX2_read 65 = .ok (.getfield 35, 3) := by decide +kernel
theorem dX2_read_68 : decode cX2_read 68 = .ok (.ifCond .ne 10, 3) := by decide +kernel
theorem dX2_read_71 : decode cX2_read 71 = .ok (.aload_n 0, 1) := by decide +kernel
theorem dX2_read_72 : decode cX2_read 72 = .ok (.getfield 26, 3) := by decide +kernel
theorem dX2_read_75 : decode cX2_read 75 = .ok (.ifCond .le 5, 3) := by decide +kernel
theorem dX2_read_78 : decode cX2_read 78 = .ok (.iload_n 2, 1) := by decide +kernel
theorem dX2_read_79 : decode cX2_read 79 = .ok (.ireturn, 1) := by decide +kernel
theorem dX2_read_80 : decode cX2_read 80 = .ok (.aload_n 0, 1) := by decide +kernel
theorem dX2_read_81 : decode cX2_read 81 = .ok (.iconst 0, 1) := by decide +kernel
theorem dX2_read_82 : decode cX2_read 82 = .ok (.invokevirtual 53, 3) := by decide +kernel
theorem dX2_read_85 : decode cX2_read 85 = .ok (.iconst (-1), 1) := by decide +kernel
theorem dX2_read_86 : decode cX2_read 86 = .ok (.ireturn, 1) := by decide +kernel
theorem dX2_goesOnWith_0 : decode cX2_goesOnWith 0 = .ok (.iload_n 1, 1) := by decide +kernel
theorem dX2_goesOnWith_1 : decode cX2_goesOnWith 1 = .ok (.bipush 48, 2) := by decide +kernel
theorem dX2_goesOnWith_3 : decode cX2_goesOnWith 3 = .ok (.bipush 57, 2) := by decide +kernel
theorem dX2_goesOnWith_5 : decode cX2_goesOnWith 5 = .ok (.invokestatic 57, 3) := by decide +kernel
theorem dX2_goesOnWith_8 : decode cX2_goesOnWith 8 = .ok (.istore_n 3, 1) := by decide +kernel
theorem dX2_goesOnWith_9 : decode cX2_goesOnWith 9 = .ok (.iload_n 3, 1) := by decide +kernel
theorem dX2_goesOnWith_10 : decode cX2_goesOnWith 10 = .ok (.ifCond .eq 46, 3) := by decide +kernel
theorem dX2_goesOnWith_13 : decode cX2_goesOnWith 13 = .ok (.aload_n 0, 1) := by decide +kernel
theorem dX2_goesOnWith_14 : decode cX2_goesOnWith 14 = .ok (.getfield 32, 3) := by decide +kernel
theorem dX2_goesOnWith_17 : decode cX2_goesOnWith 17 = .ok (.ifCond .le 39, 3) := by decide +kernel
theorem dX2_goesOnWith_20 : decode cX2_goesOnWith 20 = .ok (.aload_n 0, 1) := by decide +kernel
theorem dX2_goesOnWith_21 : decode cX2_goesOnWith 21 = .ok (.getfield 32, 3) := by decide +kernel
theorem dX2_goesOnWith_24 : decode cX2_goesOnWith 24 = .ok (.iconst 4, 1) := by decide +kernel
theorem dX2_goesOnWith_25 : decode cX2_goesOnWith 25 = .ok (.if_icmp .ge 31, 3) := by decide +kernel
theorem dX2_goesOnWith_28 : decode cX2_goesOnWith 28 = .ok (.aload_n 0, 1) := by decide +kernel
theorem dX2_goesOnWith_29 : decode cX2_goesOnWith 29 = .ok (.aload_n 0, 1) := by decide +kernel
theorem dX2_goesOnWith_30 : decode cX2_goesOnWith 30 = .ok (.getfield 29, 3) := by decide +kernel
theorem dX2_goesOnWith_33 : decode cX2_goesOnWith 33 = .ok (.bipush 10, 2) := by decide +kernel
theorem dX2_goesOnWith_35 : decode cX2_goesOnWith 35 = .ok (.imul, 1) := by decide +kernel
theorem dX2_goesOnWith_36 : decode cX2_goesOnWith 36 = .ok (.iload_n 1, 1) := by decide +kernel
theorem dX2_goesOnWith_37 : decode cX2_goesOnWith 37 = .ok (.iadd, 1) := by decide +kernel
theorem dX2_goesOnWith_38 : decode cX2_goesOnWith 38 = .ok (.bipush 48, 2) := by decide +kernel
theorem dX2_goesOnWith_40 : decode cX2_goesOnWith 40 = .ok (.isub, 1) := by decide +kernel
theorem dX2_goesOnWith_41 : decode cX2_goesOnWith 41 = .ok (.putfield 29, 3) := by decide +kernel
theorem dX2_goesOnWith_44 : decode cX2_goesOnWith 44 = .ok (.aload_n 0, 1) := by decide +kernel
theorem dX2_goesOnWith_45 : decode cX2_goesOnWith 45 = .ok (.dup, 1) := by decide +kernel
theorem dX2_goesOnWith_46 : decode cX2_goesOnWith 46 = .ok (.getfield 32, 3) := by decide +kernel
theorem dX2_goesOnWith_49 : decode cX2_goesOnWith 49 = .ok (.iconst 1, 1) := by decide +kernel
theorem dX2_goesOnWith_50 : decode cX2_goesOnWith 50 = .ok (.iadd, 1) := by decide +kernel
theorem dX2_goesOnWith_51 : decode cX2_goesOnWith 51 = .ok (.putfield 32, 3) := by decide +kernel
theorem dX2_goesOnWith_54 : decode cX2_goesOnWith 54 = .ok (.iconst 1, 1) := by decide +kernel
theorem dX2_goesOnWith_55 : decode cX2_goesOnWith 55 = .ok (.ireturn, 1) := by decide +kernel
theorem dX2_goesOnWith_56 : decode cX2_goesOnWith 56 = .ok (.aload_n 0, 1) := by decide +kernel
theorem dX2_goesOnWith_57 : decode cX2_goesOnWith 57 = .ok (.invokevirtual 50, 3) := by decide +kernel
theorem dX2_goesOnWith_60 : decode cX2_goesOnWith 60 = .ok (.aload_n 0, 1) := by decide +kernel
theorem dX2_goesOnWith_61 : decode cX2_goesOnWith 61 = .ok (.getfield 35, 3) := by decide +kernel
theorem dX2_goesOnWith_64 : decode cX2_goesOnWith 64 = .ok (.ifCond .ne 22, 3) := by decide +kernel
theorem dX2_goesOnWith_67 : decode cX2_goesOnWith 67 = .ok (.iload_n 1, 1) := by decide +kernel
theorem dX2_goesOnWith_68 : decode cX2_goesOnWith 68 = .ok (.bipush 41, 2) := by decide +kernel
theorem dX2_goesOnWith_70 : decode cX2_goesOnWith 70 = .ok (.if_icmp .ne 10, 3) := by decide +kernel
theorem dX2_goesOnWith_73 : decode cX2_goesOnWith 73 = .ok (.aload_n 0, 1) := by decide +kernel
theorem dX2_goesOnWith_74 : decode cX2_goesOnWith 74 = .ok (.invokevirtual 61, 3) := by decide +kernel
theorem dX2_goesOnWith_77 : decode cX2_goesOnWith 77 = .ok (.goto 8, 3) := by decide +kernel
theorem dX2_goesOnWith_80 : decode cX2_goesOnWith 80 = .ok (.aload_n 0, 1) := by decide +kernel
theorem dX2_goesOnWith_81 : decode cX2_goesOnWith 81 = .ok (.iload_n 1, 1) := by decide +kernel
theorem dX2_goesOnWith_82 : decode cX2_goesOnWith 82 = .ok (.invokevirtual 65, 3) := by decide +kernel
theorem dX2_goesOnWith_85 : decode cX2_goesOnWith 85 = .ok (.ireturn, 1) := by decide +kernel
theorem dX2_goesOnWith_86 : decode cX2_goesOnWith 86 = .ok (.iload_n 1, 1) := by decide +kernel
theorem dX2_goesOnWith_87 : decode cX2_goesOnWith 87 = .ok (.bipush 33, 2) := by decide +kernel
theorem dX2_goesOnWith_89 : decode cX2_goesOnWith 89 = .ok (.if_icmp .eq 9, 3) := by decide +kernel
theorem dX2_goesOnWith_92 : decode cX2_goesOnWith 92 = .ok (.iload_n 1, 1) := by decide +kernel
theorem dX2_goesOnWith_93 : decode cX2_goesOnWith 93 = .ok (.bipush 40, 2) := by decide +kernel
theorem dX2_goesOnWith_95 : decode cX2_goesOnWith 95 = .ok (.if_icmp .ne 9, 3) := by decide +kernel
theorem dX2_goesOnWith_98 : decode cX2_goesOnWith 98 = .ok (.aload_n 0, 1) := by decide +kernel
theorem dX2_goesOnWith_99 : decode cX2_goesOnWith 99 = .ok (.iload_n 1, 1) := by decide +kernel
theorem dX2_goesOnWith_100 : decode cX2_goesOnWith 100 = .ok (.invokevirtual 69, 3) := by decide +kernel
theorem dX2_goesOnWith_103 : decode cX2_goesOnWith 103 = .ok (.ireturn, 1) := by decide +kernel
theorem dX2_goesOnWith_104 : decode cX2_goesOnWith 104 = .ok (.iload_n 3, 1) := by decide +kernel
theorem dX2_goesOnWith_105 : decode cX2_goesOnWith 105 = .ok (.ifCond .eq 18, 3) := by decide +kernel
theorem dX2_goesOnWith_108 : decode cX2_goesOnWith 108 = .ok (.aload_n 0, 1) := by decide +kernel
theorem dX2_goesOnWith_109 : decode cX2_goesOnWith 109 = .ok (.iload_n 1, 1) := by decide +kernel
theorem dX2_goesOnWith_110 : decode cX2_goesOnWith 110 = .ok (.bipush 48, 2) := by decide +kernel
theorem dX2_goesOnWith_112 : decode cX2_goesOnWith 112 = .ok (.isub, 1) := by decide +kernel
theorem dX2_goesOnWith_113 : decode cX2_goesOnWith 113 = .ok (.putfield 29, 3) := by decide +kernel
theorem dX2_goesOnWith_116 : decode cX2_goesOnWith 116 = .ok (.aload_n 0, 1) := by decide +kernel
theorem dX2_goesOnWith_117 : decode cX2_goesOnWith 117 = .ok (.iconst 1, 1) := by decide +kernel
theorem dX2_goesOnWith_118 : decode cX2_goesOnWith 118 = .ok (.putfield 32, 3) := by decide +kernel
theorem dX2_goesOnWith_121 : decode cX2_goesOnWith 121 = .ok (.iconst 1, 1) := by decide +kernel
theorem dX2_goesOnWith_122 : decode cX2_goesOnWith 122 = .ok (.ireturn, 1) := by decide +kernel
theorem dX2_goesOnWith_123 : decode cX2_goesOnWith 123 = .ok (.aload_n 2, 1) := by decide +kernel
theorem dX2_goesOnWith_124 : decode cX2_goesOnWith 124 = .ok (.iload_n 1, 1) := by decide +kernel
theorem dX2_goesOnWith_125 : decode cX2_goesOnWith 125 = .ok (.i2c, 1) := by decide +kernel
theorem dX2_goesOnWith_126 : decode cX2_goesOnWith 126 = .ok (.invokevirtual 72, 3) := by decide +kernel
theorem dX2_goesOnWith_129 : decode cX2_goesOnWith 129 = .ok (.istore 4, 2) := by decide +kernel
theorem dX2_goesOnWith_131 : decode cX2_goesOnWith 131 = .ok (.iload 4, 2) := by decide +kernel
theorem dX2_goesOnWith_133 : decode cX2_goesOnWith 133 = .ok (.ifCond .lt 11, 3) := by decide +kernel
theorem dX2_goesOnWith_136 : decode cX2_goesOnWith 136 = .ok (.aload_n 0, 1) := by decide +kernel
theorem dX2_goesOnWith_137 : decode cX2_goesOnWith 137 = .ok (.iconst (-1), 1) := by decide +kernel
theorem dX2_goesOnWith_138 : decode cX2_goesOnWith 138 = .ok (.iload 4, 2) := by decide +kernel
theorem dX2_goesOnWith_140 : decode cX2_goesOnWith 140 = .ok (.isub, 1) := by decide +kernel
theorem dX2_goesOnWith_141 : decode cX2_goesOnWith 141 = .ok (.invokevirtual 78, 3) := by decide +kernel
theorem dX2_goesOnWith_144 : decode cX2_goesOnWith 144 = .ok (.iload 4, 2) := by decide +kernel
theorem dX2_goesOnWith_146 : decode cX2_goesOnWith 146 = .ok (.ifCond .lt 7, 3) := by decide +kernel
theorem dX2_goesOnWith_149 : decode cX2_goesOnWith 149 = .ok (.iconst 1, 1) := by decide +kernel
theorem dX2_goesOnWith_150 : decode cX2_goesOnWith 150 = .ok (.goto 4, 3) := by decide +kernel
theorem dX2_goesOnWith_153 : decode cX2_goesOnWith 153 = .ok (.iconst 0, 1) := by decide +kernel
theorem dX2_goesOnWith_154 : decode cX2_goesOnWith 154 = .ok (.ireturn, 1) := by decide +kernel
theorem dX2_opens_0 : decode cX2_opens 0 = .ok (.aload_n 0, 1) := by decide +kernel
theorem dX2_opens_1 : decode cX2_opens 1 = .ok (.getfield 26, 3) := by decide +kernel
theorem dX2_opens_4 : decode cX2_opens 4 = .ok (.iconst 5, 1) := by decide +kernel
theorem dX2_opens_5 : decode cX2_opens 5 = .ok (.if_icmp .lt 5, 3) := by decide +kernel
theorem dX2_opens_8 : decode cX2_opens 8 = .ok (.iconst 0, 1) := by decide +kernel
theorem dX2_opens_9 : decode cX2_opens 9 = .ok (.ireturn, 1) := by decide +kernel
theorem dX2_opens_10 : decode cX2_opens 10 = .ok (.aload_n 0, 1) := by decide +kernel
theorem dX2_opens_11 : decode cX2_opens 11 = .ok (.dup, 1) := by decide +kernel
theorem dX2_opens_12 : decode cX2_opens 12 = .ok (.getfield 26, 3) := by decide +kernel
theorem dX2_opens_15 : decode cX2_opens 15 = .ok (.iconst 1, 1) := by decide +kernel
theorem dX2_opens_16 : decode cX2_opens 16 = .ok (.iadd, 1) := by decide +kernel
theorem dX2_opens_17 : decode cX2_opens 17 = .ok (.putfield 26, 3) := by decide +kernel
theorem dX2_opens_20 : decode cX2_opens 20 = .ok (.aload_n 0, 1) := by decide +kernel
theorem dX2_opens_21 : decode cX2_opens 21 = .ok (.iload_n 1, 1) := by decide +kernel
theorem dX2_opens_22 : decode cX2_opens 22 = .ok (.invokevirtual 81, 3) := by decide +kernel
theorem dX2_opens_25 : decode cX2_opens 25 = .ok (.iconst 1, 1) := by decide +kernel
theorem dX2_opens_26 : decode cX2_opens 26 = .ok (.ireturn, 1) := by decide +kernel
theorem dX2_closes_0 : decode cX2_closes 0 = .ok (.aload_n 0, 1) := by decide +kernel
theorem dX2_closes_1 : decode cX2_closes 1 = .ok (.iconst 0, 1) := by decide +kernel
theorem dX2_closes_2 : decode cX2_closes 2 = .ok (.invokevirtual 53, 3) := by decide +kernel
theorem dX2_closes_5 : decode cX2_closes 5 = .ok (.aload_n 0, 1) := by decide +kernel
theorem dX2_closes_6 : decode cX2_closes 6 = .ok (.getfield 22, 3) := by decide +kernel
theorem dX2_closes_9 : decode cX2_closes 9 = .ok (.ifCond .ne 5, 3) := by decide +kernel
theorem dX2_closes_12 : decode cX2_closes 12 = .ok (.iconst 0, 1) := by decide +kernel
theorem dX2_closes_13 : decode cX2_closes 13 = .ok (.ireturn, 1) := by decide +kernel
theorem dX2_closes_14 : decode cX2_closes 14 = .ok (.aload_n 0, 1) := by decide +kernel
theorem dX2_closes_15 : decode cX2_closes 15 = .ok (.dup, 1) := by decide +kernel
theorem dX2_closes_16 : decode cX2_closes 16 = .ok (.getfield 22, 3) := by decide +kernel
theorem dX2_closes_19 : decode cX2_closes 19 = .ok (.iconst 1, 1) := by decide +kernel
theorem dX2_closes_20 : decode cX2_closes 20 = .ok (.isub, 1) := by decide +kernel
theorem dX2_closes_21 : decode cX2_closes 21 = .ok (.putfield 22, 3) := by decide +kernel
theorem dX2_closes_24 : decode cX2_closes 24 = .ok (.aload_n 0, 1) := by decide +kernel
theorem dX2_closes_25 : decode cX2_closes 25 = .ok (.dup, 1) := by decide +kernel
theorem dX2_closes_26 : decode cX2_closes 26 = .ok (.getfield 26, 3) := by decide +kernel
theorem dX2_closes_29 : decode cX2_closes 29 = .ok (.iconst 1, 1) := by decide +kernel
theorem dX2_closes_30 : decode cX2_closes 30 = .ok (.isub, 1) := by decide +kernel
theorem dX2_closes_31 : decode cX2_closes 31 = .ok (.putfield 26, 3) := by decide +kernel
theorem dX2_closes_34 : decode cX2_closes 34 = .ok (.aload_n 0, 1) := by decide +kernel
theorem dX2_closes_35 : decode cX2_closes 35 = .ok (.invokevirtual 84, 3) := by decide +kernel
theorem dX2_closes_38 : decode cX2_closes 38 = .ok (.iconst 1, 1) := by decide +kernel
theorem dX2_closes_39 : decode cX2_closes 39 = .ok (.ireturn, 1) := by decide +kernel
theorem dX2_joins_0 : decode cX2_joins 0 = .ok (.iload_n 1, 1) := by decide +kernel
theorem dX2_joins_1 : decode cX2_joins 1 = .ok (.invokestatic 87, 3) := by decide +kernel
theorem dX2_joins_4 : decode cX2_joins 4 = .ok (.istore_n 2, 1) := by decide +kernel
theorem dX2_joins_5 : decode cX2_joins 5 = .ok (.iload_n 2, 1) := by decide +kernel
theorem dX2_joins_6 : decode cX2_joins 6 = .ok (.ifCond .ne 5, 3) := by decide +kernel
theorem dX2_joins_9 : decode cX2_joins 9 = .ok (.iconst 0, 1) := by decide +kernel
theorem dX2_joins_10 : decode cX2_joins 10 = .ok (.ireturn, 1) := by decide +kernel
theorem dX2_joins_11 : decode cX2_joins 11 = .ok (.aload_n 0, 1) := by decide +kernel
theorem dX2_joins_12 : decode cX2_joins 12 = .ok (.iload_n 2, 1) := by decide +kernel
theorem dX2_joins_13 : decode cX2_joins 13 = .ok (.invokevirtual 53, 3) := by decide +kernel
theorem dX2_joins_16 : decode cX2_joins 16 = .ok (.iload_n 2, 1) := by decide +kernel
theorem dX2_joins_17 : decode cX2_joins 17 = .ok (.iconst 3, 1) := by decide +kernel
theorem dX2_joins_18 : decode cX2_joins 18 = .ok (.if_icmp .ne 16, 3) := by decide +kernel
theorem dX2_joins_21 : decode cX2_joins 21 = .ok (.aload_n 0, 1) := by decide +kernel
theorem dX2_joins_22 : decode cX2_joins 22 = .ok (.invokevirtual 90, 3) := by decide +kernel
theorem dX2_joins_25 : decode cX2_joins 25 = .ok (.invokestatic 87, 3) := by decide +kernel
theorem dX2_joins_28 : decode cX2_joins 28 = .ok (.iconst 3, 1) := by decide +kernel
theorem dX2_joins_29 : decode cX2_joins 29 = .ok (.if_icmp .ne 5, 3) := by decide +kernel
theorem dX2_joins_32 : decode cX2_joins 32 = .ok (.iconst 0, 1) := by decide +kernel
theorem dX2_joins_33 : decode cX2_joins 33 = .ok (.ireturn, 1) := by decide +kernel
theorem dX2_joins_34 : decode cX2_joins 34 = .ok (.aload_n 0, 1) := by decide +kernel
theorem dX2_joins_35 : decode cX2_joins 35 = .ok (.iload_n 2, 1) := by decide +kernel
theorem dX2_joins_36 : decode cX2_joins 36 = .ok (.iconst 1, 1) := by decide +kernel
theorem dX2_joins_37 : decode cX2_joins 37 = .ok (.isub, 1) := by decide +kernel
theorem dX2_joins_38 : decode cX2_joins 38 = .ok (.invokevirtual 53, 3) := by decide +kernel
theorem dX2_joins_41 : decode cX2_joins 41 = .ok (.aload_n 0, 1) := by decide +kernel
theorem dX2_joins_42 : decode cX2_joins 42 = .ok (.iload_n 1, 1) := by decide +kernel
theorem dX2_joins_43 : decode cX2_joins 43 = .ok (.invokevirtual 81, 3) := by decide +kernel
theorem dX2_joins_46 : decode cX2_joins 46 = .ok (.aload_n 0, 1) := by decide +kernel
theorem dX2_joins_47 : decode cX2_joins 47 = .ok (.iconst 1, 1) := by decide +kernel
theorem dX2_joins_48 : decode cX2_joins 48 = .ok (.putfield 35, 3) := by decide +kernel
theorem dX2_joins_51 : decode cX2_joins 51 = .ok (.iconst 1, 1) := by decide +kernel
theorem dX2_joins_52 : decode cX2_joins 52 = .ok (.ireturn, 1) := by decide +kernel
theorem dX2_endNumber_0 : decode cX2_endNumber 0 = .ok (.aload_n 0, 1) := by decide +kernel
theorem dX2_endNumber_1 : decode cX2_endNumber 1 = .ok (.getfield 32, 3) := by decide +kernel
theorem dX2_endNumber_4 : decode cX2_endNumber 4 = .ok (.ifCond .le 16, 3) := by decide +kernel
theorem dX2_endNumber_7 : decode cX2_endNumber 7 = .ok (.aload_n 0, 1) := by decide +kernel
theorem dX2_endNumber_8 : decode cX2_endNumber 8 = .ok (.iconst 0, 1) := by decide +kernel
theorem dX2_endNumber_9 : decode cX2_endNumber 9 = .ok (.putfield 32, 3) := by decide +kernel
theorem dX2_endNumber_12 : decode cX2_endNumber 12 = .ok (.aload_n 0, 1) := by decide +kernel
theorem dX2_endNumber_13 : decode cX2_endNumber 13 = .ok (.aload_n 0, 1) := by decide +kernel
theorem dX2_endNumber_14 : decode cX2_endNumber 14 = .ok (.getfield 29, 3) := by decide +kernel
theorem dX2_endNumber_17 : decode cX2_endNumber 17 = .ok (.invokevirtual 78, 3) := by decide +kernel
theorem dX2_endNumber_20 : decode cX2_endNumber 20 = .ok (.return_, 1) := by decide +kernel
theorem dX2_endOperand_0 : decode cX2_endOperand 0 = .ok (.aload_n 0, 1) := by decide +kernel
theorem dX2_endOperand_1 : decode cX2_endOperand 1 = .ok (.getfield 12, 3) := by decide +kernel
theorem dX2_endOperand_4 : decode cX2_endOperand 4 = .ok (.iload_n 1, 1) := by decide +kernel
theorem dX2_endOperand_5 : decode cX2_endOperand 5 = .ok (.invokevirtual 94, 3) := by decide +kernel
theorem dX2_endOperand_8 : decode cX2_endOperand 8 = .ok (.aload_n 0, 1) := by decide +kernel
theorem dX2_endOperand_9 : decode cX2_endOperand 9 = .ok (.invokevirtual 84, 3) := by decide +kernel
theorem dX2_endOperand_12 : decode cX2_endOperand 12 = .ok (.aload_n 0, 1) := by decide +kernel
theorem dX2_endOperand_13 : decode cX2_endOperand 13 = .ok (.iconst 0, 1) := by decide +kernel
theorem dX2_endOperand_14 : decode cX2_endOperand 14 = .ok (.putfield 35, 3) := by decide +kernel
theorem dX2_endOperand_17 : decode cX2_endOperand 17 = .ok (.return_, 1) := by decide +kernel
theorem dX2_settle_0 : decode cX2_settle 0 = .ok (.aload_n 0, 1) := by decide +kernel
theorem dX2_settle_1 : decode cX2_settle 1 = .ok (.getfield 22, 3) := by decide +kernel
theorem dX2_settle_4 : decode cX2_settle 4 = .ok (.ifCond .le 42, 3) := by decide +kernel
theorem dX2_settle_7 : decode cX2_settle 7 = .ok (.aload_n 0, 1) := by decide +kernel
theorem dX2_settle_8 : decode cX2_settle 8 = .ok (.invokevirtual 90, 3) := by decide +kernel
theorem dX2_settle_11 : decode cX2_settle 11 = .ok (.invokestatic 87, 3) := by decide +kernel
theorem dX2_settle_14 : decode cX2_settle 14 = .ok (.iload_n 1, 1) := by decide +kernel
theorem dX2_settle_15 : decode cX2_settle 15 = .ok (.if_icmp .le 31, 3) := by decide +kernel
theorem dX2_settle_18 : decode cX2_settle 18 = .ok (.aload_n 0, 1) := by decide +kernel
theorem dX2_settle_19 : decode cX2_settle 19 = .ok (.getfield 12, 3) := by decide +kernel
theorem dX2_settle_22 : decode cX2_settle 22 = .ok (.sipush 10000, 3) := by decide +kernel
theorem dX2_settle_25 : decode cX2_settle 25 = .ok (.aload_n 0, 1) := by decide +kernel
theorem dX2_settle_26 : decode cX2_settle 26 = .ok (.invokevirtual 90, 3) := by decide +kernel
theorem dX2_settle_29 : decode cX2_settle 29 = .ok (.iadd, 1) := by decide +kernel
theorem dX2_settle_30 : decode cX2_settle 30 = .ok (.invokevirtual 94, 3) := by decide +kernel
theorem dX2_settle_33 : decode cX2_settle 33 = .ok (.aload_n 0, 1) := by decide +kernel
theorem dX2_settle_34 : decode cX2_settle 34 = .ok (.dup, 1) := by decide +kernel
theorem dX2_settle_35 : decode cX2_settle 35 = .ok (.getfield 22, 3) := by decide +kernel
theorem dX2_settle_38 : decode cX2_settle 38 = .ok (.iconst 1, 1) := by decide +kernel
theorem dX2_settle_39 : decode cX2_settle 39 = .ok (.isub, 1) := by decide +kernel
theorem dX2_settle_40 : decode cX2_settle 40 = .ok (.putfield 22, 3) := by decide +kernel
theorem dX2_settle_43 : decode cX2_settle 43 = .ok (.goto (-43), 3) := by decide +kernel
theorem dX2_settle_46 : decode cX2_settle 46 = .ok (.return_, 1) := by decide +kernel
theorem dX2_settleNots_0 : decode cX2_settleNots 0 = .ok (.aload_n 0, 1) := by decide +kernel
theorem dX2_settleNots_1 : decode cX2_settleNots 1 = .ok (.getfield 22, 3) := by decide +kernel
theorem dX2_settleNots_4 : decode cX2_settleNots 4 = .ok (.ifCond .le 45, 3) := by decide +kernel
theorem dX2_settleNots_7 : decode cX2_settleNots 7 = .ok (.aload_n 0, 1) := by decide +kernel
theorem dX2_settleNots_8 : decode cX2_settleNots 8 = .ok (.invokevirtual 90, 3) := by decide +kernel
theorem dX2_settleNots_11 : decode cX2_settleNots 11 = .ok (.bipush 33, 2) := by decide +kernel
theorem dX2_settleNots_13 : decode cX2_settleNots 13 = .ok (.if_icmp .ne 36, 3) := by decide +kernel
theorem dX2_settleNots_16 : decode cX2_settleNots 16 = .ok (.aload_n 0, 1) := by decide +kernel
theorem dX2_settleNots_17 : decode cX2_settleNots 17 = .ok (.getfield 12, 3) := by decide +kernel
theorem dX2_settleNots_20 : decode cX2_settleNots 20 = .ok (.sipush 10033, 3) := by decide +kernel
theorem dX2_settleNots_23 : decode cX2_settleNots 23 = .ok (.invokevirtual 94, 3) := by decide +kernel
theorem dX2_settleNots_26 : decode cX2_settleNots 26 = .ok (.aload_n 0, 1) := by decide +kernel
theorem dX2_settleNots_27 : decode cX2_settleNots 27 = .ok (.dup, 1) := by decide +kernel
theorem dX2_settleNots_28 : decode cX2_settleNots 28 = .ok (.getfield 22, 3) := by decide +kernel
theorem dX2_settleNots_31 : decode cX2_settleNots 31 = .ok (.iconst 1, 1) := by decide +kernel
theorem dX2_settleNots_32 : decode cX2_settleNots 32 = .ok (.isub, 1) := by decide +kernel
theorem dX2_settleNots_33 : decode cX2_settleNots 33 = .ok (.putfield 22, 3) := by decide +kernel
theorem dX2_settleNots_36 : decode cX2_settleNots 36 = .ok (.aload_n 0, 1) := by decide +kernel
theorem dX2_settleNots_37 : decode cX2_settleNots 37 = .ok (.dup, 1) := by decide +kernel
theorem dX2_settleNots_38 : decode cX2_settleNots 38 = .ok (.getfield 26, 3) := by decide +kernel
theorem dX2_settleNots_41 : decode cX2_settleNots 41 = .ok (.iconst 1, 1) := by decide +kernel
theorem dX2_settleNots_42 : decode cX2_settleNots 42 = .ok (.isub, 1) := by decide +kernel
theorem dX2_settleNots_43 : decode cX2_settleNots 43 = .ok (.putfield 26, 3) := by decide +kernel
theorem dX2_settleNots_46 : decode cX2_settleNots 46 = .ok (.goto (-46), 3) := by decide +kernel
theorem dX2_settleNots_49 : decode cX2_settleNots 49 = .ok (.return_, 1) := by decide +kernel
theorem dX2_push_0 : decode cX2_push 0 = .ok (.aload_n 0, 1) := by decide +kernel
theorem dX2_push_1 : decode cX2_push 1 = .ok (.getfield 18, 3) := by decide +kernel
theorem dX2_push_4 : decode cX2_push 4 = .ok (.aload_n 0, 1) := by decide +kernel
theorem dX2_push_5 : decode cX2_push 5 = .ok (.getfield 22, 3) := by decide +kernel
theorem dX2_push_8 : decode cX2_push 8 = .ok (.iload_n 1, 1) := by decide +kernel
theorem dX2_push_9 : decode cX2_push 9 = .ok (.invokestatic 97, 3) := by decide +kernel
theorem dX2_push_12 : decode cX2_push 12 = .ok (.pop, 1) := by decide +kernel
theorem dX2_push_13 : decode cX2_push 13 = .ok (.aload_n 0, 1) := by decide +kernel
theorem dX2_push_14 : decode cX2_push 14 = .ok (.bipush 60, 2) := by decide +kernel
theorem dX2_push_16 : decode cX2_push 16 = .ok (.aload_n 0, 1) := by decide +kernel
theorem dX2_push_17 : decode cX2_push 17 = .ok (.getfield 22, 3) := by decide +kernel
theorem dX2_push_20 : decode cX2_push 20 = .ok (.iconst 1, 1) := by decide +kernel
theorem dX2_push_21 : decode cX2_push 21 = .ok (.iadd, 1) := by decide +kernel
theorem dX2_push_22 : decode cX2_push 22 = .ok (.invokestatic 101, 3) := by decide +kernel
theorem dX2_push_25 : decode cX2_push 25 = .ok (.putfield 22, 3) := by decide +kernel
theorem dX2_push_28 : decode cX2_push 28 = .ok (.return_, 1) := by decide +kernel
theorem dX2_top_0 : decode cX2_top 0 = .ok (.aload_n 0, 1) := by decide +kernel
theorem dX2_top_1 : decode cX2_top 1 = .ok (.getfield 18, 3) := by decide +kernel
theorem dX2_top_4 : decode cX2_top 4 = .ok (.aload_n 0, 1) := by decide +kernel
theorem dX2_top_5 : decode cX2_top 5 = .ok (.getfield 22, 3) := by decide +kernel
theorem dX2_top_8 : decode cX2_top 8 = .ok (.iconst 1, 1) := by decide +kernel
theorem dX2_top_9 : decode cX2_top 9 = .ok (.isub, 1) := by decide +kernel
theorem dX2_top_10 : decode cX2_top 10 = .ok (.invokestatic 42, 3) := by decide +kernel
theorem dX2_top_13 : decode cX2_top 13 = .ok (.ireturn, 1) := by decide +kernel
theorem dX2_rankOf_0 : decode cX2_rankOf 0 = .ok (.iload_n 0, 1) := by decide +kernel
theorem dX2_rankOf_1 : decode cX2_rankOf 1 = .ok (.lookupswitch 101 #[(37, 99), (38, 93), (42, 99), (43, 97), (45, 97), (47, 99), (60, 95), (61, 95), (62, 95), (124, 91)], 91) := by decide +kernel
theorem dX2_rankOf_92 : decode cX2_rankOf 92 = .ok (.iconst 1, 1) := by decide +kernel
theorem dX2_rankOf_93 : decode cX2_rankOf 93 = .ok (.ireturn, 1) := by decide +kernel
theorem dX2_rankOf_94 : decode cX2_rankOf 94 = .ok (.iconst 2, 1) := by decide +kernel
theorem dX2_rankOf_95 : decode cX2_rankOf 95 = .ok (.ireturn, 1) := by decide +kernel
theorem dX2_rankOf_96 : decode cX2_rankOf 96 = .ok (.iconst 3, 1) := by decide +kernel
theorem dX2_rankOf_97 : decode cX2_rankOf 97 = .ok (.ireturn, 1) := by decide +kernel
theorem dX2_rankOf_98 : decode cX2_rankOf 98 = .ok (.iconst 4, 1) := by decide +kernel
theorem dX2_rankOf_99 : decode cX2_rankOf 99 = .ok (.ireturn, 1) := by decide +kernel
theorem dX2_rankOf_100 : decode cX2_rankOf 100 = .ok (.iconst 5, 1) := by decide +kernel
theorem dX2_rankOf_101 : decode cX2_rankOf 101 = .ok (.ireturn, 1) := by decide +kernel
theorem dX2_rankOf_102 : decode cX2_rankOf 102 = .ok (.iconst 0, 1) := by decide +kernel
theorem dX2_rankOf_103 : decode cX2_rankOf 103 = .ok (.ireturn, 1) := by decide +kernel
theorem dX3_init_0 : decode cX3_init 0 = .ok (.aload_n 0, 1) := by decide +kernel
theorem dX3_init_1 : decode cX3_init 1 = .ok (.invokespecial 3, 3) := by decide +kernel
theorem dX3_init_4 : decode cX3_init 4 = .ok (.aload_n 0, 1) := by decide +kernel
theorem dX3_init_5 : decode cX3_init 5 = .ok (.bipush 10, 2) := by decide +kernel
theorem dX3_init_7 : decode cX3_init 7 = .ok (.newarray .int, 2) := by decide +kernel
theorem dX3_init_9 : decode cX3_init 9 = .ok (.putfield 9, 3) := by decide +kernel
theorem dX3_init_12 : decode cX3_init 12 = .ok (.aload_n 0, 1) := by decide +kernel
theorem dX3_init_13 : decode cX3_init 13 = .ok (.bipush 10, 2) := by decide +kernel
theorem dX3_init_15 : decode cX3_init 15 = .ok (.newarray .int, 2) := by decide +kernel
theorem dX3_init_17 : decode cX3_init 17 = .ok (.putfield 15, 3) := by decide +kernel
theorem dX3_init_20 : decode cX3_init 20 = .ok (.aload_n 0, 1) := by decide +kernel
theorem dX3_init_21 : decode cX3_init 21 = .ok (.bipush 8, 2) := by decide +kernel
theorem dX3_init_23 : decode cX3_init 23 = .ok (.newarray .int, 2) := by decide +kernel
theorem dX3_init_25 : decode cX3_init 25 = .ok (.putfield 18, 3) := by decide +kernel
theorem dX3_init_28 : decode cX3_init 28 = .ok (.aload_n 0, 1) := by decide +kernel
theorem dX3_init_29 : decode cX3_init 29 = .ok (.bipush 8, 2) := by decide +kernel
theorem dX3_init_31 : decode cX3_init 31 = .ok (.newarray .int, 2) := by decide +kernel
theorem dX3_init_33 : decode cX3_init 33 = .ok (.putfield 21, 3) := by decide +kernel
theorem dX3_init_36 : decode cX3_init 36 = .ok (.aload_n 0, 1) := by decide +kernel
theorem dX3_init_37 : decode cX3_init 37 = .ok (.bipush 8, 2) := by decide +kernel
theorem dX3_init_39 : decode cX3_init 39 = .ok (.newarray .int, 2) := by decide +kernel
theorem dX3_init_41 : decode cX3_init 41 = .ok (.putfield 24, 3) := by decide +kernel
theorem dX3_init_44 : decode cX3_init 44 = .ok (.aload_n 0, 1) := by decide +kernel
theorem dX3_init_45 : decode cX3_init 45 = .ok (.iconst 0, 1) := by decide +kernel
theorem dX3_init_46 : decode cX3_init 46 = .ok (.putfield 27, 3) := by decide +kernel
theorem dX3_init_49 : decode cX3_init 49 = .ok (.return_, 1) := by decide +kernel
theorem dX3_mayStand_0 : decode cX3_mayStand 0 = .ok (.iload_n 0, 1) := by decide +kernel
theorem dX3_mayStand_1 : decode cX3_mayStand 1 = .ok (.iconst 0, 1) := by decide +kernel
theorem dX3_mayStand_2 : decode cX3_mayStand 2 = .ok (.bipush 99, 2) := by decide +kernel
theorem dX3_mayStand_4 : decode cX3_mayStand 4 = .ok (.invokestatic 31, 3) := by decide +kernel
theorem dX3_mayStand_7 : decode cX3_mayStand 7 = .ok (.ifCond .eq 17, 3) := by decide +kernel
theorem dX3_mayStand_10 : decode cX3_mayStand 10 = .ok (.iload_n 1, 1) := by decide +kernel
theorem dX3_mayStand_11 : decode cX3_mayStand 11 = .ok (.iconst 0, 1) := by decide +kernel
theorem dX3_mayStand_12 : decode cX3_mayStand 12 = .ok (.bipush 99, 2) := by decide +kernel
theorem dX3_mayStand_14 : decode cX3_mayStand 14 = .ok (.invokestatic 31, 3) := by decide +kernel
theorem dX3_mayStand_17 : decode cX3_mayStand 17 = .ok (.ifCond .eq 7, 3) := by decide +kernel
theorem dX3_mayStand_20 : decode cX3_mayStand 20 = .ok (.iconst 1, 1) := by decide +kernel
theorem dX3_mayStand_21 : decode cX3_mayStand 21 = .ok (.goto 4, 3) := by decide +kernel
theorem dX3_mayStand_24 : decode cX3_mayStand 24 = .ok (.iconst 0, 1) := by decide +kernel
theorem dX3_mayStand_25 : decode cX3_mayStand 25 = .ok (.ireturn, 1) := by decide +kernel
theorem dX3_become_0 : decode cX3_become 0 = .ok (.aload_n 1, 1) := by decide +kernel
theorem dX3_become_1 : decode cX3_become 1 = .ok (.getfield 9, 3) := by decide +kernel
theorem dX3_become_4 : decode cX3_become 4 = .ok (.aload_n 0, 1) := by decide +kernel
theorem dX3_become_5 : decode cX3_become 5 = .ok (.getfield 9, 3) := by decide +kernel
theorem dX3_become_8 : decode cX3_become 8 = .ok (.invokestatic 35, 3) := by decide +kernel
theorem dX3_become_11 : decode cX3_become 11 = .ok (.aload_n 1, 1) := by decide +kernel
theorem dX3_become_12 : decode cX3_become 12 = .ok (.getfield 15, 3) := by decide +kernel
theorem dX3_become_15 : decode cX3_become 15 = .ok (.aload_n 0, 1) := by decide +kernel
theorem dX3_become_16 : decode cX3_become 16 = .ok (.getfield 15, 3) := by decide +kernel
theorem dX3_become_19 : decode cX3_become 19 = .ok (.invokestatic 35, 3) := by decide +kernel
theorem dX3_become_22 : decode cX3_become 22 = .ok (.aload_n 1, 1) := by decide +kernel
theorem dX3_become_23 : decode cX3_become 23 = .ok (.getfield 18, 3) := by decide +kernel
theorem dX3_become_26 : decode cX3_become 26 = .ok (.aload_n 0, 1) := by decide +kernel
theorem dX3_become_27 : decode cX3_become 27 = .ok (.getfield 18, 3) := by decide +kernel
theorem dX3_become_30 : decode cX3_become 30 = .ok (.invokestatic 35, 3) := by decide +kernel
theorem dX3_become_33 : decode cX3_become 33 = .ok (.aload_n 1, 1) := by decide +kernel
theorem dX3_become_34 : decode cX3_become 34 = .ok (.getfield 21, 3) := by decide +kernel
theorem dX3_become_37 : decode cX3_become 37 = .ok (.aload_n 0, 1) := by decide +kernel
theorem dX3_become_38 : decode cX3_become 38 = .ok (.getfield 21, 3) := by decide +kernel
theorem dX3_become_41 : decode cX3_become 41 = .ok (.invokestatic 35, 3) := by decide +kernel
theorem dX3_become_44 : decode cX3_become 44 = .ok (.aload_n 1, 1) := by decide +kernel
theorem dX3_become_45 : decode cX3_become 45 = .ok (.getfield 24, 3) := by decide +kernel
theorem dX3_become_48 : decode cX3_become 48 = .ok (.aload_n 0, 1) := by decide +kernel
theorem dX3_become_49 : decode cX3_become 49 = .ok (.getfield 24, 3) := by decide +kernel
theorem dX3_become_52 : decode cX3_become 52 = .ok (.invokestatic 35, 3) := by decide +kernel
theorem dX3_become_55 : decode cX3_become 55 = .ok (.aload_n 0, 1) := by decide +kernel
theorem dX3_become_56 : decode cX3_become 56 = .ok (.aload_n 1, 1) := by decide +kernel
theorem dX3_become_57 : decode cX3_become 57 = .ok (.getfield 27, 3) := by decide +kernel
theorem dX3_become_60 : decode cX3_become 60 = .ok (.putfield 27, 3) := by decide +kernel
theorem dX3_become_63 : decode cX3_become 63 = .ok (.return_, 1) := by decide +kernel
theorem dX3_add_0 : decode cX3_add 0 = .ok (.aload_n 0, 1) := by decide +kernel
theorem dX3_add_1 : decode cX3_add 1 = .ok (.getfield 27, 3) := by decide +kernel
theorem dX3_add_4 : decode cX3_add 4 = .ok (.istore_n 3, 1) := by decide +kernel
theorem dX3_add_5 : decode cX3_add 5 = .ok (.aload_n 0, 1) := by decide +kernel
theorem dX3_add_6 : decode cX3_add 6 = .ok (.getfield 18, 3) := by decide +kernel
theorem dX3_add_9 : decode cX3_add 9 = .ok (.iload_n 3, 1) := by decide +kernel
theorem dX3_add_10 : decode cX3_add 10 = .ok (.iload_n 1, 1) := by decide +kernel
theorem dX3_add_11 : decode cX3_add 11 = .ok (.invokestatic 39, 3) := by decide +kernel
theorem dX3_add_14 : decode cX3_add 14 = .ok (.pop, 1) := by decide +kernel
theorem dX3_add_15 : decode cX3_add 15 = .ok (.aload_n 0, 1) := by decide +kernel
theorem dX3_add_16 : decode cX3_add 16 = .ok (.getfield 21, 3) := by decide +kernel
theorem dX3_add_19 : decode cX3_add 19 = .ok (.iload_n 3, 1) := by decide +kernel
theorem dX3_add_20 : decode cX3_add 20 = .ok (.iload_n 2, 1) := by decide +kernel
theorem dX3_add_21 : decode cX3_add 21 = .ok (.invokestatic 39, 3) := by decide +kernel
theorem dX3_add_24 : decode cX3_add 24 = .ok (.pop, 1) := by decide +kernel
theorem dX3_add_25 : decode cX3_add 25 = .ok (.aload_n 0, 1) := by decide +kernel
theorem dX3_add_26 : decode cX3_add 26 = .ok (.getfield 24, 3) := by decide +kernel
theorem dX3_add_29 : decode cX3_add 29 = .ok (.iload_n 3, 1) := by decide +kernel
theorem dX3_add_30 : decode cX3_add 30 = .ok (.iconst 0, 1) := by decide +kernel
theorem dX3_add_31 : decode cX3_add 31 = .ok (.invokestatic 39, 3) := by decide +kernel
theorem dX3_add_34 : decode cX3_add 34 = .ok (.pop, 1) := by decide +kernel
theorem dX3_add_35 : decode cX3_add 35 = .ok (.aload_n 0, 1) := by decide +kernel
theorem dX3_add_36 : decode cX3_add 36 = .ok (.bipush 8, 2) := by decide +kernel
theorem dX3_add_38 : decode cX3_add 38 = .ok (.iload_n 3, 1) := by decide +kernel
theorem dX3_add_39 : decode cX3_add 39 = .ok (.iconst 1, 1) := by decide +kernel
theorem dX3_add_40 : decode cX3_add 40 = .ok (.iadd, 1) := by decide +kernel
theorem dX3_add_41 : decode cX3_add 41 = .ok (.invokestatic 43, 3) := by decide +kernel
theorem dX3_add_44 : decode cX3_add 44 = .ok (.putfield 27, 3) := by decide +kernel
theorem dX3_add_47 : decode cX3_add 47 = .ok (.iload_n 3, 1) := by decide +kernel
theorem dX3_add_48 : decode cX3_add 48 = .ok (.ireturn, 1) := by decide +kernel
theorem dX3_row_0 : decode cX3_row 0 = .ok (.iload_n 1, 1) := by decide +kernel
theorem dX3_row_1 : decode cX3_row 1 = .ok (.ifCond .ne 10, 3) := by decide +kernel
theorem dX3_row_4 : decode cX3_row 4 = .ok (.aload_n 0, 1) := by decide +kernel
theorem dX3_row_5 : decode cX3_row 5 = .ok (.getfield 18, 3) := by decide +kernel
theorem dX3_row_8 : decode cX3_row 8 = .ok (.goto 19, 3) := by decide +kernel
theorem dX3_row_11 : decode cX3_row 11 = .ok (.iload_n 1, 1) := by decide +kernel
theorem dX3_row_12 : decode cX3_row 12 = .ok (.iconst 1, 1) := by decide +kernel
theorem dX3_row_13 : decode cX3_row 13 = .ok (.if_icmp .ne 10, 3) := by decide +kernel
theorem dX3_row_16 : decode cX3_row 16 = .ok (.aload_n 0, 1) := by decide +kernel
theorem dX3_row_17 : decode cX3_row 17 = .ok (.getfield 21, 3) := by decide +kernel
theorem dX3_row_20 : decode cX3_row 20 = .ok (.goto 7, 3) := by decide +kernel
theorem dX3_row_23 : decode cX3_row 23 = .ok (.aload_n 0, 1) := by decide +kernel
theorem dX3_row_24 : decode cX3_row 24 = .ok (.getfield 24, 3) := by decide +kernel
theorem dX3_row_27 : decode cX3_row 27 = .ok (.areturn, 1) := by decide +kernel
theorem dX3_distance_0 : decode cX3_distance 0 = .ok (.aload_n 0, 1) := by decide +kernel
theorem dX3_distance_1 : decode cX3_distance 1 = .ok (.getfield 18, 3) := by decide +kernel
theorem dX3_distance_4 : decode cX3_distance 4 = .ok (.iload_n 1, 1) := by decide +kernel
theorem dX3_distance_5 : decode cX3_distance 5 = .ok (.invokestatic 49, 3) := by decide +kernel
theorem dX3_distance_8 : decode cX3_distance 8 = .ok (.iload_n 2, 1) := by decide +kernel
theorem dX3_distance_9 : decode cX3_distance 9 = .ok (.isub, 1) := by decide +kernel
theorem dX3_distance_10 : decode cX3_distance 10 = .ok (.invokestatic 53, 3) := by decide +kernel
theorem dX3_distance_13 : decode cX3_distance 13 = .ok (.ireturn, 1) := by decide +kernel
theorem dX3_nearestTo_0 : decode cX3_nearestTo 0 = .ok (.iconst (-1), 1) := by decide +kernel
theorem dX3_nearestTo_1 : decode cX3_nearestTo 1 = .ok (.istore_n 2, 1) := by decide +kernel
theorem dX3_nearestTo_2 : decode cX3_nearestTo 2 = .ok (.bipush 100, 2) := by decide +kernel
theorem dX3_nearestTo_4 : decode cX3_nearestTo 4 = .ok (.istore_n 3, 1) := by decide +kernel
theorem dX3_nearestTo_5 : decode cX3_nearestTo 5 = .ok (.iconst 0, 1) := by decide +kernel
theorem dX3_nearestTo_6 : decode cX3_nearestTo 6 = .ok (.istore 4, 2) := by decide +kernel
theorem dX3_nearestTo_8 : decode cX3_nearestTo 8 = .ok (.iload 4, 2) := by decide +kernel
theorem dX3_nearestTo_10 : decode cX3_nearestTo 10 = .ok (.aload_n 0, 1) := by decide +kernel
theorem dX3_nearestTo_11 : decode cX3_nearestTo 11 = .ok (.getfield 27, 3) := by decide +kernel
theorem dX3_nearestTo_14 : decode cX3_nearestTo 14 = .ok (.if_icmp .ge 31, 3) := by decide +kernel
theorem dX3_nearestTo_17 : decode cX3_nearestTo 17 = .ok (.aload_n 0, 1) := by decide +kernel
theorem dX3_nearestTo_18 : decode cX3_nearestTo 18 = .ok (.iload 4, 2) := by decide +kernel
theorem dX3_nearestTo_20 : decode cX3_nearestTo 20 = .ok (.iload_n 1, 1) := by decide +kernel
theorem dX3_nearestTo_21 : decode cX3_nearestTo 21 = .ok (.invokevirtual 57, 3) := by decide +kernel
theorem dX3_nearestTo_24 : decode cX3_nearestTo 24 = .ok (.iload_n 3, 1) := by decide +kernel
theorem dX3_nearestTo_25 : decode cX3_nearestTo 25 = .ok (.if_icmp .ge 14, 3) := by decide +kernel
theorem dX3_nearestTo_28 : decode cX3_nearestTo 28 = .ok (.aload_n 0, 1) := by decide +kernel
theorem dX3_nearestTo_29 : decode cX3_nearestTo 29 = .ok (.iload 4, 2) := by decide +kernel
theorem dX3_nearestTo_31 : decode cX3_nearestTo 31 = .ok (.iload_n 1, 1) := by decide +kernel
theorem dX3_nearestTo_32 : decode cX3_nearestTo 32 = .ok (.invokevirtual 57, 3) := by decide +kernel
theorem dX3_nearestTo_35 : decode cX3_nearestTo 35 = .ok (.istore_n 3, 1) := by decide +kernel
theorem dX3_nearestTo_36 : decode cX3_nearestTo 36 = .ok (.iload 4, 2) := by decide +kernel
theorem dX3_nearestTo_38 : decode cX3_nearestTo 38 = .ok (.istore_n 2, 1) := by decide +kernel
theorem dX3_nearestTo_39 : decode cX3_nearestTo 39 = .ok (.iinc 4 1, 3) := by decide +kernel
theorem dX3_nearestTo_42 : decode cX3_nearestTo 42 = .ok (.goto (-34), 3) := by decide +kernel
theorem dX3_nearestTo_45 : decode cX3_nearestTo 45 = .ok (.iload_n 2, 1) := by decide +kernel
theorem dX3_nearestTo_46 : decode cX3_nearestTo 46 = .ok (.ireturn, 1) := by decide +kernel
theorem dX3_nextCell_0 : decode cX3_nextCell 0 = .ok (.iconst (-1), 1) := by decide +kernel
theorem dX3_nextCell_1 : decode cX3_nextCell 1 = .ok (.istore_n 2, 1) := by decide +kernel
theorem dX3_nextCell_2 : decode cX3_nextCell 2 = .ok (.iconst 0, 1) := by decide +kernel
theorem dX3_nextCell_3 : decode cX3_nextCell 3 = .ok (.istore_n 3, 1) := by decide +kernel
theorem dX3_nextCell_4 : decode cX3_nextCell 4 = .ok (.iload_n 3, 1) := by decide +kernel
theorem dX3_nextCell_5 : decode cX3_nextCell 5 = .ok (.aload_n 0, 1) := by decide +kernel
theorem dX3_nextCell_6 : decode cX3_nextCell 6 = .ok (.getfield 27, 3) := by decide +kernel
theorem dX3_nextCell_9 : decode cX3_nextCell 9 = .ok (.if_icmp .ge 38, 3) := by decide +kernel
theorem dX3_nextCell_12 : decode cX3_nextCell 12 = .ok (.aload_n 0, 1) := by decide +kernel
theorem dX3_nextCell_13 : decode cX3_nextCell 13 = .ok (.getfield 18, 3) := by decide +kernel
theorem dX3_nextCell_16 : decode cX3_nextCell 16 = .ok (.iload_n 3, 1) := by decide +kernel
theorem dX3_nextCell_17 : decode cX3_nextCell 17 = .ok (.invokestatic 49, 3) := by decide +kernel
theorem dX3_nextCell_20 : decode cX3_nextCell 20 = .ok (.istore 4, 2) := by decide +kernel
theorem dX3_nextCell_22 : decode cX3_nextCell 22 = .ok (.iload 4, 2) := by decide +kernel
theorem dX3_nextCell_24 : decode cX3_nextCell 24 = .ok (.iload_n 1, 1) := by decide +kernel
theorem dX3_nextCell_25 : decode cX3_nextCell 25 = .ok (.if_icmp .le 16, 3) := by decide +kernel
theorem dX3_nextCell_28 : decode cX3_nextCell 28 = .ok (.iload_n 2, 1) := by decide +kernel
theorem dX3_nextCell_29 : decode cX3_nextCell 29 = .ok (.ifCond .lt 9, 3) := by decide +kernel
theorem dX3_nextCell_32 : decode cX3_nextCell 32 = .ok (.iload 4, 2) := by decide +kernel
theorem dX3_nextCell_34 : decode cX3_nextCell 34 = .ok (.iload_n 2, 1) := by decide +kernel
theorem dX3_nextCell_35 : decode cX3_nextCell 35 = .ok (.if_icmp .ge 6, 3) := by decide +kernel
theorem dX3_nextCell_38 : decode cX3_nextCell 38 = .ok (.iload 4, 2) := by decide +kernel
theorem dX3_nextCell_40 : decode cX3_nextCell 40 = .ok (.istore_n 2, 1) := by decide +kernel
theorem dX3_nextCell_41 : decode cX3_nextCell 41 = .ok (.iinc 3 1, 3) := by decide +kernel
theorem dX3_nextCell_44 : decode cX3_nextCell 44 = .ok (.goto (-40), 3) := by decide +kernel
theorem dX3_nextCell_47 : decode cX3_nextCell 47 = .ok (.iload_n 2, 1) := by decide +kernel
theorem dX3_nextCell_48 : decode cX3_nextCell 48 = .ok (.ireturn, 1) := by decide +kernel
theorem dX4_init_0 : decode cX4_init 0 = .ok (.aload_n 0, 1) := by decide +kernel
theorem dX4_init_1 : decode cX4_init 1 = .ok (.invokespecial 3, 3) := by decide +kernel
theorem dX4_init_4 : decode cX4_init 4 = .ok (.aload_n 0, 1) := by decide +kernel
theorem dX4_init_5 : decode cX4_init 5 = .ok (.lconst 0, 1) := by decide +kernel
theorem dX4_init_6 : decode cX4_init 6 = .ok (.putfield 9, 3) := by decide +kernel
theorem dX4_init_9 : decode cX4_init 9 = .ok (.aload_n 0, 1) := by decide +kernel
theorem dX4_init_10 : decode cX4_init 10 = .ok (.lconst 1, 1) := by decide +kernel
theorem dX4_init_11 : decode cX4_init 11 = .ok (.putfield 15, 3) := by decide +kernel
theorem dX4_init_14 : decode cX4_init 14 = .ok (.aload_n 0, 1) := by decide +kernel
theorem dX4_init_15 : decode cX4_init 15 = .ok (.sipush 199, 3) := by decide +kernel
theorem dX4_init_18 : decode cX4_init 18 = .ok (.newarray .long, 2) := by decide +kernel
theorem dX4_init_20 : decode cX4_init 20 = .ok (.putfield 18, 3) := by decide +kernel
theorem dX4_init_23 : decode cX4_init 23 = .ok (.aload_n 0, 1) := by decide +kernel
theorem dX4_init_24 : decode cX4_init 24 = .ok (.sipush 199, 3) := by decide +kernel
theorem dX4_init_27 : decode cX4_init 27 = .ok (.newarray .long, 2) := by decide +kernel
theorem dX4_init_29 : decode cX4_init 29 = .ok (.putfield 22, 3) := by decide +kernel
theorem dX4_init_32 : decode cX4_init 32 = .ok (.return_, 1) := by decide +kernel
theorem dX4_follow_0 : decode cX4_follow 0 = .ok (.aload_n 0, 1) := by decide +kernel
theorem dX4_follow_1 : decode cX4_follow 1 = .ok (.lconst 0, 1) := by decide +kernel
theorem dX4_follow_2 : decode cX4_follow 2 = .ok (.putfield 9, 3) := by decide +kernel
theorem dX4_follow_5 : decode cX4_follow 5 = .ok (.aload_n 0, 1) := by decide +kernel
theorem dX4_follow_6 : decode cX4_follow 6 = .ok (.lconst 1, 1) := by decide +kernel
theorem dX4_follow_7 : decode cX4_follow 7 = .ok (.putfield 15, 3) := by decide +kernel
theorem dX4_follow_10 : decode cX4_follow 10 = .ok (.aload_n 0, 1) := by decide +kernel
theorem dX4_follow_11 : decode cX4_follow 11 = .ok (.getfield 18, 3) := by decide +kernel
theorem dX4_follow_14 : decode cX4_follow 14 = .ok (.invokestatic 25, 3) := by decide +kernel
theorem dX4_follow_17 : decode cX4_follow 17 = .ok (.aload_n 0, 1) := by decide +kernel
theorem dX4_follow_18 : decode cX4_follow 18 = .ok (.getfield 18, 3) := by decide +kernel
theorem dX4_follow_21 : decode cX4_follow 21 = .ok (.aload_n 1, 1) := by decide +kernel
theorem dX4_follow_22 : decode cX4_follow 22 = .ok (.getfield 29, 3) := by decide +kernel
theorem dX4_follow_25 : decode cX4_follow 25 = .ok (.iconst 1, 1) := by decide +kernel
theorem dX4_follow_26 : decode cX4_follow 26 = .ok (.iaload, 1) := by decide +kernel
theorem dX4_follow_27 : decode cX4_follow 27 = .ok (.lconst 1, 1) := by decide +kernel
theorem dX4_follow_28 : decode cX4_follow 28 = .ok (.invokestatic 35, 3) := by decide +kernel
theorem dX4_follow_31 : decode cX4_follow 31 = .ok (.iconst 0, 1) := by decide +kernel
theorem dX4_follow_32 : decode cX4_follow 32 = .ok (.istore_n 3, 1) := by decide +kernel
theorem dX4_follow_33 : decode cX4_follow 33 = .ok (.iload_n 3, 1) := by decide +kernel
theorem dX4_follow_34 : decode cX4_follow 34 = .ok (.iload_n 2, 1) := by decide +kernel
theorem dX4_follow_35 : decode cX4_follow 35 = .ok (.if_icmp .ge 107, 3) := by decide +kernel
theorem dX4_follow_38 : decode cX4_follow 38 = .ok (.aload_n 1, 1) := by decide +kernel
theorem dX4_follow_39 : decode cX4_follow 39 = .ok (.aload_n 1, 1) := by decide +kernel
theorem dX4_follow_40 : decode cX4_follow 40 = .ok (.getfield 29, 3) := by decide +kernel
theorem dX4_follow_43 : decode cX4_follow 43 = .ok (.bipush 11, 2) := by decide +kernel
theorem dX4_follow_45 : decode cX4_follow 45 = .ok (.iaload, 1) := by decide +kernel
theorem dX4_follow_46 : decode cX4_follow 46 = .ok (.invokevirtual 39, 3) := by decide +kernel
theorem dX4_follow_49 : decode cX4_follow 49 = .ok (.astore 4, 2) := by decide +kernel
theorem dX4_follow_51 : decode cX4_follow 51 = .ok (.aload_n 1, 1) := by decide +kernel
theorem dX4_follow_52 : decode cX4_follow 52 = .ok (.aload 4, 2) := by decide +kernel
theorem dX4_follow_54 : decode cX4_follow 54 = .ok (.invokevirtual 43, 3) := by decide +kernel
theorem dX4_follow_57 : decode cX4_follow 57 = .ok (.istore 5, 2) := by decide +kernel
theorem dX4_follow_59 : decode cX4_follow 59 = .ok (.iconst 2, 1) := by decide +kernel
theorem dX4_follow_60 : decode cX4_follow 60 = .ok (.aload 4, 2) := by decide +kernel
theorem dX4_follow_62 : decode cX4_follow 62 = .ok (.getfield 47, 3) := by decide +kernel
theorem dX4_follow_65 : decode cX4_follow 65 = .ok (.imul, 1) := by decide +kernel
theorem dX4_follow_66 : decode cX4_follow 66 = .ok (.iconst 1, 1) := by decide +kernel
theorem dX4_follow_67 : decode cX4_follow 67 = .ok (.iadd, 1) := by decide +kernel
theorem dX4_follow_68 : decode cX4_follow 68 = .ok (.i2l, 1) := by decide +kernel
theorem dX4_follow_69 : decode cX4_follow 69 = .ok (.lstore 6, 2) := by decide +kernel
theorem dX4_follow_71 : decode cX4_follow 71 = .ok (.aload_n 0, 1) := by decide +kernel
theorem dX4_follow_72 : decode cX4_follow 72 = .ok (.dup, 1) := by decide +kernel
theorem dX4_follow_73 : decode cX4_follow 73 = .ok (.getfield 15, 3) := by decide +kernel
theorem dX4_follow_76 : decode cX4_follow 76 = .ok (.lload 6, 2) := by decide +kernel
theorem dX4_follow_78 : decode cX4_follow 78 = .ok (.lmul, 1) := by decide +kernel
theorem dX4_follow_79 : decode cX4_follow 79 = .ok (.putfield 15, 3) := by decide +kernel
theorem dX4_follow_82 : decode cX4_follow 82 = .ok (.aload_n 0, 1) := by decide +kernel
theorem dX4_follow_83 : decode cX4_follow 83 = .ok (.aload_n 0, 1) := by decide +kernel
theorem dX4_follow_84 : decode cX4_follow 84 = .ok (.getfield 9, 3) := by decide +kernel
theorem dX4_follow_87 : decode cX4_follow 87 = .ok (.lload 6, 2) := by decide +kernel
theorem dX4_follow_89 : decode cX4_follow 89 = .ok (.lmul, 1) := by decide +kernel
theorem dX4_follow_90 : decode cX4_follow 90 = .ok (.aload_n 0, 1) := by decide +kernel
theorem dX4_follow_91 : decode cX4_follow 91 = .ok (.aload_n 1, 1) := by decide +kernel
theorem dX4_follow_92 : decode cX4_follow 92 = .ok (.aload 4, 2) := by decide +kernel
theorem dX4_follow_94 : decode cX4_follow 94 = .ok (.iload 5, 2) := by decide +kernel
theorem dX4_follow_96 : decode cX4_follow 96 = .ok (.invokevirtual 53, 3) := by decide +kernel
theorem dX4_follow_99 : decode cX4_follow 99 = .ok (.ladd, 1) := by decide +kernel
theorem dX4_follow_100 : decode cX4_follow 100 = .ok (.putfield 9, 3) := by decide +kernel
theorem dX4_follow_103 : decode cX4_follow 103 = .ok (.aload_n 0, 1) := by decide +kernel
theorem dX4_follow_104 : decode cX4_follow 104 = .ok (.getfield 22, 3) := by decide +kernel
theorem dX4_follow_107 : decode cX4_follow 107 = .ok (.iconst 0, 1) := by decide +kernel
theorem dX4_follow_108 : decode cX4_follow 108 = .ok (.aload_n 0, 1) := by decide +kernel
theorem dX4_follow_109 : decode cX4_follow 109 = .ok (.getfield 18, 3) := by decide +kernel
theorem dX4_follow_112 : decode cX4_follow 112 = .ok (.iconst 0, 1) := by decide +kernel
theorem dX4_follow_113 : decode cX4_follow 113 = .ok (.aload_n 0, 1) := by decide +kernel
theorem dX4_follow_114 : decode cX4_follow 114 = .ok (.getfield 18, 3) := by decide +kernel
theorem dX4_follow_117 : decode cX4_follow 117 = .ok (.arraylength, 1) := by decide +kernel
theorem dX4_follow_118 : decode cX4_follow 118 = .ok (.invokestatic 57, 3) := by decide +kernel
theorem dX4_follow_121 : decode cX4_follow 121 = .ok (.iload 5, 2) := by decide +kernel
theorem dX4_follow_123 : decode cX4_follow 123 = .ok (.ifCond .eq 9, 3) := by decide +kernel
theorem dX4_follow_126 : decode cX4_follow 126 = .ok (.aload_n 1, 1) := by decide +kernel
theorem dX4_follow_127 : decode cX4_follow 127 = .ok (.aload 4, 2) := by decide +kernel
theorem dX4_follow_129 : decode cX4_follow 129 = .ok (.invokevirtual 63, 3) := by decide +kernel
theorem dX4_follow_132 : decode cX4_follow 132 = .ok (.aload_n 1, 1) := by decide +kernel
theorem dX4_follow_133 : decode cX4_follow 133 = .ok (.invokevirtual 67, 3) := by decide +kernel
theorem dX4_follow_136 : decode cX4_follow 136 = .ok (.iinc 3 1, 3) := by decide +kernel
theorem dX4_follow_139 : decode cX4_follow 139 = .ok (.goto (-106), 3) := by decide +kernel
theorem dX4_follow_142 : decode cX4_follow 142 = .ok (.return_, 1) := by decide +kernel
theorem dX4_spread_0 : decode cX4_spread 0 = .ok (.lconst 0, 1) := by decide +kernel
theorem dX4_spread_1 : decode cX4_spread 1 = .ok (.lstore 4, 2) := by decide +kernel
theorem dX4_spread_3 : decode cX4_spread 3 = .ok (.aload_n 0, 1) := by decide +kernel
theorem dX4_spread_4 : decode cX4_spread 4 = .ok (.getfield 22, 3) := by decide +kernel
theorem dX4_spread_7 : decode cX4_spread 7 = .ok (.invokestatic 25, 3) := by decide +kernel
theorem dX4_spread_10 : decode cX4_spread 10 = .ok (.iconst 0, 1) := by decide +kernel
theorem dX4_spread_11 : decode cX4_spread 11 = .ok (.istore 6, 2) := by decide +kernel
theorem dX4_spread_13 : decode cX4_spread 13 = .ok (.iload 6, 2) := by decide +kernel
theorem dX4_spread_15 : decode cX4_spread 15 = .ok (.aload_n 0, 1) := by decide +kernel
theorem dX4_spread_16 : decode cX4_spread 16 = .ok (.getfield 18, 3) := by decide +kernel
theorem dX4_spread_19 : decode cX4_spread 19 = .ok (.arraylength, 1) := by decide +kernel
theorem dX4_spread_20 : decode cX4_spread 20 = .ok (.if_icmp .ge 116, 3) := by decide +kernel
theorem dX4_spread_23 : decode cX4_spread 23 = .ok (.aload_n 0, 1) := by decide +kernel
theorem dX4_spread_24 : decode cX4_spread 24 = .ok (.getfield 18, 3) := by decide +kernel
theorem dX4_spread_27 : decode cX4_spread 27 = .ok (.iload 6, 2) := by decide +kernel
theorem dX4_spread_29 : decode cX4_spread 29 = .ok (.laload, 1) := by decide +kernel
theorem dX4_spread_30 : decode cX4_spread 30 = .ok (.lconst 0, 1) := by decide +kernel
theorem dX4_spread_31 : decode cX4_spread 31 = .ok (.lcmp, 1) := by decide +kernel
theorem dX4_spread_32 : decode cX4_spread 32 = .ok (.ifCond .ne 6, 3) := by decide +kernel
theorem dX4_spread_35 : decode cX4_spread 35 = .ok (.goto 95, 3) := by decide +kernel
theorem dX4_spread_38 : decode cX4_spread 38 = .ok (.aload_n 2, 1) := by decide +kernel
theorem dX4_spread_39 : decode cX4_spread 39 = .ok (.getfield 47, 3) := by decide +kernel
theorem dX4_spread_42 : decode cX4_spread 42 = .ok (.ineg, 1) := by decide +kernel
theorem dX4_spread_43 : decode cX4_spread 43 = .ok (.istore 7, 2) := by decide +kernel
theorem dX4_spread_45 : decode cX4_spread 45 = .ok (.iload 7, 2) := by decide +kernel
theorem dX4_spread_47 : decode cX4_spread 47 = .ok (.aload_n 2, 1) := by decide +kernel
theorem dX4_spread_48 : decode cX4_spread 48 = .ok (.getfield 47, 3) := by decide +kernel
theorem dX4_spread_51 : decode cX4_spread 51 = .ok (.if_icmp .gt 79, 3) := by decide +kernel
theorem dX4_spread_54 : decode cX4_spread 54 = .ok (.aload_n 1, 1) := by decide +kernel
theorem dX4_spread_55 : decode cX4_spread 55 = .ok (.iload 6, 2) := by decide +kernel
theorem dX4_spread_57 : decode cX4_spread 57 = .ok (.bipush 99, 2) := by decide +kernel
theorem dX4_spread_59 : decode cX4_spread 59 = .ok (.isub, 1) := by decide +kernel
theorem dX4_spread_60 : decode cX4_spread 60 = .ok (.iload 7, 2) := by decide +kernel
theorem dX4_spread_62 : decode cX4_spread 62 = .ok (.invokevirtual 70, 3) := by decide +kernel
theorem dX4_spread_65 : decode cX4_spread 65 = .ok (.istore 8, 2) := by decide +kernel
theorem dX4_spread_67 : decode cX4_spread 67 = .ok (.iload 8, 2) := by decide +kernel
theorem dX4_spread_69 : decode cX4_spread 69 = .ok (.bipush (-99), 2) := by decide +kernel
theorem dX4_spread_71 : decode cX4_spread 71 = .ok (.bipush 99, 2) := by decide +kernel
theorem dX4_spread_73 : decode cX4_spread 73 = .ok (.invokestatic 74, 3) := by decide +kernel
theorem dX4_spread_76 : decode cX4_spread 76 = .ok (.ifCond .ne 18, 3) := by decide +kernel
theorem dX4_spread_79 : decode cX4_spread 79 = .ok (.lload 4, 2) := by decide +kernel
theorem dX4_spread_81 : decode cX4_spread 81 = .ok (.aload_n 0, 1) := by decide +kernel
theorem dX4_spread_82 : decode cX4_spread 82 = .ok (.getfield 18, 3) := by decide +kernel
theorem dX4_spread_85 : decode cX4_spread 85 = .ok (.iload 6, 2) := by decide +kernel
theorem dX4_spread_87 : decode cX4_spread 87 = .ok (.laload, 1) := by decide +kernel
theorem dX4_spread_88 : decode cX4_spread 88 = .ok (.ladd, 1) := by decide +kernel
theorem dX4_spread_89 : decode cX4_spread 89 = .ok (.lstore 4, 2) := by decide +kernel
theorem dX4_spread_91 : decode cX4_spread 91 = .ok (.goto 33, 3) := by decide +kernel
theorem dX4_spread_94 : decode cX4_spread 94 = .ok (.aload_n 0, 1) := by decide +kernel
theorem dX4_spread_95 : decode cX4_spread 95 = .ok (.getfield 22, 3) := by decide +kernel
theorem dX4_spread_98 : decode cX4_spread 98 = .ok (.iload_n 3, 1) := by decide +kernel
theorem dX4_spread_99 : decode cX4_spread 99 = .ok (.ifCond .eq 13, 3) := by decide +kernel
theorem dX4_spread_102 : decode cX4_spread 102 = .ok (.aload_n 1, 1) := by decide +kernel
theorem dX4_spread_103 : decode cX4_spread 103 = .ok (.iload 8, 2) := by decide +kernel
theorem dX4_spread_105 : decode cX4_spread 105 = .ok (.aload_n 2, 1) := by decide +kernel
theorem dX4_spread_106 : decode cX4_spread 106 = .ok (.invokevirtual 78, 3) := by decide +kernel
theorem dX4_spread_109 : decode cX4_spread 109 = .ok (.goto 5, 3) := by decide +kernel
theorem dX4_spread_112 : decode cX4_spread 112 = .ok (.iload 8, 2) := by decide +kernel
theorem dX4_spread_114 : decode cX4_spread 114 = .ok (.aload_n 0, 1) := by decide +kernel
theorem dX4_spread_115 : decode cX4_spread 115 = .ok (.getfield 18, 3) := by decide +kernel
theorem dX4_spread_118 : decode cX4_spread 118 = .ok (.iload 6, 2) := by decide +kernel
theorem dX4_spread_120 : decode cX4_spread 120 = .ok (.laload, 1) := by decide +kernel
theorem dX4_spread_121 : decode cX4_spread 121 = .ok (.invokestatic 35, 3) := by decide +kernel
theorem dX4_spread_124 : decode cX4_spread 124 = .ok (.iinc 7 1, 3) := by decide +kernel
theorem dX4_spread_127 : decode cX4_spread 127 = .ok (.goto (-82), 3) := by decide +kernel
theorem dX4_spread_130 : decode cX4_spread 130 = .ok (.iinc 6 1, 3) := by decide +kernel
theorem dX4_spread_133 : decode cX4_spread 133 = .ok (.goto (-120), 3) := by decide +kernel
theorem dX4_spread_136 : decode cX4_spread 136 = .ok (.lload 4, 2) := by decide +kernel
theorem dX4_spread_138 : decode cX4_spread 138 = .ok (.lreturn, 1) := by decide +kernel
theorem dX4_clear_0 : decode cX4_clear 0 = .ok (.iconst 0, 1) := by decide +kernel
theorem dX4_clear_1 : decode cX4_clear 1 = .ok (.istore_n 1, 1) := by decide +kernel
theorem dX4_clear_2 : decode cX4_clear 2 = .ok (.iload_n 1, 1) := by decide +kernel
theorem dX4_clear_3 : decode cX4_clear 3 = .ok (.aload_n 0, 1) := by decide +kernel
theorem dX4_clear_4 : decode cX4_clear 4 = .ok (.arraylength, 1) := by decide +kernel
theorem dX4_clear_5 : decode cX4_clear 5 = .ok (.if_icmp .ge 13, 3) := by decide +kernel
theorem dX4_clear_8 : decode cX4_clear 8 = .ok (.aload_n 0, 1) := by decide +kernel
theorem dX4_clear_9 : decode cX4_clear 9 = .ok (.iload_n 1, 1) := by decide +kernel
theorem dX4_clear_10 : decode cX4_clear 10 = .ok (.lconst 0, 1) := by decide +kernel
theorem dX4_clear_11 : decode cX4_clear 11 = .ok (.lastore, 1) := by decide +kernel
theorem dX4_clear_12 : decode cX4_clear 12 = .ok (.iinc 1 1, 3) := by decide +kernel
theorem dX4_clear_15 : decode cX4_clear 15 = .ok (.goto (-13), 3) := by decide +kernel
theorem dX4_clear_18 : decode cX4_clear 18 = .ok (.return_, 1) := by decide +kernel
theorem dX4_bring_0 : decode cX4_bring 0 = .ok (.iload_n 1, 1) := by decide +kernel
theorem dX4_bring_1 : decode cX4_bring 1 = .ok (.bipush 99, 2) := by decide +kernel
theorem dX4_bring_3 : decode cX4_bring 3 = .ok (.iadd, 1) := by decide +kernel
theorem dX4_bring_4 : decode cX4_bring 4 = .ok (.istore 4, 2) := by decide +kernel
theorem dX4_bring_6 : decode cX4_bring 6 = .ok (.iload 4, 2) := by decide +kernel
theorem dX4_bring_8 : decode cX4_bring 8 = .ok (.ifCond .lt 18, 3) := by decide +kernel
theorem dX4_bring_11 : decode cX4_bring 11 = .ok (.iload 4, 2) := by decide +kernel
theorem dX4_bring_13 : decode cX4_bring 13 = .ok (.aload_n 0, 1) := by decide +kernel
theorem dX4_bring_14 : decode cX4_bring 14 = .ok (.arraylength, 1) := by decide +kernel
theorem dX4_bring_15 : decode cX4_bring 15 = .ok (.if_icmp .ge 11, 3) := by decide +kernel
theorem dX4_bring_18 : decode cX4_bring 18 = .ok (.aload_n 0, 1) := by decide +kernel
theorem dX4_bring_19 : decode cX4_bring 19 = .ok (.iload 4, 2) := by decide +kernel
theorem dX4_bring_21 : decode cX4_bring 21 = .ok (.dup2, 1) := by decide +kernel
theorem dX4_bring_22 : decode cX4_bring 22 = .ok (.laload, 1) := by decide +kernel
theorem dX4_bring_23 : decode cX4_bring 23 = .ok (.lload_n 2, 1) := by decide +kernel
theorem dX4_bring_24 : decode cX4_bring 24 = .ok (.ladd, 1) := by decide +kernel
theorem dX4_bring_25 : decode cX4_bring 25 = .ok (.lastore, 1) := by decide +kernel
theorem dX4_bring_26 : decode cX4_bring 26 = .ok (.return_, 1) := by decide +kernel
theorem dX4_lowest_0 : decode cX4_lowest 0 = .ok (.aload_n 0, 1) := by decide +kernel
theorem dX4_lowest_1 : decode cX4_lowest 1 = .ok (.getfield 15, 3) := by decide +kernel
theorem dX4_lowest_4 : decode cX4_lowest 4 = .ok (.lstore_n 3, 1) := by decide +kernel
theorem dX4_lowest_5 : decode cX4_lowest 5 = .ok (.aload_n 0, 1) := by decide +kernel
theorem dX4_lowest_6 : decode cX4_lowest 6 = .ok (.getfield 9, 3) := by decide +kernel
theorem dX4_lowest_9 : decode cX4_lowest 9 = .ok (.lstore 5, 2) := by decide +kernel
theorem dX4_lowest_11 : decode cX4_lowest 11 = .ok (.iconst 0, 1) := by decide +kernel
theorem dX4_lowest_12 : decode cX4_lowest 12 = .ok (.istore 7, 2) := by decide +kernel
theorem dX4_lowest_14 : decode cX4_lowest 14 = .ok (.iload 7, 2) := by decide +kernel
theorem dX4_lowest_16 : decode cX4_lowest 16 = .ok (.bipush 100, 2) := by decide +kernel
theorem dX4_lowest_18 : decode cX4_lowest 18 = .ok (.if_icmp .ge 29, 3) := by decide +kernel
theorem dX4_lowest_21 : decode cX4_lowest 21 = .ok (.lload 5, 2) := by decide +kernel
theorem dX4_lowest_23 : decode cX4_lowest 23 = .ok (.lconst 0, 1) := by decide +kernel
theorem dX4_lowest_24 : decode cX4_lowest 24 = .ok (.lcmp, 1) := by decide +kernel
theorem dX4_lowest_25 : decode cX4_lowest 25 = .ok (.ifCond .eq 22, 3) := by decide +kernel
theorem dX4_lowest_28 : decode cX4_lowest 28 = .ok (.lload_n 3, 1) := by decide +kernel
theorem dX4_lowest_29 : decode cX4_lowest 29 = .ok (.lload 5, 2) := by decide +kernel
theorem dX4_lowest_31 : decode cX4_lowest 31 = .ok (.lrem, 1) := by decide +kernel
theorem dX4_lowest_32 : decode cX4_lowest 32 = .ok (.lstore 8, 2) := by decide +kernel
theorem dX4_lowest_34 : decode cX4_lowest 34 = .ok (.lload 5, 2) := by decide +kernel
theorem dX4_lowest_36 : decode cX4_lowest 36 = .ok (.lstore_n 3, 1) := by decide +kernel
theorem dX4_lowest_37 : decode cX4_lowest 37 = .ok (.lload 8, 2) := by decide +kernel
theorem dX4_lowest_39 : decode cX4_lowest 39 = .ok (.lstore 5, 2) := by decide +kernel
theorem dX4_lowest_41 : decode cX4_lowest 41 = .ok (.iinc 7 1, 3) := by decide +kernel
theorem dX4_lowest_44 : decode cX4_lowest 44 = .ok (.goto (-30), 3) := by decide +kernel
theorem dX4_lowest_47 : decode cX4_lowest 47 = .ok (.lload_n 3, 1) := by decide +kernel
theorem dX4_lowest_48 : decode cX4_lowest 48 = .ok (.lconst 0, 1) := by decide +kernel
theorem dX4_lowest_49 : decode cX4_lowest 49 = .ok (.lcmp, 1) := by decide +kernel
theorem dX4_lowest_50 : decode cX4_lowest 50 = .ok (.ifCond .ne 7, 3) := by decide +kernel
theorem dX4_lowest_53 : decode cX4_lowest 53 = .ok (.lload_n 1, 1) := by decide +kernel
theorem dX4_lowest_54 : decode cX4_lowest 54 = .ok (.goto 6, 3) := by decide +kernel
theorem dX4_lowest_57 : decode cX4_lowest 57 = .ok (.lload_n 1, 1) := by decide +kernel
theorem dX4_lowest_58 : decode cX4_lowest 58 = .ok (.lload_n 3, 1) := by decide +kernel
theorem dX4_lowest_59 : decode cX4_lowest 59 = .ok (.ldiv, 1) := by decide +kernel
theorem dX4_lowest_60 : decode cX4_lowest 60 = .ok (.lreturn, 1) := by decide +kernel
theorem dX5_init_0 : decode cX5_init 0 = .ok (.aload_n 0, 1) := by decide +kernel
theorem dX5_init_1 : decode cX5_init 1 = .ok (.invokespecial 3, 3) := by decide +kernel
theorem dX5_init_4 : decode cX5_init 4 = .ok (.aload_n 0, 1) := by decide +kernel
theorem dX5_init_5 : decode cX5_init 5 = .ok (.bipush 24, 2) := by decide +kernel
theorem dX5_init_7 : decode cX5_init 7 = .ok (.newarray .int, 2) := by decide +kernel
theorem dX5_init_9 : decode cX5_init 9 = .ok (.putfield 9, 3) := by decide +kernel
theorem dX5_init_12 : decode cX5_init 12 = .ok (.aload_n 0, 1) := by decide +kernel
theorem dX5_init_13 : decode cX5_init 13 = .ok (.iconst 0, 1) := by decide +kernel
theorem dX5_init_14 : decode cX5_init 14 = .ok (.putfield 15, 3) := by decide +kernel
theorem dX5_init_17 : decode cX5_init 17 = .ok (.aload_n 0, 1) := by decide +kernel
theorem dX5_init_18 : decode cX5_init 18 = .ok (.iconst 0, 1) := by decide +kernel
theorem dX5_init_19 : decode cX5_init 19 = .ok (.putfield 19, 3) := by decide +kernel
theorem dX5_init_22 : decode cX5_init 22 = .ok (.return_, 1) := by decide +kernel
theorem dX5_begin_0 : decode cX5_begin 0 = .ok (.aload_n 0, 1) := by decide +kernel
theorem dX5_begin_1 : decode cX5_begin 1 = .ok (.iload_n 1, 1) := by decide +kernel
theorem dX5_begin_2 : decode cX5_begin 2 = .ok (.putfield 15, 3) := by decide +kernel
theorem dX5_begin_5 : decode cX5_begin 5 = .ok (.aload_n 0, 1) := by decide +kernel
theorem dX5_begin_6 : decode cX5_begin 6 = .ok (.iload_n 2, 1) := by decide +kernel
theorem dX5_begin_7 : decode cX5_begin 7 = .ok (.iconst 0, 1) := by decide +kernel
theorem dX5_begin_8 : decode cX5_begin 8 = .ok (.bipush 24, 2) := by decide +kernel
theorem dX5_begin_10 : decode cX5_begin 10 = .ok (.invokestatic 22, 3) := by decide +kernel
theorem dX5_begin_13 : decode cX5_begin 13 = .ok (.putfield 19, 3) := by decide +kernel
theorem dX5_begin_16 : decode cX5_begin 16 = .ok (.iconst 0, 1) := by decide +kernel
theorem dX5_begin_17 : decode cX5_begin 17 = .ok (.istore_n 3, 1) := by decide +kernel
theorem dX5_begin_18 : decode cX5_begin 18 = .ok (.iload_n 3, 1) := by decide +kernel
theorem dX5_begin_19 : decode cX5_begin 19 = .ok (.aload_n 0, 1) := by decide +kernel
theorem dX5_begin_20 : decode cX5_begin 20 = .ok (.getfield 9, 3) := by decide +kernel
theorem dX5_begin_23 : decode cX5_begin 23 = .ok (.arraylength, 1) := by decide +kernel
theorem dX5_begin_24 : decode cX5_begin 24 = .ok (.if_icmp .ge 16, 3) := by decide +kernel
theorem dX5_begin_27 : decode cX5_begin 27 = .ok (.aload_n 0, 1) := by decide +kernel
theorem dX5_begin_28 : decode cX5_begin 28 = .ok (.getfield 9, 3) := by decide +kernel
theorem dX5_begin_31 : decode cX5_begin 31 = .ok (.iload_n 3, 1) := by decide +kernel
theorem dX5_begin_32 : decode cX5_begin 32 = .ok (.iconst 0, 1) := by decide +kernel
theorem dX5_begin_33 : decode cX5_begin 33 = .ok (.iastore, 1) := by decide +kernel
theorem dX5_begin_34 : decode cX5_begin 34 = .ok (.iinc 3 1, 3) := by decide +kernel
theorem dX5_begin_37 : decode cX5_begin 37 = .ok (.goto (-19), 3) := by decide +kernel
theorem dX5_begin_40 : decode cX5_begin 40 = .ok (.return_, 1) := by decide +kernel
theorem dX5_has_0 : decode cX5_has 0 = .ok (.iload_n 1, 1) := by decide +kernel
theorem dX5_has_1 : decode cX5_has 1 = .ok (.ifCond .lt 29, 3) := by decide +kernel
theorem dX5_has_4 : decode cX5_has 4 = .ok (.iload_n 2, 1) := by decide +kernel
theorem dX5_has_5 : decode cX5_has 5 = .ok (.ifCond .lt 25, 3) := by decide +kernel
theorem dX5_has_8 : decode cX5_has 8 = .ok (.iload_n 1, 1) := by decide +kernel
theorem dX5_has_9 : decode cX5_has 9 = .ok (.aload_n 0, 1) := by decide +kernel
theorem dX5_has_10 : decode cX5_has 10 = .ok (.getfield 19, 3) := by decide +kernel
theorem dX5_has_13 : decode cX5_has 13 = .ok (.if_icmp .gt 17, 3) := by decide +kernel
theorem dX5_has_16 : decode cX5_has 16 = .ok (.iload_n 2, 1) := by decide +kernel
theorem dX5_has_17 : decode cX5_has 17 = .ok (.aload_n 0, 1) := by decide +kernel
theorem dX5_has_18 : decode cX5_has 18 = .ok (.getfield 19, 3) := by decide +kernel
theorem dX5_has_21 : decode cX5_has 21 = .ok (.iload_n 1, 1) := by decide +kernel
theorem dX5_has_22 : decode cX5_has 22 = .ok (.isub, 1) := by decide +kernel
theorem dX5_has_23 : decode cX5_has 23 = .ok (.if_icmp .gt 7, 3) := by decide +kernel
theorem dX5_has_26 : decode cX5_has 26 = .ok (.iconst 1, 1) := by decide +kernel
theorem dX5_has_27 : decode cX5_has 27 = .ok (.goto 4, 3) := by decide +kernel
theorem dX5_has_30 : decode cX5_has 30 = .ok (.iconst 0, 1) := by decide +kernel
theorem dX5_has_31 : decode cX5_has 31 = .ok (.ireturn, 1) := by decide +kernel
theorem dX5_lowestBits_0 : decode cX5_lowestBits 0 = .ok (.aload_n 0, 1) := by decide +kernel
theorem dX5_lowestBits_1 : decode cX5_lowestBits 1 = .ok (.getfield 15, 3) := by decide +kernel
theorem dX5_lowestBits_4 : decode cX5_lowestBits 4 = .ok (.bipush 8, 2) := by decide +kernel
theorem dX5_lowestBits_6 : decode cX5_lowestBits 6 = .ok (.if_icmp .ne 8, 3) := by decide +kernel
theorem dX5_lowestBits_9 : decode cX5_lowestBits 9 = .ok (.iload_n 1, 1) := by decide +kernel
theorem dX5_lowestBits_10 : decode cX5_lowestBits 10 = .ok (.i2b, 1) := by decide +kernel
theorem dX5_lowestBits_11 : decode cX5_lowestBits 11 = .ok (.goto 18, 3) := by decide +kernel
theorem dX5_lowestBits_14 : decode cX5_lowestBits 14 = .ok (.aload_n 0, 1) := by decide +kernel
theorem dX5_lowestBits_15 : decode cX5_lowestBits 15 = .ok (.getfield 15, 3) := by decide +kernel
theorem dX5_lowestBits_18 : decode cX5_lowestBits 18 = .ok (.bipush 16, 2) := by decide +kernel
theorem dX5_lowestBits_20 : decode cX5_lowestBits 20 = .ok (.if_icmp .ne 8, 3) := by decide +kernel
theorem dX5_lowestBits_23 : decode cX5_lowestBits 23 = .ok (.iload_n 1, 1) := by decide +kernel
theorem dX5_lowestBits_24 : decode cX5_lowestBits 24 = .ok (.i2s, 1) := by decide +kernel
theorem dX5_lowestBits_25 : decode cX5_lowestBits 25 = .ok (.goto 4, 3) := by decide +kernel
theorem dX5_lowestBits_28 : decode cX5_lowestBits 28 = .ok (.iload_n 1, 1) := by decide +kernel
theorem dX5_lowestBits_29 : decode cX5_lowestBits 29 = .ok (.ireturn, 1) := by decide +kernel
theorem dX6_init_0 : decode cX6_init 0 = .ok (.aload_n 0, 1) := by decide +kernel
theorem dX6_init_1 : decode cX6_init 1 = .ok (.invokespecial 3, 3) := by decide +kernel
theorem dX6_init_4 : decode cX6_init 4 = .ok (.aload_n 0, 1) := by decide +kernel
theorem dX6_init_5 : decode cX6_init 5 = .ok (.bipush 30, 2) := by decide +kernel
theorem dX6_init_7 : decode cX6_init 7 = .ok (.newarray .int, 2) := by decide +kernel
theorem dX6_init_9 : decode cX6_init 9 = .ok (.putfield 9, 3) := by decide +kernel
theorem dX6_init_12 : decode cX6_init 12 = .ok (.aload_n 0, 1) := by decide +kernel
theorem dX6_init_13 : decode cX6_init 13 = .ok (.iconst 0, 1) := by decide +kernel
theorem dX6_init_14 : decode cX6_init 14 = .ok (.putfield 15, 3) := by decide +kernel
theorem dX6_init_17 : decode cX6_init 17 = .ok (.aload_n 0, 1) := by decide +kernel
theorem dX6_init_18 : decode cX6_init 18 = .ok (.iconst 0, 1) := by decide +kernel
theorem dX6_init_19 : decode cX6_init 19 = .ok (.putfield 19, 3) := by decide +kernel
theorem dX6_init_22 : decode cX6_init 22 = .ok (.return_, 1) := by decide +kernel
theorem dX6_answer_0 : decode cX6_answer 0 = .ok (.aload_n 0, 1) := by decide +kernel
theorem dX6_answer_1 : decode cX6_answer 1 = .ok (.iconst 0, 1) := by decide +kernel
theorem dX6_answer_2 : decode cX6_answer 2 = .ok (.putfield 15, 3) := by decide +kernel
theorem dX6_answer_5 : decode cX6_answer 5 = .ok (.aload_n 0, 1) := by decide +kernel
theorem dX6_answer_6 : decode cX6_answer 6 = .ok (.iconst 0, 1) := by decide +kernel
theorem dX6_answer_7 : decode cX6_answer 7 = .ok (.putfield 19, 3) := by decide +kernel
theorem dX6_answer_10 : decode cX6_answer 10 = .ok (.aload_n 0, 1) := by decide +kernel
theorem dX6_answer_11 : decode cX6_answer 11 = .ok (.aload_n 1, 1) := by decide +kernel
theorem dX6_answer_12 : decode cX6_answer 12 = .ok (.getfield 23, 3) := by decide +kernel
theorem dX6_answer_15 : decode cX6_answer 15 = .ok (.iload_n 2, 1) := by decide +kernel
theorem dX6_answer_16 : decode cX6_answer 16 = .ok (.invokestatic 28, 3) := by decide +kernel
theorem dX6_answer_19 : decode cX6_answer 19 = .ok (.putfield 32, 3) := by decide +kernel
theorem dX6_answer_22 : decode cX6_answer 22 = .ok (.aload_n 0, 1) := by decide +kernel
theorem dX6_answer_23 : decode cX6_answer 23 = .ok (.iload_n 2, 1) := by decide +kernel
theorem dX6_answer_24 : decode cX6_answer 24 = .ok (.putfield 35, 3) := by decide +kernel
theorem dX6_answer_27 : decode cX6_answer 27 = .ok (.aload_n 0, 1) := by decide +kernel
theorem dX6_answer_28 : decode cX6_answer 28 = .ok (.aload_n 1, 1) := by decide +kernel
theorem dX6_answer_29 : decode cX6_answer 29 = .ok (.getfield 38, 3) := by decide +kernel
theorem dX6_answer_32 : decode cX6_answer 32 = .ok (.iload_n 2, 1) := by decide +kernel
theorem dX6_answer_33 : decode cX6_answer 33 = .ok (.invokestatic 28, 3) := by decide +kernel
theorem dX6_answer_36 : decode cX6_answer 36 = .ok (.putfield 41, 3) := by decide +kernel
theorem dX6_answer_39 : decode cX6_answer 39 = .ok (.aload_n 0, 1) := by decide +kernel
theorem dX6_answer_40 : decode cX6_answer 40 = .ok (.aload_n 0, 1) := by decide +kernel
theorem dX6_answer_41 : decode cX6_answer 41 = .ok (.getfield 32, 3) := by decide +kernel
theorem dX6_answer_44 : decode cX6_answer 44 = .ok (.iload_n 3, 1) := by decide +kernel
theorem dX6_answer_45 : decode cX6_answer 45 = .ok (.iload 4, 2) := by decide +kernel
theorem dX6_answer_47 : decode cX6_answer 47 = .ok (.iconst 0, 1) := by decide +kernel
theorem dX6_answer_48 : decode cX6_answer 48 = .ok (.invokestatic 44, 3) := by decide +kernel
theorem dX6_answer_51 : decode cX6_answer 51 = .ok (.ireturn, 1) := by decide +kernel
theorem dX6_say_0 : decode cX6_say 0 = .ok (.aload_n 0, 1) := by decide +kernel
theorem dX6_say_1 : decode cX6_say 1 = .ok (.getfield 19, 3) := by decide +kernel
theorem dX6_say_4 : decode cX6_say 4 = .ok (.ifCond .ne 10, 3) := by decide +kernel
theorem dX6_say_7 : decode cX6_say 7 = .ok (.iload 4, 2) := by decide +kernel
theorem dX6_say_9 : decode cX6_say 9 = .ok (.bipush 30, 2) := by decide +kernel
theorem dX6_say_11 : decode cX6_say 11 = .ok (.if_icmp .lt 5, 3) := by decide +kernel
theorem dX6_say_14 : decode cX6_say 14 = .ok (.iconst 0, 1) := by decide +kernel
theorem dX6_say_15 : decode cX6_say 15 = .ok (.ireturn, 1) := by decide +kernel
theorem dX6_say_16 : decode cX6_say 16 = .ok (.iload_n 1, 1) := by decide +kernel
theorem dX6_say_17 : decode cX6_say 17 = .ok (.istore 5, 2) := by decide +kernel
theorem dX6_say_19 : decode cX6_say 19 = .ok (.iconst 0, 1) := by decide +kernel
theorem dX6_say_20 : decode cX6_say 20 = .ok (.istore 6, 2) := by decide +kernel
theorem dX6_say_22 : decode cX6_say 22 = .ok (.iload 6, 2) := by decide +kernel
theorem dX6_say_24 : decode cX6_say 24 = .ok (.bipush 7, 2) := by decide +kernel
theorem dX6_say_26 : decode cX6_say 26 = .ok (.if_icmp .ge 34, 3) := by decide +kernel
theorem dX6_say_29 : decode cX6_say 29 = .ok (.getstatic 48, 3) := by decide +kernel
theorem dX6_say_32 : decode cX6_say 32 = .ok (.iload 5, 2) := by decide +kernel
theorem dX6_say_34 : decode cX6_say 34 = .ok (.iconst 4, 1) := by decide +kernel
theorem dX6_say_35 : decode cX6_say 35 = .ok (.imul, 1) := by decide +kernel
theorem dX6_say_36 : decode cX6_say 36 = .ok (.iload_n 2, 1) := by decide +kernel
theorem dX6_say_37 : decode cX6_say 37 = .ok (.iadd, 1) := by decide +kernel
theorem dX6_say_38 : decode cX6_say 38 = .ok (.invokestatic 28, 3) := by decide +kernel
theorem dX6_say_41 : decode cX6_say 41 = .ok (.ifCond .ne 19, 3) := by decide +kernel
theorem dX6_say_44 : decode cX6_say 44 = .ok (.getstatic 51, 3) := by decide +kernel
theorem dX6_say_47 : decode cX6_say 47 = .ok (.iload 5, 2) := by decide +kernel
theorem dX6_say_49 : decode cX6_say 49 = .ok (.invokestatic 28, 3) := by decide +kernel
theorem dX6_say_52 : decode cX6_say 52 = .ok (.istore 5, 2) := by decide +kernel
theorem dX6_say_54 : decode cX6_say 54 = .ok (.iinc 6 1, 3) := by decide +kernel
theorem dX6_say_57 : decode cX6_say 57 = .ok (.goto (-35), 3) := by decide +kernel
theorem dX6_say_60 : decode cX6_say 60 = .ok (.getstatic 48, 3) := by decide +kernel
theorem dX6_say_63 : decode cX6_say 63 = .ok (.iload 5, 2) := by decide +kernel
theorem dX6_say_65 : decode cX6_say 65 = .ok (.iconst 4, 1) := by decide +kernel
theorem dX6_say_66 : decode cX6_say 66 = .ok (.imul, 1) := by decide +kernel
theorem dX6_say_67 : decode cX6_say 67 = .ok (.iload_n 2, 1) := by decide +kernel
theorem dX6_say_68 : decode cX6_say 68 = .ok (.iadd, 1) := by decide +kernel
theorem dX6_say_69 : decode cX6_say 69 = .ok (.invokestatic 28, 3) := by decide +kernel
theorem dX6_say_72 : decode cX6_say 72 = .ok (.istore 6, 2) := by decide +kernel
theorem dX6_say_74 : decode cX6_say 74 = .ok (.aload_n 0, 1) := by decide +kernel
theorem dX6_say_75 : decode cX6_say 75 = .ok (.iload 6, 2) := by decide +kernel
theorem dX6_say_77 : decode cX6_say 77 = .ok (.invokevirtual 54, 3) := by decide +kernel
theorem dX6_say_80 : decode cX6_say 80 = .ok (.getstatic 51, 3) := by decide +kernel
theorem dX6_say_83 : decode cX6_say 83 = .ok (.iload 5, 2) := by decide +kernel
theorem dX6_say_85 : decode cX6_say 85 = .ok (.invokestatic 28, 3) := by decide +kernel
theorem dX6_say_88 : decode cX6_say 88 = .ok (.istore 7, 2) := by decide +kernel
theorem dX6_say_90 : decode cX6_say 90 = .ok (.iload 4, 2) := by decide +kernel
theorem dX6_say_92 : decode cX6_say 92 = .ok (.iconst 1, 1) := by decide +kernel
theorem dX6_say_93 : decode cX6_say 93 = .ok (.iadd, 1) := by decide +kernel
theorem dX6_say_94 : decode cX6_say 94 = .ok (.istore 8, 2) := by decide +kernel
theorem dX6_say_96 : decode cX6_say 96 = .ok (.iload 6, 2) := by decide +kernel
theorem dX6_say_98 : decode cX6_say 98 = .ok (.lookupswitch 292 #[(10, 114), (11, 121), (12, 136), (13, 154), (20, 169), (21, 182), (30, 206), (40, 219), (50, 232), (51, 245), (60, 261), (70, 274), (71, 276)], 114) := by decide +kernel
theorem dX6_say_212 : decode cX6_say 212 = .ok (.iload_n 3, 1) := by decide +kernel
theorem dX6_say_213 : decode cX6_say 213 = .ok (.aload_n 0, 1) := by decide +kernel
theorem dX6_say_214 : decode cX6_say 214 = .ok (.getfield 35, 3) := by decide +kernel
theorem dX6_say_217 : decode cX6_say 217 = .ok (.iadd, 1) := by decide +kernel
theorem dX6_say_218 : decode cX6_say 218 = .ok (.ireturn, 1) := by decide +kernel
theorem dX6_say_219 : decode cX6_say 219 = .ok (.aload_n 0, 1) := by decide +kernel
theorem dX6_say_220 : decode cX6_say 220 = .ok (.aload_n 0, 1) := by decide +kernel
theorem dX6_say_221 : decode cX6_say 221 = .ok (.getfield 32, 3) := by decide +kernel
theorem dX6_say_224 : decode cX6_say 224 = .ok (.iconst 0, 1) := by decide +kernel
theorem dX6_say_225 : decode cX6_say 225 = .ok (.iload_n 3, 1) := by decide +kernel
theorem dX6_say_226 : decode cX6_say 226 = .ok (.iload 8, 2) := by decide +kernel
theorem dX6_say_228 : decode cX6_say 228 = .ok (.invokestatic 44, 3) := by decide +kernel
theorem dX6_say_231 : decode cX6_say 231 = .ok (.iconst 2, 1) := by decide +kernel
theorem dX6_say_232 : decode cX6_say 232 = .ok (.imul, 1) := by decide +kernel
theorem dX6_say_233 : decode cX6_say 233 = .ok (.ireturn, 1) := by decide +kernel
theorem dX6_say_234 : decode cX6_say 234 = .ok (.aload_n 0, 1) := by decide +kernel
theorem dX6_say_235 : decode cX6_say 235 = .ok (.aload_n 0, 1) := by decide +kernel
theorem dX6_say_236 : decode cX6_say 236 = .ok (.getfield 32, 3) := by decide +kernel
theorem dX6_say_239 : decode cX6_say 239 = .ok (.iconst 1, 1) := by decide +kernel
theorem dX6_say_240 : decode cX6_say 240 = .ok (.iload_n 3, 1) := by decide +kernel
theorem dX6_say_241 : decode cX6_say 241 = .ok (.iload 8, 2) := by decide +kernel
theorem dX6_say_243 : decode cX6_say 243 = .ok (.invokestatic 44, 3) := by decide +kernel
theorem dX6_say_246 : decode cX6_say 246 = .ok (.aload_n 0, 1) := by decide +kernel
theorem dX6_say_247 : decode cX6_say 247 = .ok (.getfield 41, 3) := by decide +kernel
theorem dX6_say_250 : decode cX6_say 250 = .ok (.isub, 1) := by decide +kernel
theorem dX6_say_251 : decode cX6_say 251 = .ok (.ireturn, 1) := by decide +kernel
theorem dX6_say_252 : decode cX6_say 252 = .ok (.aload_n 0, 1) := by decide +kernel
theorem dX6_say_253 : decode cX6_say 253 = .ok (.iload_n 3, 1) := by decide +kernel
theorem dX6_say_254 : decode cX6_say 254 = .ok (.aload_n 0, 1) := by decide +kernel
theorem dX6_say_255 : decode cX6_say 255 = .ok (.getfield 41, 3) := by decide +kernel
theorem dX6_say_258 : decode cX6_say 258 = .ok (.aload_n 0, 1) := by decide +kernel
theorem dX6_say_259 : decode cX6_say 259 = .ok (.getfield 35, 3) := by decide +kernel
theorem dX6_say_262 : decode cX6_say 262 = .ok (.isub, 1) := by decide +kernel
theorem dX6_say_263 : decode cX6_say 263 = .ok (.invokevirtual 58, 3) := by decide +kernel
theorem dX6_say_266 : decode cX6_say 266 = .ok (.ireturn, 1) := by decide +kernel
theorem dX6_say_267 : decode cX6_say 267 = .ok (.aload_n 0, 1) := by decide +kernel
theorem dX6_say_268 : decode cX6_say 268 = .ok (.iload 7, 2) := by decide +kernel
theorem dX6_say_270 : decode cX6_say 270 = .ok (.iconst 0, 1) := by decide +kernel
theorem dX6_say_271 : decode cX6_say 271 = .ok (.iload_n 3, 1) := by decide +kernel
theorem dX6_say_272 : decode cX6_say 272 = .ok (.iload 8, 2) := by decide +kernel
theorem dX6_say_274 : decode cX6_say 274 = .ok (.invokestatic 44, 3) := by decide +kernel
theorem dX6_say_277 : decode cX6_say 277 = .ok (.iconst 3, 1) := by decide +kernel
theorem dX6_say_278 : decode cX6_say 278 = .ok (.isub, 1) := by decide +kernel
theorem dX6_say_279 : decode cX6_say 279 = .ok (.ireturn, 1) := by decide +kernel
theorem dX6_say_280 : decode cX6_say 280 = .ok (.aload_n 0, 1) := by decide +kernel
theorem dX6_say_281 : decode cX6_say 281 = .ok (.iload 7, 2) := by decide +kernel
theorem dX6_say_283 : decode cX6_say 283 = .ok (.iconst 3, 1) := by decide +kernel
theorem dX6_say_284 : decode cX6_say 284 = .ok (.iload_n 3, 1) := by decide +kernel
theorem dX6_say_285 : decode cX6_say 285 = .ok (.iload 8, 2) := by decide +kernel
theorem dX6_say_287 : decode cX6_say 287 = .ok (.invokestatic 44, 3) := by decide +kernel
theorem dX6_say_290 : decode cX6_say 290 = .ok (.aload_n 0, 1) := by decide +kernel
theorem dX6_say_291 : decode cX6_say 291 = .ok (.aload_n 0, 1) := by decide +kernel
theorem dX6_say_292 : decode cX6_say 292 = .ok (.getfield 32, 3) := by decide +kernel
theorem dX6_say_295 : decode cX6_say 295 = .ok (.iconst 1, 1) := by decide +kernel
theorem dX6_say_296 : decode cX6_say 296 = .ok (.iconst 1, 1) := by decide +kernel
theorem dX6_say_297 : decode cX6_say 297 = .ok (.iload 8, 2) := by decide +kernel
theorem dX6_say_299 : decode cX6_say 299 = .ok (.invokestatic 44, 3) := by decide +kernel
theorem dX6_say_302 : decode cX6_say 302 = .ok (.iadd, 1) := by decide +kernel
theorem dX6_say_303 : decode cX6_say 303 = .ok (.ireturn, 1) := by decide +kernel
theorem dX6_say_304 : decode cX6_say 304 = .ok (.iconst 0, 1) := by decide +kernel
theorem dX6_say_305 : decode cX6_say 305 = .ok (.aload_n 0, 1) := by decide +kernel
theorem dX6_say_306 : decode cX6_say 306 = .ok (.iload 7, 2) := by decide +kernel
theorem dX6_say_308 : decode cX6_say 308 = .ok (.iconst 1, 1) := by decide +kernel
theorem dX6_say_309 : decode cX6_say 309 = .ok (.iload_n 3, 1) := by decide +kernel
theorem dX6_say_310 : decode cX6_say 310 = .ok (.iload 8, 2) := by decide +kernel
theorem dX6_say_312 : decode cX6_say 312 = .ok (.invokestatic 44, 3) := by decide +kernel
theorem dX6_say_315 : decode cX6_say 315 = .ok (.isub, 1) := by decide +kernel
theorem dX6_say_316 : decode cX6_say 316 = .ok (.ireturn, 1) := by decide +kernel
theorem dX6_say_317 : decode cX6_say 317 = .ok (.aload_n 0, 1) := by decide +kernel
theorem dX6_say_318 : decode cX6_say 318 = .ok (.iload 7, 2) := by decide +kernel
theorem dX6_say_320 : decode cX6_say 320 = .ok (.iconst 2, 1) := by decide +kernel
theorem dX6_say_321 : decode cX6_say 321 = .ok (.iload_n 3, 1) := by decide +kernel
theorem dX6_say_322 : decode cX6_say 322 = .ok (.iconst 2, 1) := by decide +kernel
theorem dX6_say_323 : decode cX6_say 323 = .ok (.idiv, 1) := by decide +kernel
theorem dX6_say_324 : decode cX6_say 324 = .ok (.iload 8, 2) := by decide +kernel
theorem dX6_say_326 : decode cX6_say 326 = .ok (.invokestatic 44, 3) := by decide +kernel
theorem dX6_say_329 : decode cX6_say 329 = .ok (.ireturn, 1) := by decide +kernel
theorem dX6_say_330 : decode cX6_say 330 = .ok (.aload_n 0, 1) := by decide +kernel
theorem dX6_say_331 : decode cX6_say 331 = .ok (.iload 7, 2) := by decide +kernel
theorem dX6_say_333 : decode cX6_say 333 = .ok (.iconst 0, 1) := by decide +kernel
theorem dX6_say_334 : decode cX6_say 334 = .ok (.iload_n 3, 1) := by decide +kernel
theorem dX6_say_335 : decode cX6_say 335 = .ok (.iload 8, 2) := by decide +kernel
theorem dX6_say_337 : decode cX6_say 337 = .ok (.invokestatic 44, 3) := by decide +kernel
theorem dX6_say_340 : decode cX6_say 340 = .ok (.iconst 3, 1) := by decide +kernel
theorem dX6_say_341 : decode cX6_say 341 = .ok (.imul, 1) := by decide +kernel
theorem dX6_say_342 : decode cX6_say 342 = .ok (.ireturn, 1) := by decide +kernel
theorem dX6_say_343 : decode cX6_say 343 = .ok (.aload_n 0, 1) := by decide +kernel
theorem dX6_say_344 : decode cX6_say 344 = .ok (.iload 7, 2) := by decide +kernel
theorem dX6_say_346 : decode cX6_say 346 = .ok (.iconst 2, 1) := by decide +kernel
theorem dX6_say_347 : decode cX6_say 347 = .ok (.iload_n 3, 1) := by decide +kernel
theorem dX6_say_348 : decode cX6_say 348 = .ok (.iload 8, 2) := by decide +kernel
theorem dX6_say_350 : decode cX6_say 350 = .ok (.invokestatic 44, 3) := by decide +kernel
theorem dX6_say_353 : decode cX6_say 353 = .ok (.aload_n 0, 1) := by decide +kernel
theorem dX6_say_354 : decode cX6_say 354 = .ok (.getfield 35, 3) := by decide +kernel
theorem dX6_say_357 : decode cX6_say 357 = .ok (.ixor, 1) := by decide +kernel
theorem dX6_say_358 : decode cX6_say 358 = .ok (.ireturn, 1) := by decide +kernel
theorem dX6_say_359 : decode cX6_say 359 = .ok (.aload_n 0, 1) := by decide +kernel
theorem dX6_say_360 : decode cX6_say 360 = .ok (.iload 7, 2) := by decide +kernel
theorem dX6_say_362 : decode cX6_say 362 = .ok (.iconst 1, 1) := by decide +kernel
theorem dX6_say_363 : decode cX6_say 363 = .ok (.iload_n 3, 1) := by decide +kernel
theorem dX6_say_364 : decode cX6_say 364 = .ok (.iconst 1, 1) := by decide +kernel
theorem dX6_say_365 : decode cX6_say 365 = .ok (.iadd, 1) := by decide +kernel
theorem dX6_say_366 : decode cX6_say 366 = .ok (.iload 8, 2) := by decide +kernel
theorem dX6_say_368 : decode cX6_say 368 = .ok (.invokestatic 44, 3) := by decide +kernel
theorem dX6_say_371 : decode cX6_say 371 = .ok (.ireturn, 1) := by decide +kernel
theorem dX6_say_372 : decode cX6_say 372 = .ok (.iconst 4, 1) := by decide +kernel
theorem dX6_say_373 : decode cX6_say 373 = .ok (.ireturn, 1) := by decide +kernel
theorem dX6_say_374 : decode cX6_say 374 = .ok (.aload_n 0, 1) := by decide +kernel
theorem dX6_say_375 : decode cX6_say 375 = .ok (.iload 7, 2) := by decide +kernel
theorem dX6_say_377 : decode cX6_say 377 = .ok (.iconst 1, 1) := by decide +kernel
theorem dX6_say_378 : decode cX6_say 378 = .ok (.iload_n 3, 1) := by decide +kernel
theorem dX6_say_379 : decode cX6_say 379 = .ok (.iload 8, 2) := by decide +kernel
theorem dX6_say_381 : decode cX6_say 381 = .ok (.invokestatic 44, 3) := by decide +kernel
theorem dX6_say_384 : decode cX6_say 384 = .ok (.aload_n 0, 1) := by decide +kernel
theorem dX6_say_385 : decode cX6_say 385 = .ok (.getfield 41, 3) := by decide +kernel
theorem dX6_say_388 : decode cX6_say 388 = .ok (.iadd, 1) := by decide +kernel
theorem dX6_say_389 : decode cX6_say 389 = .ok (.ireturn, 1) := by decide +kernel
theorem dX6_say_390 : decode cX6_say 390 = .ok (.iconst 0, 1) := by decide +kernel
theorem dX6_say_391 : decode cX6_say 391 = .ok (.ireturn, 1) := by decide +kernel
theorem dX6_begin_0 : decode cX6_begin 0 = .ok (.aload_n 0, 1) := by decide +kernel
theorem dX6_begin_1 : decode cX6_begin 1 = .ok (.getfield 15, 3) := by decide +kernel
theorem dX6_begin_4 : decode cX6_begin 4 = .ok (.bipush 30, 2) := by decide +kernel
theorem dX6_begin_6 : decode cX6_begin 6 = .ok (.if_icmp .ge 26, 3) := by decide +kernel
theorem dX6_begin_9 : decode cX6_begin 9 = .ok (.aload_n 0, 1) := by decide +kernel
theorem dX6_begin_10 : decode cX6_begin 10 = .ok (.getfield 9, 3) := by decide +kernel
theorem dX6_begin_13 : decode cX6_begin 13 = .ok (.aload_n 0, 1) := by decide +kernel
theorem dX6_begin_14 : decode cX6_begin 14 = .ok (.getfield 15, 3) := by decide +kernel
theorem dX6_begin_17 : decode cX6_begin 17 = .ok (.iload_n 1, 1) := by decide +kernel
theorem dX6_begin_18 : decode cX6_begin 18 = .ok (.invokestatic 62, 3) := by decide +kernel
theorem dX6_begin_21 : decode cX6_begin 21 = .ok (.pop, 1) := by decide +kernel
theorem dX6_begin_22 : decode cX6_begin 22 = .ok (.aload_n 0, 1) := by decide +kernel
theorem dX6_begin_23 : decode cX6_begin 23 = .ok (.dup, 1) := by decide +kernel
theorem dX6_begin_24 : decode cX6_begin 24 = .ok (.getfield 15, 3) := by decide +kernel
theorem dX6_begin_27 : decode cX6_begin 27 = .ok (.iconst 1, 1) := by decide +kernel
theorem dX6_begin_28 : decode cX6_begin 28 = .ok (.iadd, 1) := by decide +kernel
theorem dX6_begin_29 : decode cX6_begin 29 = .ok (.putfield 15, 3) := by decide +kernel
theorem dX6_begin_32 : decode cX6_begin 32 = .ok (.return_, 1) := by decide +kernel
theorem dX6_divided_0 : decode cX6_divided 0 = .ok (.iload_n 2, 1) := by decide +kernel
theorem dX6_divided_1 : decode cX6_divided 1 = .ok (.ifCond .ne 10, 3) := by decide +kernel
theorem dX6_divided_4 : decode cX6_divided 4 = .ok (.aload_n 0, 1) := by decide +kernel
theorem dX6_divided_5 : decode cX6_divided 5 = .ok (.iconst 1, 1) := by decide +kernel
theorem dX6_divided_6 : decode cX6_divided 6 = .ok (.putfield 19, 3) := by decide +kernel
theorem dX6_divided_9 : decode cX6_divided 9 = .ok (.iconst 0, 1) := by decide +kernel
theorem dX6_divided_10 : decode cX6_divided 10 = .ok (.ireturn, 1) := by decide +kernel
theorem dX6_divided_11 : decode cX6_divided 11 = .ok (.iload_n 1, 1) := by decide +kernel
theorem dX6_divided_12 : decode cX6_divided 12 = .ok (.iload_n 2, 1) := by decide +kernel
theorem dX6_divided_13 : decode cX6_divided 13 = .ok (.idiv, 1) := by decide +kernel
theorem dX6_divided_14 : decode cX6_divided 14 = .ok (.ireturn, 1) := by decide +kernel
theorem dX7_init_0 : decode cX7_init 0 = .ok (.aload_n 0, 1) := by decide +kernel
theorem dX7_init_1 : decode cX7_init 1 = .ok (.invokespecial 3, 3) := by decide +kernel
theorem dX7_init_4 : decode cX7_init 4 = .ok (.aload_n 0, 1) := by decide +kernel
theorem dX7_init_5 : decode cX7_init 5 = .ok (.bipush 60, 2) := by decide +kernel
theorem dX7_init_7 : decode cX7_init 7 = .ok (.newarray .int, 2) := by decide +kernel
theorem dX7_init_9 : decode cX7_init 9 = .ok (.putfield 9, 3) := by decide +kernel
theorem dX7_init_12 : decode cX7_init 12 = .ok (.aload_n 0, 1) := by decide +kernel
theorem dX7_init_13 : decode cX7_init 13 = .ok (.iconst 0, 1) := by decide +kernel
theorem dX7_init_14 : decode cX7_init 14 = .ok (.putfield 15, 3) := by decide +kernel
theorem dX7_init_17 : decode cX7_init 17 = .ok (.aload_n 0, 1) := by decide +kernel
theorem dX7_init_18 : decode cX7_init 18 = .ok (.bipush 60, 2) := by decide +kernel
theorem dX7_init_20 : decode cX7_init 20 = .ok (.newarray .int, 2) := by decide +kernel
theorem dX7_init_22 : decode cX7_init 22 = .ok (.putfield 19, 3) := by decide +kernel
theorem dX7_init_25 : decode cX7_init 25 = .ok (.return_, 1) := by decide +kernel
theorem dX7_become_0 : decode cX7_become 0 = .ok (.aload_n 1, 1) := by decide +kernel
theorem dX7_become_1 : decode cX7_become 1 = .ok (.getfield 9, 3) := by decide +kernel
theorem dX7_become_4 : decode cX7_become 4 = .ok (.aload_n 0, 1) := by decide +kernel
theorem dX7_become_5 : decode cX7_become 5 = .ok (.getfield 9, 3) := by decide +kernel
theorem dX7_become_8 : decode cX7_become 8 = .ok (.invokestatic 22, 3) := by decide +kernel
theorem dX7_become_11 : decode cX7_become 11 = .ok (.aload_n 0, 1) := by decide +kernel
theorem dX7_become_12 : decode cX7_become 12 = .ok (.aload_n 1, 1) := by decide +kernel
theorem dX7_become_13 : decode cX7_become 13 = .ok (.getfield 15, 3) := by decide +kernel
theorem dX7_become_16 : decode cX7_become 16 = .ok (.putfield 15, 3) := by decide +kernel
theorem dX7_become_19 : decode cX7_become 19 = .ok (.return_, 1) := by decide +kernel
theorem dX7_add_0 : decode cX7_add 0 = .ok (.aload_n 0, 1) := by decide +kernel
theorem dX7_add_1 : decode cX7_add 1 = .ok (.getfield 15, 3) := by decide +kernel
theorem dX7_add_4 : decode cX7_add 4 = .ok (.ifCond .lt 35, 3) := by decide +kernel
theorem dX7_add_7 : decode cX7_add 7 = .ok (.aload_n 0, 1) := by decide +kernel
theorem dX7_add_8 : decode cX7_add 8 = .ok (.getfield 15, 3) := by decide +kernel
theorem dX7_add_11 : decode cX7_add 11 = .ok (.aload_n 0, 1) := by decide +kernel
theorem dX7_add_12 : decode cX7_add 12 = .ok (.getfield 9, 3) := by decide +kernel
theorem dX7_add_15 : decode cX7_add 15 = .ok (.arraylength, 1) := by decide +kernel
theorem dX7_add_16 : decode cX7_add 16 = .ok (.if_icmp .ge 23, 3) := by decide +kernel
theorem dX7_add_19 : decode cX7_add 19 = .ok (.aload_n 0, 1) := by decide +kernel
theorem dX7_add_20 : decode cX7_add 20 = .ok (.getfield 9, 3) := by decide +kernel
theorem dX7_add_23 : decode cX7_add 23 = .ok (.aload_n 0, 1) := by decide +kernel
theorem dX7_add_24 : decode cX7_add 24 = .ok (.getfield 15, 3) := by decide +kernel
theorem dX7_add_27 : decode cX7_add 27 = .ok (.iload_n 1, 1) := by decide +kernel
theorem dX7_add_28 : decode cX7_add 28 = .ok (.iastore, 1) := by decide +kernel
theorem dX7_add_29 : decode cX7_add 29 = .ok (.aload_n 0, 1) := by decide +kernel
theorem dX7_add_30 : decode cX7_add 30 = .ok (.dup, 1) := by decide +kernel
theorem dX7_add_31 : decode cX7_add 31 = .ok (.getfield 15, 3) := by decide +kernel
theorem dX7_add_34 : decode cX7_add 34 = .ok (.iconst 1, 1) := by decide +kernel
theorem dX7_add_35 : decode cX7_add 35 = .ok (.iadd, 1) := by decide +kernel
theorem dX7_add_36 : decode cX7_add 36 = .ok (.putfield 15, 3) := by decide +kernel
theorem dX7_add_39 : decode cX7_add 39 = .ok (.return_, 1) := by decide +kernel
theorem dX7_worth_0 : decode cX7_worth 0 = .ok (.iconst 0, 1) := by decide +kernel
theorem dX7_worth_1 : decode cX7_worth 1 = .ok (.istore_n 2, 1) := by decide +kernel
theorem dX7_worth_2 : decode cX7_worth 2 = .ok (.iconst 0, 1) := by decide +kernel
theorem dX7_worth_3 : decode cX7_worth 3 = .ok (.istore_n 3, 1) := by decide +kernel
theorem dX7_worth_4 : decode cX7_worth 4 = .ok (.iload_n 3, 1) := by decide +kernel
theorem dX7_worth_5 : decode cX7_worth 5 = .ok (.aload_n 0, 1) := by decide +kernel
theorem dX7_worth_6 : decode cX7_worth 6 = .ok (.getfield 15, 3) := by decide +kernel
theorem dX7_worth_9 : decode cX7_worth 9 = .ok (.if_icmp .ge 141, 3) := by decide +kernel
theorem dX7_worth_12 : decode cX7_worth 12 = .ok (.aload_n 0, 1) := by decide +kernel
theorem dX7_worth_13 : decode cX7_worth 13 = .ok (.getfield 9, 3) := by decide +kernel
theorem dX7_worth_16 : decode cX7_worth 16 = .ok (.iload_n 3, 1) := by decide +kernel
theorem dX7_worth_17 : decode cX7_worth 17 = .ok (.invokestatic 26, 3) := by decide +kernel
theorem dX7_worth_20 : decode cX7_worth 20 = .ok (.istore 4, 2) := by decide +kernel
theorem dX7_worth_22 : decode cX7_worth 22 = .ok (.iload 4, 2) := by decide +kernel
theorem dX7_worth_24 : decode cX7_worth 24 = .ok (.sipush 10000, 3) := by decide +kernel
theorem dX7_worth_27 : decode cX7_worth 27 = .ok (.if_icmp .ge 36, 3) := by decide +kernel
theorem dX7_worth_30 : decode cX7_worth 30 = .ok (.aload_n 0, 1) := by decide +kernel
theorem dX7_worth_31 : decode cX7_worth 31 = .ok (.getfield 19, 3) := by decide +kernel
theorem dX7_worth_34 : decode cX7_worth 34 = .ok (.iload_n 2, 1) := by decide +kernel
theorem dX7_worth_35 : decode cX7_worth 35 = .ok (.iload 4, 2) := by decide +kernel
theorem dX7_worth_37 : decode cX7_worth 37 = .ok (.ifCond .ge 14, 3) := by decide +kernel
theorem dX7_worth_40 : decode cX7_worth 40 = .ok (.aload_n 1, 1) := by decide +kernel
theorem dX7_worth_41 : decode cX7_worth 41 = .ok (.iconst (-1), 1) := by decide +kernel
theorem dX7_worth_42 : decode cX7_worth 42 = .ok (.iload 4, 2) := by decide +kernel
theorem dX7_worth_44 : decode cX7_worth 44 = .ok (.isub, 1) := by decide +kernel
theorem dX7_worth_45 : decode cX7_worth 45 = .ok (.invokestatic 26, 3) := by decide +kernel
theorem dX7_worth_48 : decode cX7_worth 48 = .ok (.goto 5, 3) := by decide +kernel
theorem dX7_worth_51 : decode cX7_worth 51 = .ok (.iload 4, 2) := by decide +kernel
theorem dX7_worth_53 : decode cX7_worth 53 = .ok (.invokestatic 30, 3) := by decide +kernel
theorem dX7_worth_56 : decode cX7_worth 56 = .ok (.pop, 1) := by decide +kernel
theorem dX7_worth_57 : decode cX7_worth 57 = .ok (.iinc 2 1, 3) := by decide +kernel
theorem dX7_worth_60 : decode cX7_worth 60 = .ok (.goto 84, 3) := by decide +kernel
theorem dX7_worth_63 : decode cX7_worth 63 = .ok (.iload 4, 2) := by decide +kernel
theorem dX7_worth_65 : decode cX7_worth 65 = .ok (.sipush 10033, 3) := by decide +kernel
theorem dX7_worth_68 : decode cX7_worth 68 = .ok (.if_icmp .ne 35, 3) := by decide +kernel
theorem dX7_worth_71 : decode cX7_worth 71 = .ok (.aload_n 0, 1) := by decide +kernel
theorem dX7_worth_72 : decode cX7_worth 72 = .ok (.getfield 19, 3) := by decide +kernel
theorem dX7_worth_75 : decode cX7_worth 75 = .ok (.iload_n 2, 1) := by decide +kernel
theorem dX7_worth_76 : decode cX7_worth 76 = .ok (.iconst 1, 1) := by decide +kernel
theorem dX7_worth_77 : decode cX7_worth 77 = .ok (.isub, 1) := by decide +kernel
theorem dX7_worth_78 : decode cX7_worth 78 = .ok (.aload_n 0, 1) := by decide +kernel
theorem dX7_worth_79 : decode cX7_worth 79 = .ok (.getfield 19, 3) := by decide +kernel
theorem dX7_worth_82 : decode cX7_worth 82 = .ok (.iload_n 2, 1) := by decide +kernel
theorem dX7_worth_83 : decode cX7_worth 83 = .ok (.iconst 1, 1) := by decide +kernel
theorem dX7_worth_84 : decode cX7_worth 84 = .ok (.isub, 1) := by decide +kernel
theorem dX7_worth_85 : decode cX7_worth 85 = .ok (.invokestatic 26, 3) := by decide +kernel
theorem dX7_worth_88 : decode cX7_worth 88 = .ok (.ifCond .ne 7, 3) := by decide +kernel
theorem dX7_worth_91 : decode cX7_worth 91 = .ok (.iconst 1, 1) := by decide +kernel
theorem dX7_worth_92 : decode cX7_worth 92 = .ok (.goto 4, 3) := by decide +kernel
theorem dX7_worth_95 : decode cX7_worth 95 = .ok (.iconst 0, 1) := by decide +kernel
theorem dX7_worth_96 : decode cX7_worth 96 = .ok (.invokestatic 30, 3) := by decide +kernel
theorem dX7_worth_99 : decode cX7_worth 99 = .ok (.pop, 1) := by decide +kernel
theorem dX7_worth_100 : decode cX7_worth 100 = .ok (.goto 44, 3) := by decide +kernel
theorem dX7_worth_103 : decode cX7_worth 103 = .ok (.iinc 2 (-1), 3) := by decide +kernel
theorem dX7_worth_106 : decode cX7_worth 106 = .ok (.aload_n 0, 1) := by decide +kernel
theorem dX7_worth_107 : decode cX7_worth 107 = .ok (.getfield 19, 3) := by decide +kernel
theorem dX7_worth_110 : decode cX7_worth 110 = .ok (.iload_n 2, 1) := by decide +kernel
theorem dX7_worth_111 : decode cX7_worth 111 = .ok (.iconst 1, 1) := by decide +kernel
theorem dX7_worth_112 : decode cX7_worth 112 = .ok (.isub, 1) := by decide +kernel
theorem dX7_worth_113 : decode cX7_worth 113 = .ok (.iload 4, 2) := by decide +kernel
theorem dX7_worth_115 : decode cX7_worth 115 = .ok (.sipush 10000, 3) := by decide +kernel
theorem dX7_worth_118 : decode cX7_worth 118 = .ok (.isub, 1) := by decide +kernel
theorem dX7_worth_119 : decode cX7_worth 119 = .ok (.aload_n 0, 1) := by decide +kernel
theorem dX7_worth_120 : decode cX7_worth 120 = .ok (.getfield 19, 3) := by decide +kernel
theorem dX7_worth_123 : decode cX7_worth 123 = .ok (.iload_n 2, 1) := by decide +kernel
theorem dX7_worth_124 : decode cX7_worth 124 = .ok (.iconst 1, 1) := by decide +kernel
theorem dX7_worth_125 : decode cX7_worth 125 = .ok (.isub, 1) := by decide +kernel
theorem dX7_worth_126 : decode cX7_worth 126 = .ok (.invokestatic 26, 3) := by decide +kernel
theorem dX7_worth_129 : decode cX7_worth 129 = .ok (.aload_n 0, 1) := by decide +kernel
theorem dX7_worth_130 : decode cX7_worth 130 = .ok (.getfield 19, 3) := by decide +kernel
theorem dX7_worth_133 : decode cX7_worth 133 = .ok (.iload_n 2, 1) := by decide +kernel
theorem dX7_worth_134 : decode cX7_worth 134 = .ok (.invokestatic 26, 3) := by decide +kernel
theorem dX7_worth_137 : decode cX7_worth 137 = .ok (.invokestatic 34, 3) := by decide +kernel
theorem dX7_worth_140 : decode cX7_worth 140 = .ok (.invokestatic 30, 3) := by decide +kernel
theorem dX7_worth_143 : decode cX7_worth 143 = .ok (.pop, 1) := by decide +kernel
theorem dX7_worth_144 : decode cX7_worth 144 = .ok (.iinc 3 1, 3) := by decide +kernel
theorem dX7_worth_147 : decode cX7_worth 147 = .ok (.goto (-143), 3) := by decide +kernel
theorem dX7_worth_150 : decode cX7_worth 150 = .ok (.aload_n 0, 1) := by decide +kernel
theorem dX7_worth_151 : decode cX7_worth 151 = .ok (.getfield 19, 3) := by decide +kernel
theorem dX7_worth_154 : decode cX7_worth 154 = .ok (.iconst 0, 1) := by decide +kernel
theorem dX7_worth_155 : decode cX7_worth 155 = .ok (.invokestatic 26, 3) := by decide +kernel
theorem dX7_worth_158 : decode cX7_worth 158 = .ok (.ireturn, 1) := by decide +kernel
theorem dX7_joined_0 : decode cX7_joined 0 = .ok (.iload_n 0, 1) := by decide +kernel
theorem dX7_joined_1 : decode cX7_joined 1 = .ok (.lookupswitch 188 #[(37, 176), (38, 105), (42, 160), (43, 152), (45, 156), (47, 164), (60, 119), (61, 130), (62, 141), (124, 91)], 91) := by decide +kernel
theorem dX7_joined_92 : decode cX7_joined 92 = .ok (.iload_n 1, 1) := by decide +kernel
theorem dX7_joined_93 : decode cX7_joined 93 = .ok (.ifCond .ne 7, 3) := by decide +kernel
theorem dX7_joined_96 : decode cX7_joined 96 = .ok (.iload_n 2, 1) := by decide +kernel
theorem dX7_joined_97 : decode cX7_joined 97 = .ok (.ifCond .eq 7, 3) := by decide +kernel
theorem dX7_joined_100 : decode cX7_joined 100 = .ok (.iconst 1, 1) := by decide +kernel
theorem dX7_joined_101 : decode cX7_joined 101 = .ok (.goto 4, 3) := by decide +kernel
theorem dX7_joined_104 : decode cX7_joined 104 = .ok (.iconst 0, 1) := by decide +kernel
theorem dX7_joined_105 : decode cX7_joined 105 = .ok (.ireturn, 1) := by decide +kernel
theorem dX7_joined_106 : decode cX7_joined 106 = .ok (.iload_n 1, 1) := by decide +kernel
theorem dX7_joined_107 : decode cX7_joined 107 = .ok (.ifCond .eq 11, 3) := by decide +kernel
theorem dX7_joined_110 : decode cX7_joined 110 = .ok (.iload_n 2, 1) := by decide +kernel
theorem dX7_joined_111 : decode cX7_joined 111 = .ok (.ifCond .eq 7, 3) := by decide +kernel
theorem dX7_joined_114 : decode cX7_joined 114 = .ok (.iconst 1, 1) := by decide +kernel
theorem dX7_joined_115 : decode cX7_joined 115 = .ok (.goto 4, 3) := by decide +kernel
theorem dX7_joined_118 : decode cX7_joined 118 = .ok (.iconst 0, 1) := by decide +kernel
theorem dX7_joined_119 : decode cX7_joined 119 = .ok (.ireturn, 1) := by decide +kernel
theorem dX7_joined_120 : decode cX7_joined 120 = .ok (.iload_n 1, 1) := by decide +kernel
theorem dX7_joined_121 : decode cX7_joined 121 = .ok (.iload_n 2, 1) := by decide +kernel
theorem dX7_joined_122 : decode cX7_joined 122 = .ok (.if_icmp .ge 7, 3) := by decide +kernel
theorem dX7_joined_125 : decode cX7_joined 125 = .ok (.iconst 1, 1) := by decide +kernel
theorem dX7_joined_126 : decode cX7_joined 126 = .ok (.goto 4, 3) := by decide +kernel
theorem dX7_joined_129 : decode cX7_joined 129 = .ok (.iconst 0, 1) := by decide +kernel
theorem dX7_joined_130 : decode cX7_joined 130 = .ok (.ireturn, 1) := by decide +kernel
theorem dX7_joined_131 : decode cX7_joined 131 = .ok (.iload_n 1, 1) := by decide +kernel
theorem dX7_joined_132 : decode cX7_joined 132 = .ok (.iload_n 2, 1) := by decide +kernel
theorem dX7_joined_133 : decode cX7_joined 133 = .ok (.if_icmp .ne 7, 3) := by decide +kernel
theorem dX7_joined_136 : decode cX7_joined 136 = .ok (.iconst 1, 1) := by decide +kernel
theorem dX7_joined_137 : decode cX7_joined 137 = .ok (.goto 4, 3) := by decide +kernel
theorem dX7_joined_140 : decode cX7_joined 140 = .ok (.iconst 0, 1) := by decide +kernel
theorem dX7_joined_141 : decode cX7_joined 141 = .ok (.ireturn, 1) := by decide +kernel
theorem dX7_joined_142 : decode cX7_joined 142 = .ok (.iload_n 1, 1) := by decide +kernel
theorem dX7_joined_143 : decode cX7_joined 143 = .ok (.iload_n 2, 1) := by decide +kernel
theorem dX7_joined_144 : decode cX7_joined 144 = .ok (.if_icmp .le 7, 3) := by decide +kernel
theorem dX7_joined_147 : decode cX7_joined 147 = .ok (.iconst 1, 1) := by decide +kernel
theorem dX7_joined_148 : decode cX7_joined 148 = .ok (.goto 4, 3) := by decide +kernel
theorem dX7_joined_151 : decode cX7_joined 151 = .ok (.iconst 0, 1) := by decide +kernel
theorem dX7_joined_152 : decode cX7_joined 152 = .ok (.ireturn, 1) := by decide +kernel
theorem dX7_joined_153 : decode cX7_joined 153 = .ok (.iload_n 1, 1) := by decide +kernel
theorem dX7_joined_154 : decode cX7_joined 154 = .ok (.iload_n 2, 1) := by decide +kernel
theorem dX7_joined_155 : decode cX7_joined 155 = .ok (.iadd, 1) := by decide +kernel
theorem dX7_joined_156 : decode cX7_joined 156 = .ok (.ireturn, 1) := by decide +kernel
theorem dX7_joined_157 : decode cX7_joined 157 = .ok (.iload_n 1, 1) := by decide +kernel
theorem dX7_joined_158 : decode cX7_joined 158 = .ok (.iload_n 2, 1) := by decide +kernel
theorem dX7_joined_159 : decode cX7_joined 159 = .ok (.isub, 1) := by decide +kernel
theorem dX7_joined_160 : decode cX7_joined 160 = .ok (.ireturn, 1) := by decide +kernel
theorem dX7_joined_161 : decode cX7_joined 161 = .ok (.iload_n 1, 1) := by decide +kernel
theorem dX7_joined_162 : decode cX7_joined 162 = .ok (.iload_n 2, 1) := by decide +kernel
theorem dX7_joined_163 : decode cX7_joined 163 = .ok (.imul, 1) := by decide +kernel
theorem dX7_joined_164 : decode cX7_joined 164 = .ok (.ireturn, 1) := by decide +kernel
theorem dX7_joined_165 : decode cX7_joined 165 = .ok (.iload_n 2, 1) := by decide +kernel
theorem dX7_joined_166 : decode cX7_joined 166 = .ok (.ifCond .ne 7, 3) := by decide +kernel
theorem dX7_joined_169 : decode cX7_joined 169 = .ok (.iconst 0, 1) := by decide +kernel
theorem dX7_joined_170 : decode cX7_joined 170 = .ok (.goto 6, 3) := by decide +kernel
theorem dX7_joined_173 : decode cX7_joined 173 = .ok (.iload_n 1, 1) := by decide +kernel
theorem dX7_joined_174 : decode cX7_joined 174 = .ok (.iload_n 2, 1) := by decide +kernel
theorem dX7_joined_175 : decode cX7_joined 175 = .ok (.idiv, 1) := by decide +kernel
theorem dX7_joined_176 : decode cX7_joined 176 = .ok (.ireturn, 1) := by decide +kernel
theorem dX7_joined_177 : decode cX7_joined 177 = .ok (.iload_n 2, 1) := by decide +kernel
theorem dX7_joined_178 : decode cX7_joined 178 = .ok (.ifCond .ne 7, 3) := by decide +kernel
theorem dX7_joined_181 : decode cX7_joined 181 = .ok (.iconst 0, 1) := by decide +kernel
theorem dX7_joined_182 : decode cX7_joined 182 = .ok (.goto 6, 3) := by decide +kernel
theorem dX7_joined_185 : decode cX7_joined 185 = .ok (.iload_n 1, 1) := by decide +kernel
theorem dX7_joined_186 : decode cX7_joined 186 = .ok (.iload_n 2, 1) := by decide +kernel
theorem dX7_joined_187 : decode cX7_joined 187 = .ok (.irem, 1) := by decide +kernel
theorem dX7_joined_188 : decode cX7_joined 188 = .ok (.ireturn, 1) := by decide +kernel
theorem dX7_joined_189 : decode cX7_joined 189 = .ok (.iconst 0, 1) := by decide +kernel
theorem dX7_joined_190 : decode cX7_joined 190 = .ok (.ireturn, 1) := by decide +kernel
theorem dX8_init_0 : decode cX8_init 0 = .ok (.aload_n 0, 1) := by decide +kernel
theorem dX8_init_1 : decode cX8_init 1 = .ok (.invokespecial 3, 3) := by decide +kernel
theorem dX8_init_4 : decode cX8_init 4 = .ok (.aload_n 0, 1) := by decide +kernel
theorem dX8_init_5 : decode cX8_init 5 = .ok (.getstatic 9, 3) := by decide +kernel
theorem dX8_init_8 : decode cX8_init 8 = .ok (.invokevirtual 13, 3) := by decide +kernel
theorem dX8_init_11 : decode cX8_init 11 = .ok (.checkcast 14, 3) := by decide +kernel
theorem dX8_init_14 : decode cX8_init 14 = .ok (.putfield 18, 3) := by decide +kernel
theorem dX8_init_17 : decode cX8_init 17 = .ok (.aload_n 0, 1) := by decide +kernel
theorem dX8_init_18 : decode cX8_init 18 = .ok (.new 23, 3) := by decide +kernel
theorem dX8_init_21 : decode cX8_init 21 = .ok (.dup, 1) := by decide +kernel
theorem dX8_init_22 : decode cX8_init 22 = .ok (.invokespecial 25, 3) := by decide +kernel
theorem dX8_init_25 : decode cX8_init 25 = .ok (.putfield 26, 3) := by decide +kernel
theorem dX8_init_28 : decode cX8_init 28 = .ok (.aload_n 0, 1) := by decide +kernel
theorem dX8_init_29 : decode cX8_init 29 = .ok (.new 30, 3) := by decide +kernel
theorem dX8_init_32 : decode cX8_init 32 = .ok (.dup, 1) := by decide +kernel
theorem dX8_init_33 : decode cX8_init 33 = .ok (.invokespecial 32, 3) := by decide +kernel
theorem dX8_init_36 : decode cX8_init 36 = .ok (.putfield 33, 3) := by decide +kernel
theorem dX8_init_39 : decode cX8_init 39 = .ok (.aload_n 0, 1) := by decide +kernel
theorem dX8_init_40 : decode cX8_init 40 = .ok (.new 37, 3) := by decide +kernel
theorem dX8_init_43 : decode cX8_init 43 = .ok (.dup, 1) := by decide +kernel
theorem dX8_init_44 : decode cX8_init 44 = .ok (.invokespecial 39, 3) := by decide +kernel
theorem dX8_init_47 : decode cX8_init 47 = .ok (.putfield 40, 3) := by decide +kernel
theorem dX8_init_50 : decode cX8_init 50 = .ok (.aload_n 0, 1) := by decide +kernel
theorem dX8_init_51 : decode cX8_init 51 = .ok (.new 37, 3) := by decide +kernel
theorem dX8_init_54 : decode cX8_init 54 = .ok (.dup, 1) := by decide +kernel
theorem dX8_init_55 : decode cX8_init 55 = .ok (.invokespecial 39, 3) := by decide +kernel
theorem dX8_init_58 : decode cX8_init 58 = .ok (.putfield 44, 3) := by decide +kernel
theorem dX8_init_61 : decode cX8_init 61 = .ok (.aload_n 0, 1) := by decide +kernel
theorem dX8_init_62 : decode cX8_init 62 = .ok (.bipush 60, 2) := by decide +kernel
theorem dX8_init_64 : decode cX8_init 64 = .ok (.newarray .int, 2) := by decide +kernel
theorem dX8_init_66 : decode cX8_init 66 = .ok (.putfield 47, 3) := by decide +kernel
theorem dX8_init_69 : decode cX8_init 69 = .ok (.aload_n 0, 1) := by decide +kernel
theorem dX8_init_70 : decode cX8_init 70 = .ok (.bipush 24, 2) := by decide +kernel
theorem dX8_init_72 : decode cX8_init 72 = .ok (.newarray .int, 2) := by decide +kernel
theorem dX8_init_74 : decode cX8_init 74 = .ok (.putfield 50, 3) := by decide +kernel
theorem dX8_init_77 : decode cX8_init 77 = .ok (.aload_n 0, 1) := by decide +kernel
theorem dX8_init_78 : decode cX8_init 78 = .ok (.iconst 0, 1) := by decide +kernel
theorem dX8_init_79 : decode cX8_init 79 = .ok (.putfield 53, 3) := by decide +kernel
theorem dX8_init_82 : decode cX8_init 82 = .ok (.aload_n 0, 1) := by decide +kernel
theorem dX8_init_83 : decode cX8_init 83 = .ok (.iconst 0, 1) := by decide +kernel
theorem dX8_init_84 : decode cX8_init 84 = .ok (.putfield 57, 3) := by decide +kernel
theorem dX8_init_87 : decode cX8_init 87 = .ok (.aload_n 0, 1) := by decide +kernel
theorem dX8_init_88 : decode cX8_init 88 = .ok (.new 60, 3) := by decide +kernel
theorem dX8_init_91 : decode cX8_init 91 = .ok (.dup, 1) := by decide +kernel
theorem dX8_init_92 : decode cX8_init 92 = .ok (.invokespecial 62, 3) := by decide +kernel
theorem dX8_init_95 : decode cX8_init 95 = .ok (.putfield 63, 3) := by decide +kernel
theorem dX8_init_98 : decode cX8_init 98 = .ok (.aload_n 0, 1) := by decide +kernel
theorem dX8_init_99 : decode cX8_init 99 = .ok (.ldc 67, 2) := by decide +kernel
theorem dX8_init_101 : decode cX8_init 101 = .ok (.invokevirtual 69, 3) := by decide +kernel
theorem dX8_init_104 : decode cX8_init 104 = .ok (.newarray .int, 2) := by decide +kernel
theorem dX8_init_106 : decode cX8_init 106 = .ok (.putfield 75, 3) := by decide +kernel
theorem dX8_init_109 : decode cX8_init 109 = .ok (.return_, 1) := by decide +kernel
theorem dX8_become_0 : decode cX8_become 0 = .ok (.aload_n 1, 1) := by decide +kernel
theorem dX8_become_1 : decode cX8_become 1 = .ok (.getfield 18, 3) := by decide +kernel
theorem dX8_become_4 : decode cX8_become 4 = .ok (.aload_n 0, 1) := by decide +kernel
theorem dX8_become_5 : decode cX8_become 5 = .ok (.getfield 18, 3) := by decide +kernel
theorem dX8_become_8 : decode cX8_become 8 = .ok (.invokestatic 78, 3) := by decide +kernel
theorem dX8_become_11 : decode cX8_become 11 = .ok (.aload_n 0, 1) := by decide +kernel
theorem dX8_become_12 : decode cX8_become 12 = .ok (.getfield 26, 3) := by decide +kernel
theorem dX8_become_15 : decode cX8_become 15 = .ok (.aload_n 1, 1) := by decide +kernel
theorem dX8_become_16 : decode cX8_become 16 = .ok (.getfield 26, 3) := by decide +kernel
theorem dX8_become_19 : decode cX8_become 19 = .ok (.invokevirtual 82, 3) := by decide +kernel
theorem dX8_become_22 : decode cX8_become 22 = .ok (.aload_n 0, 1) := by decide +kernel
theorem dX8_become_23 : decode cX8_become 23 = .ok (.getfield 33, 3) := by decide +kernel
theorem dX8_become_26 : decode cX8_become 26 = .ok (.aload_n 1, 1) := by decide +kernel
theorem dX8_become_27 : decode cX8_become 27 = .ok (.getfield 33, 3) := by decide +kernel
theorem dX8_become_30 : decode cX8_become 30 = .ok (.invokevirtual 86, 3) := by decide +kernel
theorem dX8_become_33 : decode cX8_become 33 = .ok (.aload_n 0, 1) := by decide +kernel
theorem dX8_become_34 : decode cX8_become 34 = .ok (.getfield 40, 3) := by decide +kernel
theorem dX8_become_37 : decode cX8_become 37 = .ok (.aload_n 1, 1) := by decide +kernel
theorem dX8_become_38 : decode cX8_become 38 = .ok (.getfield 40, 3) := by decide +kernel
theorem dX8_become_41 : decode cX8_become 41 = .ok (.invokevirtual 89, 3) := by decide +kernel
theorem dX8_become_44 : decode cX8_become 44 = .ok (.aload_n 0, 1) := by decide +kernel
theorem dX8_become_45 : decode cX8_become 45 = .ok (.getfield 44, 3) := by decide +kernel
theorem dX8_become_48 : decode cX8_become 48 = .ok (.aload_n 1, 1) := by decide +kernel
theorem dX8_become_49 : decode cX8_become 49 = .ok (.getfield 44, 3) := by decide +kernel
theorem dX8_become_52 : decode cX8_become 52 = .ok (.invokevirtual 89, 3) := by decide +kernel
theorem dX8_become_55 : decode cX8_become 55 = .ok (.aload_n 1, 1) := by decide +kernel
theorem dX8_become_56 : decode cX8_become 56 = .ok (.getfield 47, 3) := by decide +kernel
theorem dX8_become_59 : decode cX8_become 59 = .ok (.aload_n 0, 1) := by decide +kernel
theorem dX8_become_60 : decode cX8_become 60 = .ok (.getfield 47, 3) := by decide +kernel
theorem dX8_become_63 : decode cX8_become 63 = .ok (.invokestatic 78, 3) := by decide +kernel
theorem dX8_become_66 : decode cX8_become 66 = .ok (.aload_n 1, 1) := by decide +kernel
theorem dX8_become_67 : decode cX8_become 67 = .ok (.getfield 50, 3) := by decide +kernel
theorem dX8_become_70 : decode cX8_become 70 = .ok (.aload_n 0, 1) := by decide +kernel
theorem dX8_become_71 : decode cX8_become 71 = .ok (.getfield 50, 3) := by decide +kernel
theorem dX8_become_74 : decode cX8_become 74 = .ok (.invokestatic 78, 3) := by decide +kernel
theorem dX8_become_77 : decode cX8_become 77 = .ok (.aload_n 0, 1) := by decide +kernel
theorem dX8_become_78 : decode cX8_become 78 = .ok (.aload_n 1, 1) := by decide +kernel
theorem dX8_become_79 : decode cX8_become 79 = .ok (.getfield 53, 3) := by decide +kernel
theorem dX8_become_82 : decode cX8_become 82 = .ok (.putfield 53, 3) := by decide +kernel
theorem dX8_become_85 : decode cX8_become 85 = .ok (.aload_n 0, 1) := by decide +kernel
theorem dX8_become_86 : decode cX8_become 86 = .ok (.aload_n 1, 1) := by decide +kernel
theorem dX8_become_87 : decode cX8_become 87 = .ok (.getfield 57, 3) := by decide +kernel
theorem dX8_become_90 : decode cX8_become 90 = .ok (.putfield 57, 3) := by decide +kernel
theorem dX8_become_93 : decode cX8_become 93 = .ok (.return_, 1) := by decide +kernel
theorem dX8_textOf_0 : decode cX8_textOf 0 = .ok (.iload_n 1, 1) := by decide +kernel
theorem dX8_textOf_1 : decode cX8_textOf 1 = .ok (.ifCond .ne 10, 3) := by decide +kernel
theorem dX8_textOf_4 : decode cX8_textOf 4 = .ok (.aload_n 0, 1) := by decide +kernel
theorem dX8_textOf_5 : decode cX8_textOf 5 = .ok (.getfield 40, 3) := by decide +kernel
theorem dX8_textOf_8 : decode cX8_textOf 8 = .ok (.goto 7, 3) := by decide +kernel
theorem dX8_textOf_11 : decode cX8_textOf 11 = .ok (.aload_n 0, 1) := by decide +kernel
theorem dX8_textOf_12 : decode cX8_textOf 12 = .ok (.getfield 44, 3) := by decide +kernel
theorem dX8_textOf_15 : decode cX8_textOf 15 = .ok (.areturn, 1) := by decide +kernel
theorem dX8_isAtHand_0 : decode cX8_isAtHand 0 = .ok (.iload_n 1, 1) := by decide +kernel
theorem dX8_isAtHand_1 : decode cX8_isAtHand 1 = .ok (.ifCond .lt 30, 3) := by decide +kernel
theorem dX8_isAtHand_4 : decode cX8_isAtHand 4 = .ok (.aload_n 0, 1) := by decide +kernel
theorem dX8_isAtHand_5 : decode cX8_isAtHand 5 = .ok (.getfield 26, 3) := by decide +kernel
theorem dX8_isAtHand_8 : decode cX8_isAtHand 8 = .ok (.iload_n 1, 1) := by decide +kernel
theorem dX8_isAtHand_9 : decode cX8_isAtHand 9 = .ok (.aload_n 0, 1) := by decide +kernel
theorem dX8_isAtHand_10 : decode cX8_isAtHand 10 = .ok (.getfield 18, 3) := by decide +kernel
theorem dX8_isAtHand_13 : decode cX8_isAtHand 13 = .ok (.iconst 0, 1) := by decide +kernel
theorem dX8_isAtHand_14 : decode cX8_isAtHand 14 = .ok (.iaload, 1) := by decide +kernel
theorem dX8_isAtHand_15 : decode cX8_isAtHand 15 = .ok (.invokevirtual 92, 3) := by decide +kernel
theorem dX8_isAtHand_18 : decode cX8_isAtHand 18 = .ok (.aload_n 0, 1) := by decide +kernel
theorem dX8_isAtHand_19 : decode cX8_isAtHand 19 = .ok (.getfield 18, 3) := by decide +kernel
theorem dX8_isAtHand_22 : decode cX8_isAtHand 22 = .ok (.iconst 2, 1) := by decide +kernel
theorem dX8_isAtHand_23 : decode cX8_isAtHand 23 = .ok (.iaload, 1) := by decide +kernel
theorem dX8_isAtHand_24 : decode cX8_isAtHand 24 = .ok (.if_icmp .gt 7, 3) := by decide +kernel
theorem dX8_isAtHand_27 : decode cX8_isAtHand 27 = .ok (.iconst 1, 1) := by decide +kernel
theorem dX8_isAtHand_28 : decode cX8_isAtHand 28 = .ok (.goto 4, 3) := by decide +kernel
theorem dX8_isAtHand_31 : decode cX8_isAtHand 31 = .ok (.iconst 0, 1) := by decide +kernel
theorem dX8_isAtHand_32 : decode cX8_isAtHand 32 = .ok (.ireturn, 1) := by decide +kernel
theorem dX8_slope_0 : decode cX8_slope 0 = .ok (.aload_n 0, 1) := by decide +kernel
theorem dX8_slope_1 : decode cX8_slope 1 = .ok (.getfield 26, 3) := by decide +kernel
theorem dX8_slope_4 : decode cX8_slope 4 = .ok (.getfield 96, 3) := by decide +kernel
theorem dX8_slope_7 : decode cX8_slope 7 = .ok (.aload_n 0, 1) := by decide +kernel
theorem dX8_slope_8 : decode cX8_slope 8 = .ok (.getfield 18, 3) := by decide +kernel
theorem dX8_slope_11 : decode cX8_slope 11 = .ok (.iconst 0, 1) := by decide +kernel
theorem dX8_slope_12 : decode cX8_slope 12 = .ok (.iaload, 1) := by decide +kernel
theorem dX8_slope_13 : decode cX8_slope 13 = .ok (.bipush 10, 2) := by decide +kernel
theorem dX8_slope_15 : decode cX8_slope 15 = .ok (.idiv, 1) := by decide +kernel
theorem dX8_slope_16 : decode cX8_slope 16 = .ok (.invokestatic 99, 3) := by decide +kernel
theorem dX8_slope_19 : decode cX8_slope 19 = .ok (.ireturn, 1) := by decide +kernel
theorem dX8_come_0 : decode cX8_come 0 = .ok (.aload_n 0, 1) := by decide +kernel
theorem dX8_come_1 : decode cX8_come 1 = .ok (.getfield 18, 3) := by decide +kernel
theorem dX8_come_4 : decode cX8_come 4 = .ok (.bipush 11, 2) := by decide +kernel
theorem dX8_come_6 : decode cX8_come 6 = .ok (.iload_n 1, 1) := by decide +kernel
theorem dX8_come_7 : decode cX8_come 7 = .ok (.iastore, 1) := by decide +kernel
theorem dX8_come_8 : decode cX8_come 8 = .ok (.aload_n 0, 1) := by decide +kernel
theorem dX8_come_9 : decode cX8_come 9 = .ok (.getfield 18, 3) := by decide +kernel
theorem dX8_come_12 : decode cX8_come 12 = .ok (.bipush 12, 2) := by decide +kernel
theorem dX8_come_14 : decode cX8_come 14 = .ok (.iload_n 1, 1) := by decide +kernel
theorem dX8_come_15 : decode cX8_come 15 = .ok (.aload_n 0, 1) := by decide +kernel
theorem dX8_come_16 : decode cX8_come 16 = .ok (.getfield 33, 3) := by decide +kernel
theorem dX8_come_19 : decode cX8_come 19 = .ok (.getfield 103, 3) := by decide +kernel
theorem dX8_come_22 : decode cX8_come 22 = .ok (.if_icmp .ge 17, 3) := by decide +kernel
theorem dX8_come_25 : decode cX8_come 25 = .ok (.aload_n 0, 1) := by decide +kernel
theorem dX8_come_26 : decode cX8_come 26 = .ok (.getfield 33, 3) := by decide +kernel
theorem dX8_come_29 : decode cX8_come 29 = .ok (.getfield 106, 3) := by decide +kernel
theorem dX8_come_32 : decode cX8_come 32 = .ok (.iload_n 1, 1) := by decide +kernel
theorem dX8_come_33 : decode cX8_come 33 = .ok (.invokestatic 99, 3) := by decide +kernel
theorem dX8_come_36 : decode cX8_come 36 = .ok (.goto 4, 3) := by decide +kernel
theorem dX8_come_39 : decode cX8_come 39 = .ok (.iconst 0, 1) := by decide +kernel
theorem dX8_come_40 : decode cX8_come 40 = .ok (.iastore, 1) := by decide +kernel
theorem dX8_come_41 : decode cX8_come 41 = .ok (.return_, 1) := by decide +kernel
theorem dX8_gaitOf_0 : decode cX8_gaitOf 0 = .ok (.aload_n 0, 1) := by decide +kernel
theorem dX8_gaitOf_1 : decode cX8_gaitOf 1 = .ok (.getfield 33, 3) := by decide +kernel
theorem dX8_gaitOf_4 : decode cX8_gaitOf 4 = .ok (.getfield 109, 3) := by decide +kernel
theorem dX8_gaitOf_7 : decode cX8_gaitOf 7 = .ok (.iload_n 1, 1) := by decide +kernel
theorem dX8_gaitOf_8 : decode cX8_gaitOf 8 = .ok (.invokestatic 99, 3) := by decide +kernel
theorem dX8_gaitOf_11 : decode cX8_gaitOf 11 = .ok (.istore_n 2, 1) := by decide +kernel
theorem dX8_gaitOf_12 : decode cX8_gaitOf 12 = .ok (.aload_n 0, 1) := by decide +kernel
theorem dX8_gaitOf_13 : decode cX8_gaitOf 13 = .ok (.getfield 33, 3) := by decide +kernel
theorem dX8_gaitOf_16 : decode cX8_gaitOf 16 = .ok (.getfield 112, 3) := by decide +kernel
theorem dX8_gaitOf_19 : decode cX8_gaitOf 19 = .ok (.iload_n 1, 1) := by decide +kernel
theorem dX8_gaitOf_20 : decode cX8_gaitOf 20 = .ok (.invokestatic 99, 3) := by decide +kernel
theorem dX8_gaitOf_23 : decode cX8_gaitOf 23 = .ok (.istore_n 3, 1) := by decide +kernel
theorem dX8_gaitOf_24 : decode cX8_gaitOf 24 = .ok (.aload_n 0, 1) := by decide +kernel
theorem dX8_gaitOf_25 : decode cX8_gaitOf 25 = .ok (.getfield 18, 3) := by decide +kernel
theorem dX8_gaitOf_28 : decode cX8_gaitOf 28 = .ok (.iconst 3, 1) := by decide +kernel
theorem dX8_gaitOf_29 : decode cX8_gaitOf 29 = .ok (.iaload, 1) := by decide +kernel
theorem dX8_gaitOf_30 : decode cX8_gaitOf 30 = .ok (.istore 4, 2) := by decide +kernel
theorem dX8_gaitOf_32 : decode cX8_gaitOf 32 = .ok (.aload_n 0, 1) := by decide +kernel
theorem dX8_gaitOf_33 : decode cX8_gaitOf 33 = .ok (.getfield 18, 3) := by decide +kernel
theorem dX8_gaitOf_36 : decode cX8_gaitOf 36 = .ok (.iconst 4, 1) := by decide +kernel
theorem dX8_gaitOf_37 : decode cX8_gaitOf 37 = .ok (.iaload, 1) := by decide +kernel
theorem dX8_gaitOf_38 : decode cX8_gaitOf 38 = .ok (.aload_n 0, 1) := by decide +kernel
theorem dX8_gaitOf_39 : decode cX8_gaitOf 39 = .ok (.getfield 18, 3) := by decide +kernel
theorem dX8_gaitOf_42 : decode cX8_gaitOf 42 = .ok (.iconst 5, 1) := by decide +kernel
theorem dX8_gaitOf_43 : decode cX8_gaitOf 43 = .ok (.iaload, 1) := by decide +kernel
theorem dX8_gaitOf_44 : decode cX8_gaitOf 44 = .ok (.iconst 4, 1) := by decide +kernel
theorem dX8_gaitOf_45 : decode cX8_gaitOf 45 = .ok (.idiv, 1) := by decide +kernel
theorem dX8_gaitOf_46 : decode cX8_gaitOf 46 = .ok (.iadd, 1) := by decide +kernel
theorem dX8_gaitOf_47 : decode cX8_gaitOf 47 = .ok (.aload_n 0, 1) := by decide +kernel
theorem dX8_gaitOf_48 : decode cX8_gaitOf 48 = .ok (.getfield 18, 3) := by decide +kernel
theorem dX8_gaitOf_51 : decode cX8_gaitOf 51 = .ok (.bipush 6, 2) := by decide +kernel
theorem dX8_gaitOf_53 : decode cX8_gaitOf 53 = .ok (.iaload, 1) := by decide +kernel
theorem dX8_gaitOf_54 : decode cX8_gaitOf 54 = .ok (.bipush 100, 2) := by decide +kernel
theorem dX8_gaitOf_56 : decode cX8_gaitOf 56 = .ok (.idiv, 1) := by decide +kernel
theorem dX8_gaitOf_57 : decode cX8_gaitOf 57 = .ok (.iadd, 1) := by decide +kernel
theorem dX8_gaitOf_58 : decode cX8_gaitOf 58 = .ok (.istore 5, 2) := by decide +kernel
theorem dX8_gaitOf_60 : decode cX8_gaitOf 60 = .ok (.aload_n 0, 1) := by decide +kernel
theorem dX8_gaitOf_61 : decode cX8_gaitOf 61 = .ok (.aload_n 0, 1) := by decide +kernel
theorem dX8_gaitOf_62 : decode cX8_gaitOf 62 = .ok (.getfield 26, 3) := by decide +kernel
theorem dX8_gaitOf_65 : decode cX8_gaitOf 65 = .ok (.aload_n 0, 1) := by decide +kernel
theorem dX8_gaitOf_66 : decode cX8_gaitOf 66 = .ok (.getfield 18, 3) := by decide +kernel
theorem dX8_gaitOf_69 : decode cX8_gaitOf 69 = .ok (.iconst 0, 1) := by decide +kernel
theorem dX8_gaitOf_70 : decode cX8_gaitOf 70 = .ok (.iaload, 1) := by decide +kernel
theorem dX8_gaitOf_71 : decode cX8_gaitOf 71 = .ok (.invokevirtual 115, 3) := by decide +kernel
theorem dX8_gaitOf_74 : decode cX8_gaitOf 74 = .ok (.invokevirtual 119, 3) := by decide +kernel
theorem dX8_gaitOf_77 : decode cX8_gaitOf 77 = .ok (.istore 6, 2) := by decide +kernel
theorem dX8_gaitOf_79 : decode cX8_gaitOf 79 = .ok (.iload_n 2, 1) := by decide +kernel
theorem dX8_gaitOf_80 : decode cX8_gaitOf 80 = .ok (.bipush 6, 2) := by decide +kernel
theorem dX8_gaitOf_82 : decode cX8_gaitOf 82 = .ok (.if_icmp .ne 18, 3) := by decide +kernel
theorem dX8_gaitOf_85 : decode cX8_gaitOf 85 = .ok (.aload_n 0, 1) := by decide +kernel
theorem dX8_gaitOf_86 : decode cX8_gaitOf 86 = .ok (.getfield 63, 3) := by decide +kernel
theorem dX8_gaitOf_89 : decode cX8_gaitOf 89 = .ok (.iconst 0, 1) := by decide +kernel
theorem dX8_gaitOf_90 : decode cX8_gaitOf 90 = .ok (.iconst 0, 1) := by decide +kernel
theorem dX8_gaitOf_91 : decode cX8_gaitOf 91 = .ok (.iconst 0, 1) := by decide +kernel
theorem dX8_gaitOf_92 : decode cX8_gaitOf 92 = .ok (.iload 5, 2) := by decide +kernel
theorem dX8_gaitOf_94 : decode cX8_gaitOf 94 = .ok (.invokevirtual 123, 3) := by decide +kernel
theorem dX8_gaitOf_97 : decode cX8_gaitOf 97 = .ok (.goto 160, 3) := by decide +kernel
theorem dX8_gaitOf_100 : decode cX8_gaitOf 100 = .ok (.iload_n 2, 1) := by decide +kernel
theorem dX8_gaitOf_101 : decode cX8_gaitOf 101 = .ok (.ifCond .eq 13, 3) := by decide +kernel
theorem dX8_gaitOf_104 : decode cX8_gaitOf 104 = .ok (.iload_n 2, 1) := by decide +kernel
theorem dX8_gaitOf_105 : decode cX8_gaitOf 105 = .ok (.iconst 1, 1) := by decide +kernel
theorem dX8_gaitOf_106 : decode cX8_gaitOf 106 = .ok (.if_icmp .ne 24, 3) := by decide +kernel
theorem dX8_gaitOf_109 : decode cX8_gaitOf 109 = .ok (.iload 6, 2) := by decide +kernel
theorem dX8_gaitOf_111 : decode cX8_gaitOf 111 = .ok (.ifCond .ne 19, 3) := by decide +kernel
theorem dX8_gaitOf_114 : decode cX8_gaitOf 114 = .ok (.aload_n 0, 1) := by decide +kernel
theorem dX8_gaitOf_115 : decode cX8_gaitOf 115 = .ok (.getfield 63, 3) := by decide +kernel
theorem dX8_gaitOf_118 : decode cX8_gaitOf 118 = .ok (.iload 4, 2) := by decide +kernel
theorem dX8_gaitOf_120 : decode cX8_gaitOf 120 = .ok (.iconst 0, 1) := by decide +kernel
theorem dX8_gaitOf_121 : decode cX8_gaitOf 121 = .ok (.iconst 0, 1) := by decide +kernel
theorem dX8_gaitOf_122 : decode cX8_gaitOf 122 = .ok (.iload 5, 2) := by decide +kernel
theorem dX8_gaitOf_124 : decode cX8_gaitOf 124 = .ok (.invokevirtual 123, 3) := by decide +kernel
theorem dX8_gaitOf_127 : decode cX8_gaitOf 127 = .ok (.goto 130, 3) := by decide +kernel
theorem dX8_gaitOf_130 : decode cX8_gaitOf 130 = .ok (.iload_n 2, 1) := by decide +kernel
theorem dX8_gaitOf_131 : decode cX8_gaitOf 131 = .ok (.iconst 2, 1) := by decide +kernel
theorem dX8_gaitOf_132 : decode cX8_gaitOf 132 = .ok (.if_icmp .ne 24, 3) := by decide +kernel
theorem dX8_gaitOf_135 : decode cX8_gaitOf 135 = .ok (.iload 6, 2) := by decide +kernel
theorem dX8_gaitOf_137 : decode cX8_gaitOf 137 = .ok (.ifCond .ne 19, 3) := by decide +kernel
theorem dX8_gaitOf_140 : decode cX8_gaitOf 140 = .ok (.aload_n 0, 1) := by decide +kernel
theorem dX8_gaitOf_141 : decode cX8_gaitOf 141 = .ok (.getfield 63, 3) := by decide +kernel
theorem dX8_gaitOf_144 : decode cX8_gaitOf 144 = .ok (.iload 4, 2) := by decide +kernel
theorem dX8_gaitOf_146 : decode cX8_gaitOf 146 = .ok (.iconst 1, 1) := by decide +kernel
theorem dX8_gaitOf_147 : decode cX8_gaitOf 147 = .ok (.iconst 3, 1) := by decide +kernel
theorem dX8_gaitOf_148 : decode cX8_gaitOf 148 = .ok (.iload 5, 2) := by decide +kernel
theorem dX8_gaitOf_150 : decode cX8_gaitOf 150 = .ok (.invokevirtual 123, 3) := by decide +kernel
theorem dX8_gaitOf_153 : decode cX8_gaitOf 153 = .ok (.goto 104, 3) := by decide +kernel
theorem dX8_gaitOf_156 : decode cX8_gaitOf 156 = .ok (.iload_n 2, 1) := by decide +kernel
theorem dX8_gaitOf_157 : decode cX8_gaitOf 157 = .ok (.iconst 1, 1) := by decide +kernel
theorem dX8_gaitOf_158 : decode cX8_gaitOf 158 = .ok (.if_icmp .eq 8, 3) := by decide +kernel
theorem dX8_gaitOf_161 : decode cX8_gaitOf 161 = .ok (.iload_n 2, 1) := by decide +kernel
theorem dX8_gaitOf_162 : decode cX8_gaitOf 162 = .ok (.iconst 2, 1) := by decide +kernel
theorem dX8_gaitOf_163 : decode cX8_gaitOf 163 = .ok (.if_icmp .ne 24, 3) := by decide +kernel
theorem dX8_gaitOf_166 : decode cX8_gaitOf 166 = .ok (.aload_n 0, 1) := by decide +kernel
theorem dX8_gaitOf_167 : decode cX8_gaitOf 167 = .ok (.getfield 63, 3) := by decide +kernel
theorem dX8_gaitOf_170 : decode cX8_gaitOf 170 = .ok (.iload 4, 2) := by decide +kernel
theorem dX8_gaitOf_172 : decode cX8_gaitOf 172 = .ok (.iconst 3, 1) := by decide +kernel
theorem dX8_gaitOf_173 : decode cX8_gaitOf 173 = .ok (.idiv, 1) := by decide +kernel
theorem dX8_gaitOf_174 : decode cX8_gaitOf 174 = .ok (.iconst 1, 1) := by decide +kernel
theorem dX8_gaitOf_175 : decode cX8_gaitOf 175 = .ok (.iconst 4, 1) := by decide +kernel
theorem dX8_gaitOf_176 : decode cX8_gaitOf 176 = .ok (.iload 5, 2) := by decide +kernel
theorem dX8_gaitOf_178 : decode cX8_gaitOf 178 = .ok (.bipush 20, 2) := by decide +kernel
theorem dX8_gaitOf_180 : decode cX8_gaitOf 180 = .ok (.iadd, 1) := by decide +kernel
theorem dX8_gaitOf_181 : decode cX8_gaitOf 181 = .ok (.invokevirtual 123, 3) := by decide +kernel
theorem dX8_gaitOf_184 : decode cX8_gaitOf 184 = .ok (.goto 73, 3) := by decide +kernel
theorem dX8_gaitOf_187 : decode cX8_gaitOf 187 = .ok (.iload_n 2, 1) := by decide +kernel
theorem dX8_gaitOf_188 : decode cX8_gaitOf 188 = .ok (.iconst 4, 1) := by decide +kernel
theorem dX8_gaitOf_189 : decode cX8_gaitOf 189 = .ok (.if_icmp .ne 24, 3) := by decide +kernel
theorem dX8_gaitOf_192 : decode cX8_gaitOf 192 = .ok (.aload_n 0, 1) := by decide +kernel
theorem dX8_gaitOf_193 : decode cX8_gaitOf 193 = .ok (.getfield 63, 3) := by decide +kernel
theorem dX8_gaitOf_196 : decode cX8_gaitOf 196 = .ok (.iload 4, 2) := by decide +kernel
theorem dX8_gaitOf_198 : decode cX8_gaitOf 198 = .ok (.iload_n 3, 1) := by decide +kernel
theorem dX8_gaitOf_199 : decode cX8_gaitOf 199 = .ok (.bipush 25, 2) := by decide +kernel
theorem dX8_gaitOf_201 : decode cX8_gaitOf 201 = .ok (.idiv, 1) := by decide +kernel
theorem dX8_gaitOf_202 : decode cX8_gaitOf 202 = .ok (.iadd, 1) := by decide +kernel
theorem dX8_gaitOf_203 : decode cX8_gaitOf 203 = .ok (.iconst 2, 1) := by decide +kernel
theorem dX8_gaitOf_204 : decode cX8_gaitOf 204 = .ok (.iconst 3, 1) := by decide +kernel
theorem dX8_gaitOf_205 : decode cX8_gaitOf 205 = .ok (.iload 5, 2) := by decide +kernel
theorem dX8_gaitOf_207 : decode cX8_gaitOf 207 = .ok (.invokevirtual 123, 3) := by decide +kernel
theorem dX8_gaitOf_210 : decode cX8_gaitOf 210 = .ok (.goto 47, 3) := by decide +kernel
theorem dX8_gaitOf_213 : decode cX8_gaitOf 213 = .ok (.iload_n 2, 1) := by decide +kernel
theorem dX8_gaitOf_214 : decode cX8_gaitOf 214 = .ok (.iconst 5, 1) := by decide +kernel
theorem dX8_gaitOf_215 : decode cX8_gaitOf 215 = .ok (.if_icmp .ne 29, 3) := by decide +kernel
theorem dX8_gaitOf_218 : decode cX8_gaitOf 218 = .ok (.aload_n 0, 1) := by decide +kernel
theorem dX8_gaitOf_219 : decode cX8_gaitOf 219 = .ok (.getfield 63, 3) := by decide +kernel
theorem dX8_gaitOf_222 : decode cX8_gaitOf 222 = .ok (.iload 4, 2) := by decide +kernel
theorem dX8_gaitOf_224 : decode cX8_gaitOf 224 = .ok (.iconst 2, 1) := by decide +kernel
theorem dX8_gaitOf_225 : decode cX8_gaitOf 225 = .ok (.iconst 3, 1) := by decide +kernel
theorem dX8_gaitOf_226 : decode cX8_gaitOf 226 = .ok (.iload 5, 2) := by decide +kernel
theorem dX8_gaitOf_228 : decode cX8_gaitOf 228 = .ok (.iconst 2, 1) := by decide +kernel
theorem dX8_gaitOf_229 : decode cX8_gaitOf 229 = .ok (.aload_n 0, 1) := by decide +kernel
theorem dX8_gaitOf_230 : decode cX8_gaitOf 230 = .ok (.invokevirtual 126, 3) := by decide +kernel
theorem dX8_gaitOf_233 : decode cX8_gaitOf 233 = .ok (.invokestatic 129, 3) := by decide +kernel
theorem dX8_gaitOf_236 : decode cX8_gaitOf 236 = .ok (.imul, 1) := by decide +kernel
theorem dX8_gaitOf_237 : decode cX8_gaitOf 237 = .ok (.isub, 1) := by decide +kernel
theorem dX8_gaitOf_238 : decode cX8_gaitOf 238 = .ok (.invokevirtual 123, 3) := by decide +kernel
theorem dX8_gaitOf_241 : decode cX8_gaitOf 241 = .ok (.goto 16, 3) := by decide +kernel
theorem dX8_gaitOf_244 : decode cX8_gaitOf 244 = .ok (.aload_n 0, 1) := by decide +kernel
theorem dX8_gaitOf_245 : decode cX8_gaitOf 245 = .ok (.getfield 63, 3) := by decide +kernel
theorem dX8_gaitOf_248 : decode cX8_gaitOf 248 = .ok (.iload 4, 2) := by decide +kernel
theorem dX8_gaitOf_250 : decode cX8_gaitOf 250 = .ok (.iconst 2, 1) := by decide +kernel
theorem dX8_gaitOf_251 : decode cX8_gaitOf 251 = .ok (.iconst 3, 1) := by decide +kernel
theorem dX8_gaitOf_252 : decode cX8_gaitOf 252 = .ok (.iload 5, 2) := by decide +kernel
theorem dX8_gaitOf_254 : decode cX8_gaitOf 254 = .ok (.invokevirtual 123, 3) := by decide +kernel
theorem dX8_gaitOf_257 : decode cX8_gaitOf 257 = .ok (.aload_n 0, 1) := by decide +kernel
theorem dX8_gaitOf_258 : decode cX8_gaitOf 258 = .ok (.getfield 63, 3) := by decide +kernel
theorem dX8_gaitOf_261 : decode cX8_gaitOf 261 = .ok (.areturn, 1) := by decide +kernel
theorem dX8_pass_0 : decode cX8_pass 0 = .ok (.iconst 0, 1) := by decide +kernel
theorem dX8_pass_1 : decode cX8_pass 1 = .ok (.istore_n 2, 1) := by decide +kernel
theorem dX8_pass_2 : decode cX8_pass 2 = .ok (.iload_n 2, 1) := by decide +kernel
theorem dX8_pass_3 : decode cX8_pass 3 = .ok (.iload_n 1, 1) := by decide +kernel
theorem dX8_pass_4 : decode cX8_pass 4 = .ok (.if_icmp .ge 13, 3) := by decide +kernel
theorem dX8_pass_7 : decode cX8_pass 7 = .ok (.aload_n 0, 1) := by decide +kernel
theorem dX8_pass_8 : decode cX8_pass 8 = .ok (.invokevirtual 134, 3) := by decide +kernel
theorem dX8_pass_11 : decode cX8_pass 11 = .ok (.iinc 2 1, 3) := by decide +kernel
theorem dX8_pass_14 : decode cX8_pass 14 = .ok (.goto (-12), 3) := by decide +kernel
theorem dX8_pass_17 : decode cX8_pass 17 = .ok (.return_, 1) := by decide +kernel
theorem dX8_passTenth_0 : decode cX8_passTenth 0 = .ok (.aload_n 0, 1) := by decide +kernel
theorem dX8_passTenth_1 : decode cX8_passTenth 1 = .ok (.getfield 33, 3) := by decide +kernel
theorem dX8_passTenth_4 : decode cX8_passTenth 4 = .ok (.getfield 103, 3) := by decide +kernel
theorem dX8_passTenth_7 : decode cX8_passTenth 7 = .ok (.ifCond .ne 4, 3) := by decide +kernel
theorem dX8_passTenth_10 : decode cX8_passTenth 10 = .ok (.return_, 1) := by decide +kernel
theorem dX8_passTenth_11 : decode cX8_passTenth 11 = .ok (.aload_n 0, 1) := by decide +kernel
theorem dX8_passTenth_12 : decode cX8_passTenth 12 = .ok (.aload_n 0, 1) := by decide +kernel
theorem dX8_passTenth_13 : decode cX8_passTenth 13 = .ok (.getfield 18, 3) := by decide +kernel
theorem dX8_passTenth_16 : decode cX8_passTenth 16 = .ok (.bipush 11, 2) := by decide +kernel
theorem dX8_passTenth_18 : decode cX8_passTenth 18 = .ok (.iaload, 1) := by decide +kernel
theorem dX8_passTenth_19 : decode cX8_passTenth 19 = .ok (.invokevirtual 137, 3) := by decide +kernel
theorem dX8_passTenth_22 : decode cX8_passTenth 22 = .ok (.astore_n 1, 1) := by decide +kernel
theorem dX8_passTenth_23 : decode cX8_passTenth 23 = .ok (.aload_n 0, 1) := by decide +kernel
theorem dX8_passTenth_24 : decode cX8_passTenth 24 = .ok (.aload_n 0, 1) := by decide +kernel
theorem dX8_passTenth_25 : decode cX8_passTenth 25 = .ok (.getfield 18, 3) := by decide +kernel
theorem dX8_passTenth_28 : decode cX8_passTenth 28 = .ok (.iconst 1, 1) := by decide +kernel
theorem dX8_passTenth_29 : decode cX8_passTenth 29 = .ok (.iaload, 1) := by decide +kernel
theorem dX8_passTenth_30 : decode cX8_passTenth 30 = .ok (.aload_n 0, 1) := by decide +kernel
theorem dX8_passTenth_31 : decode cX8_passTenth 31 = .ok (.aload_n 1, 1) := by decide +kernel
theorem dX8_passTenth_32 : decode cX8_passTenth 32 = .ok (.getfield 141, 3) := by decide +kernel
theorem dX8_passTenth_35 : decode cX8_passTenth 35 = .ok (.invokevirtual 144, 3) := by decide +kernel
theorem dX8_passTenth_38 : decode cX8_passTenth 38 = .ok (.invokevirtual 147, 3) := by decide +kernel
theorem dX8_passTenth_41 : decode cX8_passTenth 41 = .ok (.istore_n 2, 1) := by decide +kernel
theorem dX8_passTenth_42 : decode cX8_passTenth 42 = .ok (.iload_n 2, 1) := by decide +kernel
theorem dX8_passTenth_43 : decode cX8_passTenth 43 = .ok (.bipush (-99), 2) := by decide +kernel
theorem dX8_passTenth_45 : decode cX8_passTenth 45 = .ok (.bipush 99, 2) := by decide +kernel
theorem dX8_passTenth_47 : decode cX8_passTenth 47 = .ok (.invokestatic 150, 3) := by decide +kernel
theorem dX8_passTenth_50 : decode cX8_passTenth 50 = .ok (.ifCond .ne 10, 3) := by decide +kernel
theorem dX8_passTenth_53 : decode cX8_passTenth 53 = .ok (.aload_n 0, 1) := by decide +kernel
theorem dX8_passTenth_54 : decode cX8_passTenth 54 = .ok (.invokevirtual 154, 3) := by decide +kernel
theorem dX8_passTenth_57 : decode cX8_passTenth 57 = .ok (.goto 38, 3) := by decide +kernel
theorem dX8_passTenth_60 : decode cX8_passTenth 60 = .ok (.aload_n 0, 1) := by decide +kernel
theorem dX8_passTenth_61 : decode cX8_passTenth 61 = .ok (.aload_n 1, 1) := by decide +kernel
theorem dX8_passTenth_62 : decode cX8_passTenth 62 = .ok (.invokevirtual 157, 3) := by decide +kernel
theorem dX8_passTenth_65 : decode cX8_passTenth 65 = .ok (.ifCond .eq 23, 3) := by decide +kernel
theorem dX8_passTenth_68 : decode cX8_passTenth 68 = .ok (.aload_n 0, 1) := by decide +kernel
theorem dX8_passTenth_69 : decode cX8_passTenth 69 = .ok (.getfield 18, 3) := by decide +kernel
theorem dX8_passTenth_72 : decode cX8_passTenth 72 = .ok (.iconst 1, 1) := by decide +kernel
theorem dX8_passTenth_73 : decode cX8_passTenth 73 = .ok (.aload_n 0, 1) := by decide +kernel
theorem dX8_passTenth_74 : decode cX8_passTenth 74 = .ok (.iload_n 2, 1) := by decide +kernel
theorem dX8_passTenth_75 : decode cX8_passTenth 75 = .ok (.aload_n 1, 1) := by decide +kernel
theorem dX8_passTenth_76 : decode cX8_passTenth 76 = .ok (.invokevirtual 161, 3) := by decide +kernel
theorem dX8_passTenth_79 : decode cX8_passTenth 79 = .ok (.iastore, 1) := by decide +kernel
theorem dX8_passTenth_80 : decode cX8_passTenth 80 = .ok (.aload_n 0, 1) := by decide +kernel
theorem dX8_passTenth_81 : decode cX8_passTenth 81 = .ok (.aload_n 1, 1) := by decide +kernel
theorem dX8_passTenth_82 : decode cX8_passTenth 82 = .ok (.invokevirtual 165, 3) := by decide +kernel
theorem dX8_passTenth_85 : decode cX8_passTenth 85 = .ok (.goto 10, 3) := by decide +kernel
theorem dX8_passTenth_88 : decode cX8_passTenth 88 = .ok (.aload_n 0, 1) := by decide +kernel
theorem dX8_passTenth_89 : decode cX8_passTenth 89 = .ok (.getfield 18, 3) := by decide +kernel
theorem dX8_passTenth_92 : decode cX8_passTenth 92 = .ok (.iconst 1, 1) := by decide +kernel
theorem dX8_passTenth_93 : decode cX8_passTenth 93 = .ok (.iload_n 2, 1) := by decide +kernel
theorem dX8_passTenth_94 : decode cX8_passTenth 94 = .ok (.iastore, 1) := by decide +kernel
theorem dX8_passTenth_95 : decode cX8_passTenth 95 = .ok (.aload_n 0, 1) := by decide +kernel
theorem dX8_passTenth_96 : decode cX8_passTenth 96 = .ok (.invokevirtual 169, 3) := by decide +kernel
theorem dX8_passTenth_99 : decode cX8_passTenth 99 = .ok (.return_, 1) := by decide +kernel
theorem dX8_draw_0 : decode cX8_draw 0 = .ok (.aload_n 0, 1) := by decide +kernel
theorem dX8_draw_1 : decode cX8_draw 1 = .ok (.getfield 18, 3) := by decide +kernel
theorem dX8_draw_4 : decode cX8_draw 4 = .ok (.bipush 14, 2) := by decide +kernel
theorem dX8_draw_6 : decode cX8_draw 6 = .ok (.aload_n 0, 1) := by decide +kernel
theorem dX8_draw_7 : decode cX8_draw 7 = .ok (.getfield 18, 3) := by decide +kernel
theorem dX8_draw_10 : decode cX8_draw 10 = .ok (.bipush 14, 2) := by decide +kernel
theorem dX8_draw_12 : decode cX8_draw 12 = .ok (.iaload, 1) := by decide +kernel
theorem dX8_draw_13 : decode cX8_draw 13 = .ok (.ldc 172, 2) := by decide +kernel
theorem dX8_draw_15 : decode cX8_draw 15 = .ok (.imul, 1) := by decide +kernel
theorem dX8_draw_16 : decode cX8_draw 16 = .ok (.sipush 12345, 3) := by decide +kernel
theorem dX8_draw_19 : decode cX8_draw 19 = .ok (.iadd, 1) := by decide +kernel
theorem dX8_draw_20 : decode cX8_draw 20 = .ok (.iastore, 1) := by decide +kernel
theorem dX8_draw_21 : decode cX8_draw 21 = .ok (.iconst 2, 1) := by decide +kernel
theorem dX8_draw_22 : decode cX8_draw 22 = .ok (.iconst 0, 1) := by decide +kernel
theorem dX8_draw_23 : decode cX8_draw 23 = .ok (.iload_n 1, 1) := by decide +kernel
theorem dX8_draw_24 : decode cX8_draw 24 = .ok (.invokestatic 173, 3) := by decide +kernel
theorem dX8_draw_27 : decode cX8_draw 27 = .ok (.imul, 1) := by decide +kernel
theorem dX8_draw_28 : decode cX8_draw 28 = .ok (.iconst 1, 1) := by decide +kernel
theorem dX8_draw_29 : decode cX8_draw 29 = .ok (.iadd, 1) := by decide +kernel
theorem dX8_draw_30 : decode cX8_draw 30 = .ok (.istore_n 2, 1) := by decide +kernel
theorem dX8_draw_31 : decode cX8_draw 31 = .ok (.aload_n 0, 1) := by decide +kernel
theorem dX8_draw_32 : decode cX8_draw 32 = .ok (.getfield 18, 3) := by decide +kernel
theorem dX8_draw_35 : decode cX8_draw 35 = .ok (.bipush 14, 2) := by decide +kernel
theorem dX8_draw_37 : decode cX8_draw 37 = .ok (.iaload, 1) := by decide +kernel
theorem dX8_draw_38 : decode cX8_draw 38 = .ok (.bipush 8, 2) := by decide +kernel
theorem dX8_draw_40 : decode cX8_draw 40 = .ok (.iushr, 1) := by decide +kernel
theorem dX8_draw_41 : decode cX8_draw 41 = .ok (.iload_n 2, 1) := by decide +kernel
theorem dX8_draw_42 : decode cX8_draw 42 = .ok (.irem, 1) := by decide +kernel
theorem dX8_draw_43 : decode cX8_draw 43 = .ok (.iload_n 1, 1) := by decide +kernel
theorem dX8_draw_44 : decode cX8_draw 44 = .ok (.isub, 1) := by decide +kernel
theorem dX8_draw_45 : decode cX8_draw 45 = .ok (.ireturn, 1) := by decide +kernel
theorem dX8_leant_0 : decode cX8_leant 0 = .ok (.iload_n 1, 1) := by decide +kernel
theorem dX8_leant_1 : decode cX8_leant 1 = .ok (.iload_n 1, 1) := by decide +kernel
theorem dX8_leant_2 : decode cX8_leant 2 = .ok (.iconst 5, 1) := by decide +kernel
theorem dX8_leant_3 : decode cX8_leant 3 = .ok (.idiv, 1) := by decide +kernel
theorem dX8_leant_4 : decode cX8_leant 4 = .ok (.iadd, 1) := by decide +kernel
theorem dX8_leant_5 : decode cX8_leant 5 = .ok (.iload_n 2, 1) := by decide +kernel
theorem dX8_leant_6 : decode cX8_leant 6 = .ok (.iadd, 1) := by decide +kernel
theorem dX8_leant_7 : decode cX8_leant 7 = .ok (.aload_n 0, 1) := by decide +kernel
theorem dX8_leant_8 : decode cX8_leant 8 = .ok (.invokevirtual 126, 3) := by decide +kernel
theorem dX8_leant_11 : decode cX8_leant 11 = .ok (.iadd, 1) := by decide +kernel
theorem dX8_leant_12 : decode cX8_leant 12 = .ok (.ireturn, 1) := by decide +kernel
theorem dX8_isStep_0 : decode cX8_isStep 0 = .ok (.aload_n 0, 1) := by decide +kernel
theorem dX8_isStep_1 : decode cX8_isStep 1 = .ok (.getfield 33, 3) := by decide +kernel
theorem dX8_isStep_4 : decode cX8_isStep 4 = .ok (.getfield 106, 3) := by decide +kernel
theorem dX8_isStep_7 : decode cX8_isStep 7 = .ok (.aload_n 0, 1) := by decide +kernel
theorem dX8_isStep_8 : decode cX8_isStep 8 = .ok (.getfield 18, 3) := by decide +kernel
theorem dX8_isStep_11 : decode cX8_isStep 11 = .ok (.bipush 11, 2) := by decide +kernel
theorem dX8_isStep_13 : decode cX8_isStep 13 = .ok (.iaload, 1) := by decide +kernel
theorem dX8_isStep_14 : decode cX8_isStep 14 = .ok (.invokestatic 99, 3) := by decide +kernel
theorem dX8_isStep_17 : decode cX8_isStep 17 = .ok (.aload_n 0, 1) := by decide +kernel
theorem dX8_isStep_18 : decode cX8_isStep 18 = .ok (.getfield 18, 3) := by decide +kernel
theorem dX8_isStep_21 : decode cX8_isStep 21 = .ok (.bipush 12, 2) := by decide +kernel
theorem dX8_isStep_23 : decode cX8_isStep 23 = .ok (.iaload, 1) := by decide +kernel
theorem dX8_isStep_24 : decode cX8_isStep 24 = .ok (.isub, 1) := by decide +kernel
theorem dX8_isStep_25 : decode cX8_isStep 25 = .ok (.iconst 1, 1) := by decide +kernel
theorem dX8_isStep_26 : decode cX8_isStep 26 = .ok (.iadd, 1) := by decide +kernel
theorem dX8_isStep_27 : decode cX8_isStep 27 = .ok (.istore_n 2, 1) := by decide +kernel
theorem dX8_isStep_28 : decode cX8_isStep 28 = .ok (.aload_n 1, 1) := by decide +kernel
theorem dX8_isStep_29 : decode cX8_isStep 29 = .ok (.getfield 176, 3) := by decide +kernel
theorem dX8_isStep_32 : decode cX8_isStep 32 = .ok (.ifCond .eq 16, 3) := by decide +kernel
theorem dX8_isStep_35 : decode cX8_isStep 35 = .ok (.iload_n 2, 1) := by decide +kernel
theorem dX8_isStep_36 : decode cX8_isStep 36 = .ok (.aload_n 1, 1) := by decide +kernel
theorem dX8_isStep_37 : decode cX8_isStep 37 = .ok (.getfield 176, 3) := by decide +kernel
theorem dX8_isStep_40 : decode cX8_isStep 40 = .ok (.irem, 1) := by decide +kernel
theorem dX8_isStep_41 : decode cX8_isStep 41 = .ok (.ifCond .ne 7, 3) := by decide +kernel
theorem dX8_isStep_44 : decode cX8_isStep 44 = .ok (.iconst 1, 1) := by decide +kernel
theorem dX8_isStep_45 : decode cX8_isStep 45 = .ok (.goto 4, 3) := by decide +kernel
theorem dX8_isStep_48 : decode cX8_isStep 48 = .ok (.iconst 0, 1) := by decide +kernel
theorem dX8_isStep_49 : decode cX8_isStep 49 = .ok (.ireturn, 1) := by decide +kernel
theorem dX8_caught_0 : decode cX8_caught 0 = .ok (.aload_n 0, 1) := by decide +kernel
theorem dX8_caught_1 : decode cX8_caught 1 = .ok (.getfield 26, 3) := by decide +kernel
theorem dX8_caught_4 : decode cX8_caught 4 = .ok (.getfield 179, 3) := by decide +kernel
theorem dX8_caught_7 : decode cX8_caught 7 = .ok (.aload_n 0, 1) := by decide +kernel
theorem dX8_caught_8 : decode cX8_caught 8 = .ok (.getfield 18, 3) := by decide +kernel
theorem dX8_caught_11 : decode cX8_caught 11 = .ok (.iconst 0, 1) := by decide +kernel
theorem dX8_caught_12 : decode cX8_caught 12 = .ok (.iaload, 1) := by decide +kernel
theorem dX8_caught_13 : decode cX8_caught 13 = .ok (.bipush 10, 2) := by decide +kernel
theorem dX8_caught_15 : decode cX8_caught 15 = .ok (.idiv, 1) := by decide +kernel
theorem dX8_caught_16 : decode cX8_caught 16 = .ok (.invokestatic 99, 3) := by decide +kernel
theorem dX8_caught_19 : decode cX8_caught 19 = .ok (.istore_n 3, 1) := by decide +kernel
theorem dX8_caught_20 : decode cX8_caught 20 = .ok (.iconst 0, 1) := by decide +kernel
theorem dX8_caught_21 : decode cX8_caught 21 = .ok (.aload_n 2, 1) := by decide +kernel
theorem dX8_caught_22 : decode cX8_caught 22 = .ok (.getfield 182, 3) := by decide +kernel
theorem dX8_caught_25 : decode cX8_caught 25 = .ok (.iconst 2, 1) := by decide +kernel
theorem dX8_caught_26 : decode cX8_caught 26 = .ok (.iload_n 3, 1) := by decide +kernel
theorem dX8_caught_27 : decode cX8_caught 27 = .ok (.imul, 1) := by decide +kernel
theorem dX8_caught_28 : decode cX8_caught 28 = .ok (.isub, 1) := by decide +kernel
theorem dX8_caught_29 : decode cX8_caught 29 = .ok (.invokestatic 173, 3) := by decide +kernel
theorem dX8_caught_32 : decode cX8_caught 32 = .ok (.istore 4, 2) := by decide +kernel
theorem dX8_caught_34 : decode cX8_caught 34 = .ok (.iload_n 1, 1) := by decide +kernel
theorem dX8_caught_35 : decode cX8_caught 35 = .ok (.ifCond .le 14, 3) := by decide +kernel
theorem dX8_caught_38 : decode cX8_caught 38 = .ok (.iconst 0, 1) := by decide +kernel
theorem dX8_caught_39 : decode cX8_caught 39 = .ok (.iload_n 1, 1) := by decide +kernel
theorem dX8_caught_40 : decode cX8_caught 40 = .ok (.iload 4, 2) := by decide +kernel
theorem dX8_caught_42 : decode cX8_caught 42 = .ok (.isub, 1) := by decide +kernel
theorem dX8_caught_43 : decode cX8_caught 43 = .ok (.invokestatic 173, 3) := by decide +kernel
theorem dX8_caught_46 : decode cX8_caught 46 = .ok (.goto 11, 3) := by decide +kernel
theorem dX8_caught_49 : decode cX8_caught 49 = .ok (.iconst 0, 1) := by decide +kernel
theorem dX8_caught_50 : decode cX8_caught 50 = .ok (.iload_n 1, 1) := by decide +kernel
theorem dX8_caught_51 : decode cX8_caught 51 = .ok (.iload 4, 2) := by decide +kernel
theorem dX8_caught_53 : decode cX8_caught 53 = .ok (.iadd, 1) := by decide +kernel
theorem dX8_caught_54 : decode cX8_caught 54 = .ok (.invokestatic 185, 3) := by decide +kernel
theorem dX8_caught_57 : decode cX8_caught 57 = .ok (.ireturn, 1) := by decide +kernel
theorem dX8_stepOn_0 : decode cX8_stepOn 0 = .ok (.bipush 99, 2) := by decide +kernel
theorem dX8_stepOn_2 : decode cX8_stepOn 2 = .ok (.aload_n 0, 1) := by decide +kernel
theorem dX8_stepOn_3 : decode cX8_stepOn 3 = .ok (.getfield 18, 3) := by decide +kernel
theorem dX8_stepOn_6 : decode cX8_stepOn 6 = .ok (.iconst 0, 1) := by decide +kernel
theorem dX8_stepOn_7 : decode cX8_stepOn 7 = .ok (.iaload, 1) := by decide +kernel
theorem dX8_stepOn_8 : decode cX8_stepOn 8 = .ok (.aload_n 1, 1) := by decide +kernel
theorem dX8_stepOn_9 : decode cX8_stepOn 9 = .ok (.getfield 188, 3) := by decide +kernel
theorem dX8_stepOn_12 : decode cX8_stepOn 12 = .ok (.iadd, 1) := by decide +kernel
theorem dX8_stepOn_13 : decode cX8_stepOn 13 = .ok (.invokestatic 185, 3) := by decide +kernel
theorem dX8_stepOn_16 : decode cX8_stepOn 16 = .ok (.istore_n 2, 1) := by decide +kernel
theorem dX8_stepOn_17 : decode cX8_stepOn 17 = .ok (.aload_n 0, 1) := by decide +kernel
theorem dX8_stepOn_18 : decode cX8_stepOn 18 = .ok (.bipush 8, 2) := by decide +kernel
theorem dX8_stepOn_20 : decode cX8_stepOn 20 = .ok (.iconst 1, 1) := by decide +kernel
theorem dX8_stepOn_21 : decode cX8_stepOn 21 = .ok (.ldc 191, 2) := by decide +kernel
theorem dX8_stepOn_23 : decode cX8_stepOn 23 = .ok (.invokevirtual 192, 3) := by decide +kernel
theorem dX8_stepOn_26 : decode cX8_stepOn 26 = .ok (.aload_n 0, 1) := by decide +kernel
theorem dX8_stepOn_27 : decode cX8_stepOn 27 = .ok (.bipush 10, 2) := by decide +kernel
theorem dX8_stepOn_29 : decode cX8_stepOn 29 = .ok (.iload_n 2, 1) := by decide +kernel
theorem dX8_stepOn_30 : decode cX8_stepOn 30 = .ok (.aload_n 0, 1) := by decide +kernel
theorem dX8_stepOn_31 : decode cX8_stepOn 31 = .ok (.getfield 18, 3) := by decide +kernel
theorem dX8_stepOn_34 : decode cX8_stepOn 34 = .ok (.iconst 0, 1) := by decide +kernel
theorem dX8_stepOn_35 : decode cX8_stepOn 35 = .ok (.iaload, 1) := by decide +kernel
theorem dX8_stepOn_36 : decode cX8_stepOn 36 = .ok (.isub, 1) := by decide +kernel
theorem dX8_stepOn_37 : decode cX8_stepOn 37 = .ok (.ldc 191, 2) := by decide +kernel
theorem dX8_stepOn_39 : decode cX8_stepOn 39 = .ok (.invokevirtual 192, 3) := by decide +kernel
theorem dX8_stepOn_42 : decode cX8_stepOn 42 = .ok (.aload_n 0, 1) := by decide +kernel
theorem dX8_stepOn_43 : decode cX8_stepOn 43 = .ok (.getfield 18, 3) := by decide +kernel
theorem dX8_stepOn_46 : decode cX8_stepOn 46 = .ok (.iconst 0, 1) := by decide +kernel
theorem dX8_stepOn_47 : decode cX8_stepOn 47 = .ok (.iload_n 2, 1) := by decide +kernel
theorem dX8_stepOn_48 : decode cX8_stepOn 48 = .ok (.iastore, 1) := by decide +kernel
theorem dX8_stepOn_49 : decode cX8_stepOn 49 = .ok (.return_, 1) := by decide +kernel
theorem dX8_fall_0 : decode cX8_fall 0 = .ok (.aload_n 0, 1) := by decide +kernel
theorem dX8_fall_1 : decode cX8_fall 1 = .ok (.getfield 26, 3) := by decide +kernel
theorem dX8_fall_4 : decode cX8_fall 4 = .ok (.aload_n 0, 1) := by decide +kernel
theorem dX8_fall_5 : decode cX8_fall 5 = .ok (.getfield 18, 3) := by decide +kernel
theorem dX8_fall_8 : decode cX8_fall 8 = .ok (.iconst 0, 1) := by decide +kernel
theorem dX8_fall_9 : decode cX8_fall 9 = .ok (.iaload, 1) := by decide +kernel
theorem dX8_fall_10 : decode cX8_fall 10 = .ok (.invokevirtual 115, 3) := by decide +kernel
theorem dX8_fall_13 : decode cX8_fall 13 = .ok (.istore_n 1, 1) := by decide +kernel
theorem dX8_fall_14 : decode cX8_fall 14 = .ok (.aload_n 0, 1) := by decide +kernel
theorem dX8_fall_15 : decode cX8_fall 15 = .ok (.iload_n 1, 1) := by decide +kernel
theorem dX8_fall_16 : decode cX8_fall 16 = .ok (.invokevirtual 119, 3) := by decide +kernel
theorem dX8_fall_19 : decode cX8_fall 19 = .ok (.ifCond .eq 31, 3) := by decide +kernel
theorem dX8_fall_22 : decode cX8_fall 22 = .ok (.aload_n 0, 1) := by decide +kernel
theorem dX8_fall_23 : decode cX8_fall 23 = .ok (.getfield 26, 3) := by decide +kernel
theorem dX8_fall_26 : decode cX8_fall 26 = .ok (.getfield 196, 3) := by decide +kernel
theorem dX8_fall_29 : decode cX8_fall 29 = .ok (.iload_n 1, 1) := by decide +kernel
theorem dX8_fall_30 : decode cX8_fall 30 = .ok (.invokestatic 99, 3) := by decide +kernel
theorem dX8_fall_33 : decode cX8_fall 33 = .ok (.ifCond .ne 17, 3) := by decide +kernel
theorem dX8_fall_36 : decode cX8_fall 36 = .ok (.aload_n 0, 1) := by decide +kernel
theorem dX8_fall_37 : decode cX8_fall 37 = .ok (.getfield 26, 3) := by decide +kernel
theorem dX8_fall_40 : decode cX8_fall 40 = .ok (.getfield 199, 3) := by decide +kernel
theorem dX8_fall_43 : decode cX8_fall 43 = .ok (.iload_n 1, 1) := by decide +kernel
theorem dX8_fall_44 : decode cX8_fall 44 = .ok (.invokestatic 99, 3) := by decide +kernel
theorem dX8_fall_47 : decode cX8_fall 47 = .ok (.goto 4, 3) := by decide +kernel
theorem dX8_fall_50 : decode cX8_fall 50 = .ok (.iconst 0, 1) := by decide +kernel
theorem dX8_fall_51 : decode cX8_fall 51 = .ok (.istore_n 2, 1) := by decide +kernel
theorem dX8_fall_52 : decode cX8_fall 52 = .ok (.aload_n 0, 1) := by decide +kernel
theorem dX8_fall_53 : decode cX8_fall 53 = .ok (.getfield 18, 3) := by decide +kernel
theorem dX8_fall_56 : decode cX8_fall 56 = .ok (.iconst 1, 1) := by decide +kernel
theorem dX8_fall_57 : decode cX8_fall 57 = .ok (.iconst 0, 1) := by decide +kernel
theorem dX8_fall_58 : decode cX8_fall 58 = .ok (.iastore, 1) := by decide +kernel
theorem dX8_fall_59 : decode cX8_fall 59 = .ok (.aload_n 0, 1) := by decide +kernel
theorem dX8_fall_60 : decode cX8_fall 60 = .ok (.bipush 7, 2) := by decide +kernel
theorem dX8_fall_62 : decode cX8_fall 62 = .ok (.iconst 1, 1) := by decide +kernel
theorem dX8_fall_63 : decode cX8_fall 63 = .ok (.ldc 191, 2) := by decide +kernel
theorem dX8_fall_65 : decode cX8_fall 65 = .ok (.invokevirtual 192, 3) := by decide +kernel
theorem dX8_fall_68 : decode cX8_fall 68 = .ok (.aload_n 0, 1) := by decide +kernel
theorem dX8_fall_69 : decode cX8_fall 69 = .ok (.bipush 9, 2) := by decide +kernel
theorem dX8_fall_71 : decode cX8_fall 71 = .ok (.iload_n 2, 1) := by decide +kernel
theorem dX8_fall_72 : decode cX8_fall 72 = .ok (.ldc 191, 2) := by decide +kernel
theorem dX8_fall_74 : decode cX8_fall 74 = .ok (.invokevirtual 192, 3) := by decide +kernel
theorem dX8_fall_77 : decode cX8_fall 77 = .ok (.aload_n 0, 1) := by decide +kernel
theorem dX8_fall_78 : decode cX8_fall 78 = .ok (.bipush 6, 2) := by decide +kernel
theorem dX8_fall_80 : decode cX8_fall 80 = .ok (.aload_n 0, 1) := by decide +kernel
theorem dX8_fall_81 : decode cX8_fall 81 = .ok (.iload_n 2, 1) := by decide +kernel
theorem dX8_fall_82 : decode cX8_fall 82 = .ok (.invokevirtual 202, 3) := by decide +kernel
theorem dX8_fall_85 : decode cX8_fall 85 = .ok (.getstatic 205, 3) := by decide +kernel
theorem dX8_fall_88 : decode cX8_fall 88 = .ok (.bipush 6, 2) := by decide +kernel
theorem dX8_fall_90 : decode cX8_fall 90 = .ok (.invokestatic 99, 3) := by decide +kernel
theorem dX8_fall_93 : decode cX8_fall 93 = .ok (.invokevirtual 192, 3) := by decide +kernel
theorem dX8_fall_96 : decode cX8_fall 96 = .ok (.return_, 1) := by decide +kernel
theorem dX8_gain_0 : decode cX8_gain 0 = .ok (.aload_n 0, 1) := by decide +kernel
theorem dX8_gain_1 : decode cX8_gain 1 = .ok (.getfield 18, 3) := by decide +kernel
theorem dX8_gain_4 : decode cX8_gain 4 = .ok (.iload_n 1, 1) := by decide +kernel
theorem dX8_gain_5 : decode cX8_gain 5 = .ok (.iload_n 3, 1) := by decide +kernel
theorem dX8_gain_6 : decode cX8_gain 6 = .ok (.aload_n 0, 1) := by decide +kernel
theorem dX8_gain_7 : decode cX8_gain 7 = .ok (.getfield 18, 3) := by decide +kernel
theorem dX8_gain_10 : decode cX8_gain 10 = .ok (.iload_n 1, 1) := by decide +kernel
theorem dX8_gain_11 : decode cX8_gain 11 = .ok (.invokestatic 99, 3) := by decide +kernel
theorem dX8_gain_14 : decode cX8_gain 14 = .ok (.iload_n 2, 1) := by decide +kernel
theorem dX8_gain_15 : decode cX8_gain 15 = .ok (.iadd, 1) := by decide +kernel
theorem dX8_gain_16 : decode cX8_gain 16 = .ok (.invokestatic 185, 3) := by decide +kernel
theorem dX8_gain_19 : decode cX8_gain 19 = .ok (.invokestatic 208, 3) := by decide +kernel
theorem dX8_gain_22 : decode cX8_gain 22 = .ok (.pop, 1) := by decide +kernel
theorem dX8_gain_23 : decode cX8_gain 23 = .ok (.return_, 1) := by decide +kernel
theorem dX8_goOn_0 : decode cX8_goOn 0 = .ok (.aload_n 0, 1) := by decide +kernel
theorem dX8_goOn_1 : decode cX8_goOn 1 = .ok (.getfield 18, 3) := by decide +kernel
theorem dX8_goOn_4 : decode cX8_goOn 4 = .ok (.bipush 12, 2) := by decide +kernel
theorem dX8_goOn_6 : decode cX8_goOn 6 = .ok (.dup2, 1) := by decide +kernel
theorem dX8_goOn_7 : decode cX8_goOn 7 = .ok (.iaload, 1) := by decide +kernel
theorem dX8_goOn_8 : decode cX8_goOn 8 = .ok (.iconst 1, 1) := by decide +kernel
theorem dX8_goOn_9 : decode cX8_goOn 9 = .ok (.isub, 1) := by decide +kernel
theorem dX8_goOn_10 : decode cX8_goOn 10 = .ok (.iastore, 1) := by decide +kernel
theorem dX8_goOn_11 : decode cX8_goOn 11 = .ok (.aload_n 0, 1) := by decide +kernel
theorem dX8_goOn_12 : decode cX8_goOn 12 = .ok (.getfield 18, 3) := by decide +kernel
theorem dX8_goOn_15 : decode cX8_goOn 15 = .ok (.bipush 12, 2) := by decide +kernel
theorem dX8_goOn_17 : decode cX8_goOn 17 = .ok (.iaload, 1) := by decide +kernel
theorem dX8_goOn_18 : decode cX8_goOn 18 = .ok (.ifCond .gt 39, 3) := by decide +kernel
theorem dX8_goOn_21 : decode cX8_goOn 21 = .ok (.aload_n 0, 1) := by decide +kernel
theorem dX8_goOn_22 : decode cX8_goOn 22 = .ok (.aload_n 0, 1) := by decide +kernel
theorem dX8_goOn_23 : decode cX8_goOn 23 = .ok (.getfield 18, 3) := by decide +kernel
theorem dX8_goOn_26 : decode cX8_goOn 26 = .ok (.bipush 11, 2) := by decide +kernel
theorem dX8_goOn_28 : decode cX8_goOn 28 = .ok (.iaload, 1) := by decide +kernel
theorem dX8_goOn_29 : decode cX8_goOn 29 = .ok (.iconst 1, 1) := by decide +kernel
theorem dX8_goOn_30 : decode cX8_goOn 30 = .ok (.iadd, 1) := by decide +kernel
theorem dX8_goOn_31 : decode cX8_goOn 31 = .ok (.aload_n 0, 1) := by decide +kernel
theorem dX8_goOn_32 : decode cX8_goOn 32 = .ok (.getfield 33, 3) := by decide +kernel
theorem dX8_goOn_35 : decode cX8_goOn 35 = .ok (.getfield 103, 3) := by decide +kernel
theorem dX8_goOn_38 : decode cX8_goOn 38 = .ok (.if_icmp .ge 15, 3) := by decide +kernel
theorem dX8_goOn_41 : decode cX8_goOn 41 = .ok (.aload_n 0, 1) := by decide +kernel
theorem dX8_goOn_42 : decode cX8_goOn 42 = .ok (.getfield 18, 3) := by decide +kernel
theorem dX8_goOn_45 : decode cX8_goOn 45 = .ok (.bipush 11, 2) := by decide +kernel
theorem dX8_goOn_47 : decode cX8_goOn 47 = .ok (.iaload, 1) := by decide +kernel
theorem dX8_goOn_48 : decode cX8_goOn 48 = .ok (.iconst 1, 1) := by decide +kernel
theorem dX8_goOn_49 : decode cX8_goOn 49 = .ok (.iadd, 1) := by decide +kernel
theorem dX8_goOn_50 : decode cX8_goOn 50 = .ok (.goto 4, 3) := by decide +kernel
theorem dX8_goOn_53 : decode cX8_goOn 53 = .ok (.iconst 0, 1) := by decide +kernel
theorem dX8_goOn_54 : decode cX8_goOn 54 = .ok (.invokevirtual 212, 3) := by decide +kernel
theorem dX8_goOn_57 : decode cX8_goOn 57 = .ok (.return_, 1) := by decide +kernel
theorem dX8_passDay_0 : decode cX8_passDay 0 = .ok (.aload_n 0, 1) := by decide +kernel
theorem dX8_passDay_1 : decode cX8_passDay 1 = .ok (.getfield 18, 3) := by decide +kernel
theorem dX8_passDay_4 : decode cX8_passDay 4 = .ok (.bipush 13, 2) := by decide +kernel
theorem dX8_passDay_6 : decode cX8_passDay 6 = .ok (.dup2, 1) := by decide +kernel
theorem dX8_passDay_7 : decode cX8_passDay 7 = .ok (.iaload, 1) := by decide +kernel
theorem dX8_passDay_8 : decode cX8_passDay 8 = .ok (.iconst 1, 1) := by decide +kernel
theorem dX8_passDay_9 : decode cX8_passDay 9 = .ok (.iadd, 1) := by decide +kernel
theorem dX8_passDay_10 : decode cX8_passDay 10 = .ok (.iastore, 1) := by decide +kernel
theorem dX8_passDay_11 : decode cX8_passDay 11 = .ok (.aload_n 0, 1) := by decide +kernel
theorem dX8_passDay_12 : decode cX8_passDay 12 = .ok (.getfield 18, 3) := by decide +kernel
theorem dX8_passDay_15 : decode cX8_passDay 15 = .ok (.bipush 13, 2) := by decide +kernel
theorem dX8_passDay_17 : decode cX8_passDay 17 = .ok (.iaload, 1) := by decide +kernel
theorem dX8_passDay_18 : decode cX8_passDay 18 = .ok (.bipush 7, 2) := by decide +kernel
theorem dX8_passDay_20 : decode cX8_passDay 20 = .ok (.irem, 1) := by decide +kernel
theorem dX8_passDay_21 : decode cX8_passDay 21 = .ok (.ifCond .ne 11, 3) := by decide +kernel
theorem dX8_passDay_24 : decode cX8_passDay 24 = .ok (.aload_n 0, 1) := by decide +kernel
theorem dX8_passDay_25 : decode cX8_passDay 25 = .ok (.iconst 5, 1) := by decide +kernel
theorem dX8_passDay_26 : decode cX8_passDay 26 = .ok (.iconst 1, 1) := by decide +kernel
theorem dX8_passDay_27 : decode cX8_passDay 27 = .ok (.bipush 60, 2) := by decide +kernel
theorem dX8_passDay_29 : decode cX8_passDay 29 = .ok (.invokevirtual 192, 3) := by decide +kernel
theorem dX8_passDay_32 : decode cX8_passDay 32 = .ok (.aload_n 0, 1) := by decide +kernel
theorem dX8_passDay_33 : decode cX8_passDay 33 = .ok (.getfield 18, 3) := by decide +kernel
theorem dX8_passDay_36 : decode cX8_passDay 36 = .ok (.iconst 0, 1) := by decide +kernel
theorem dX8_passDay_37 : decode cX8_passDay 37 = .ok (.iconst 0, 1) := by decide +kernel
theorem dX8_passDay_38 : decode cX8_passDay 38 = .ok (.iastore, 1) := by decide +kernel
theorem dX8_passDay_39 : decode cX8_passDay 39 = .ok (.aload_n 0, 1) := by decide +kernel
theorem dX8_passDay_40 : decode cX8_passDay 40 = .ok (.getfield 18, 3) := by decide +kernel
theorem dX8_passDay_43 : decode cX8_passDay 43 = .ok (.iconst 1, 1) := by decide +kernel
theorem dX8_passDay_44 : decode cX8_passDay 44 = .ok (.iconst 0, 1) := by decide +kernel
theorem dX8_passDay_45 : decode cX8_passDay 45 = .ok (.iastore, 1) := by decide +kernel
theorem dX8_passDay_46 : decode cX8_passDay 46 = .ok (.aload_n 0, 1) := by decide +kernel
theorem dX8_passDay_47 : decode cX8_passDay 47 = .ok (.iconst 0, 1) := by decide +kernel
theorem dX8_passDay_48 : decode cX8_passDay 48 = .ok (.invokevirtual 212, 3) := by decide +kernel
theorem dX8_passDay_51 : decode cX8_passDay 51 = .ok (.return_, 1) := by decide +kernel
theorem dX8_learns_0 : decode cX8_learns 0 = .ok (.aload_n 0, 1) := by decide +kernel
theorem dX8_learns_1 : decode cX8_learns 1 = .ok (.getfield 40, 3) := by decide +kernel
theorem dX8_learns_4 : decode cX8_learns 4 = .ok (.getfield 216, 3) := by decide +kernel
theorem dX8_learns_7 : decode cX8_learns 7 = .ok (.ifCond .ne 10, 3) := by decide +kernel
theorem dX8_learns_10 : decode cX8_learns 10 = .ok (.iconst 5, 1) := by decide +kernel
theorem dX8_learns_11 : decode cX8_learns 11 = .ok (.iload_n 1, 1) := by decide +kernel
theorem dX8_learns_12 : decode cX8_learns 12 = .ok (.bipush 20, 2) := by decide +kernel
theorem dX8_learns_14 : decode cX8_learns 14 = .ok (.idiv, 1) := by decide +kernel
theorem dX8_learns_15 : decode cX8_learns 15 = .ok (.isub, 1) := by decide +kernel
theorem dX8_learns_16 : decode cX8_learns 16 = .ok (.ireturn, 1) := by decide +kernel
theorem dX8_learns_17 : decode cX8_learns 17 = .ok (.aload_n 0, 1) := by decide +kernel
theorem dX8_learns_18 : decode cX8_learns 18 = .ok (.aload_n 0, 1) := by decide +kernel
theorem dX8_learns_19 : decode cX8_learns 19 = .ok (.getfield 18, 3) := by decide +kernel
theorem dX8_learns_22 : decode cX8_learns 22 = .ok (.bipush 7, 2) := by decide +kernel
theorem dX8_learns_24 : decode cX8_learns 24 = .ok (.iaload, 1) := by decide +kernel
theorem dX8_learns_25 : decode cX8_learns 25 = .ok (.aload_n 0, 1) := by decide +kernel
theorem dX8_learns_26 : decode cX8_learns 26 = .ok (.getfield 18, 3) := by decide +kernel
theorem dX8_learns_29 : decode cX8_learns 29 = .ok (.bipush 8, 2) := by decide +kernel
theorem dX8_learns_31 : decode cX8_learns 31 = .ok (.iaload, 1) := by decide +kernel
theorem dX8_learns_32 : decode cX8_learns 32 = .ok (.aload_n 0, 1) := by decide +kernel
theorem dX8_learns_33 : decode cX8_learns 33 = .ok (.getfield 18, 3) := by decide +kernel
theorem dX8_learns_36 : decode cX8_learns 36 = .ok (.iconst 5, 1) := by decide +kernel
theorem dX8_learns_37 : decode cX8_learns 37 = .ok (.iaload, 1) := by decide +kernel
theorem dX8_learns_38 : decode cX8_learns 38 = .ok (.aload_n 0, 1) := by decide +kernel
theorem dX8_learns_39 : decode cX8_learns 39 = .ok (.getfield 18, 3) := by decide +kernel
theorem dX8_learns_42 : decode cX8_learns 42 = .ok (.bipush 6, 2) := by decide +kernel
theorem dX8_learns_44 : decode cX8_learns 44 = .ok (.iaload, 1) := by decide +kernel
theorem dX8_learns_45 : decode cX8_learns 45 = .ok (.iload_n 1, 1) := by decide +kernel
theorem dX8_learns_46 : decode cX8_learns 46 = .ok (.invokevirtual 218, 3) := by decide +kernel
theorem dX8_learns_49 : decode cX8_learns 49 = .ok (.aload_n 0, 1) := by decide +kernel
theorem dX8_learns_50 : decode cX8_learns 50 = .ok (.getfield 40, 3) := by decide +kernel
theorem dX8_learns_53 : decode cX8_learns 53 = .ok (.aload_n 0, 1) := by decide +kernel
theorem dX8_learns_54 : decode cX8_learns 54 = .ok (.getfield 75, 3) := by decide +kernel
theorem dX8_learns_57 : decode cX8_learns 57 = .ok (.invokevirtual 222, 3) := by decide +kernel
theorem dX8_learns_60 : decode cX8_learns 60 = .ok (.iconst 0, 1) := by decide +kernel
theorem dX8_learns_61 : decode cX8_learns 61 = .ok (.sipush 999, 3) := by decide +kernel
theorem dX8_learns_64 : decode cX8_learns 64 = .ok (.invokestatic 226, 3) := by decide +kernel
theorem dX8_learns_67 : decode cX8_learns 67 = .ok (.ireturn, 1) := by decide +kernel
theorem dX8_dares_0 : decode cX8_dares 0 = .ok (.aload_n 0, 1) := by decide +kernel
theorem dX8_dares_1 : decode cX8_dares 1 = .ok (.getfield 44, 3) := by decide +kernel
theorem dX8_dares_4 : decode cX8_dares 4 = .ok (.getfield 216, 3) := by decide +kernel
theorem dX8_dares_7 : decode cX8_dares 7 = .ok (.ifCond .ne 41, 3) := by decide +kernel
theorem dX8_dares_10 : decode cX8_dares 10 = .ok (.iload_n 1, 1) := by decide +kernel
theorem dX8_dares_11 : decode cX8_dares 11 = .ok (.aload_n 0, 1) := by decide +kernel
theorem dX8_dares_12 : decode cX8_dares 12 = .ok (.getfield 18, 3) := by decide +kernel
theorem dX8_dares_15 : decode cX8_dares 15 = .ok (.iconst 2, 1) := by decide +kernel
theorem dX8_dares_16 : decode cX8_dares 16 = .ok (.iaload, 1) := by decide +kernel
theorem dX8_dares_17 : decode cX8_dares 17 = .ok (.aload_n 0, 1) := by decide +kernel
theorem dX8_dares_18 : decode cX8_dares 18 = .ok (.getfield 18, 3) := by decide +kernel
theorem dX8_dares_21 : decode cX8_dares 21 = .ok (.iconst 5, 1) := by decide +kernel
theorem dX8_dares_22 : decode cX8_dares 22 = .ok (.iaload, 1) := by decide +kernel
theorem dX8_dares_23 : decode cX8_dares 23 = .ok (.iconst 2, 1) := by decide +kernel
theorem dX8_dares_24 : decode cX8_dares 24 = .ok (.idiv, 1) := by decide +kernel
theorem dX8_dares_25 : decode cX8_dares 25 = .ok (.iadd, 1) := by decide +kernel
theorem dX8_dares_26 : decode cX8_dares 26 = .ok (.aload_n 0, 1) := by decide +kernel
theorem dX8_dares_27 : decode cX8_dares 27 = .ok (.getfield 18, 3) := by decide +kernel
theorem dX8_dares_30 : decode cX8_dares 30 = .ok (.bipush 6, 2) := by decide +kernel
theorem dX8_dares_32 : decode cX8_dares 32 = .ok (.iaload, 1) := by decide +kernel
theorem dX8_dares_33 : decode cX8_dares 33 = .ok (.bipush 100, 2) := by decide +kernel
theorem dX8_dares_35 : decode cX8_dares 35 = .ok (.idiv, 1) := by decide +kernel
theorem dX8_dares_36 : decode cX8_dares 36 = .ok (.iadd, 1) := by decide +kernel
theorem dX8_dares_37 : decode cX8_dares 37 = .ok (.iconst 1, 1) := by decide +kernel
theorem dX8_dares_38 : decode cX8_dares 38 = .ok (.iadd, 1) := by decide +kernel
theorem dX8_dares_39 : decode cX8_dares 39 = .ok (.if_icmp .ge 7, 3) := by decide +kernel
theorem dX8_dares_42 : decode cX8_dares 42 = .ok (.iconst 1, 1) := by decide +kernel
theorem dX8_dares_43 : decode cX8_dares 43 = .ok (.goto 4, 3) := by decide +kernel
theorem dX8_dares_46 : decode cX8_dares 46 = .ok (.iconst 0, 1) := by decide +kernel
theorem dX8_dares_47 : decode cX8_dares 47 = .ok (.ireturn, 1) := by decide +kernel
theorem dX8_dares_48 : decode cX8_dares 48 = .ok (.aload_n 0, 1) := by decide +kernel
theorem dX8_dares_49 : decode cX8_dares 49 = .ok (.iload_n 1, 1) := by decide +kernel
theorem dX8_dares_50 : decode cX8_dares 50 = .ok (.aload_n 0, 1) := by decide +kernel
theorem dX8_dares_51 : decode cX8_dares 51 = .ok (.getfield 18, 3) := by decide +kernel
theorem dX8_dares_54 : decode cX8_dares 54 = .ok (.iconst 2, 1) := by decide +kernel
theorem dX8_dares_55 : decode cX8_dares 55 = .ok (.iaload, 1) := by decide +kernel
theorem dX8_dares_56 : decode cX8_dares 56 = .ok (.aload_n 0, 1) := by decide +kernel
theorem dX8_dares_57 : decode cX8_dares 57 = .ok (.getfield 18, 3) := by decide +kernel
theorem dX8_dares_60 : decode cX8_dares 60 = .ok (.iconst 5, 1) := by decide +kernel
theorem dX8_dares_61 : decode cX8_dares 61 = .ok (.iaload, 1) := by decide +kernel
theorem dX8_dares_62 : decode cX8_dares 62 = .ok (.aload_n 0, 1) := by decide +kernel
theorem dX8_dares_63 : decode cX8_dares 63 = .ok (.getfield 18, 3) := by decide +kernel
theorem dX8_dares_66 : decode cX8_dares 66 = .ok (.bipush 6, 2) := by decide +kernel
theorem dX8_dares_68 : decode cX8_dares 68 = .ok (.iaload, 1) := by decide +kernel
theorem dX8_dares_69 : decode cX8_dares 69 = .ok (.iconst 0, 1) := by decide +kernel
theorem dX8_dares_70 : decode cX8_dares 70 = .ok (.invokevirtual 218, 3) := by decide +kernel
theorem dX8_dares_73 : decode cX8_dares 73 = .ok (.aload_n 0, 1) := by decide +kernel
theorem dX8_dares_74 : decode cX8_dares 74 = .ok (.getfield 44, 3) := by decide +kernel
theorem dX8_dares_77 : decode cX8_dares 77 = .ok (.aload_n 0, 1) := by decide +kernel
theorem dX8_dares_78 : decode cX8_dares 78 = .ok (.getfield 75, 3) := by decide +kernel
theorem dX8_dares_81 : decode cX8_dares 81 = .ok (.invokevirtual 222, 3) := by decide +kernel
theorem dX8_dares_84 : decode cX8_dares 84 = .ok (.ifCond .eq 7, 3) := by decide +kernel
theorem dX8_dares_87 : decode cX8_dares 87 = .ok (.iconst 1, 1) := by decide +kernel
theorem dX8_dares_88 : decode cX8_dares 88 = .ok (.goto 4, 3) := by decide +kernel
theorem dX8_dares_91 : decode cX8_dares 91 = .ok (.iconst 0, 1) := by decide +kernel
theorem dX8_dares_92 : decode cX8_dares 92 = .ok (.ireturn, 1) := by decide +kernel
theorem dX8_name_0 : decode cX8_name 0 = .ok (.aload_n 0, 1) := by decide +kernel
theorem dX8_name_1 : decode cX8_name 1 = .ok (.getfield 75, 3) := by decide +kernel
theorem dX8_name_4 : decode cX8_name 4 = .ok (.iconst 0, 1) := by decide +kernel
theorem dX8_name_5 : decode cX8_name 5 = .ok (.iload_n 1, 1) := by decide +kernel
theorem dX8_name_6 : decode cX8_name 6 = .ok (.invokestatic 208, 3) := by decide +kernel
theorem dX8_name_9 : decode cX8_name 9 = .ok (.pop, 1) := by decide +kernel
theorem dX8_name_10 : decode cX8_name 10 = .ok (.aload_n 0, 1) := by decide +kernel
theorem dX8_name_11 : decode cX8_name 11 = .ok (.getfield 75, 3) := by decide +kernel
theorem dX8_name_14 : decode cX8_name 14 = .ok (.iconst 1, 1) := by decide +kernel
theorem dX8_name_15 : decode cX8_name 15 = .ok (.iload_n 2, 1) := by decide +kernel
theorem dX8_name_16 : decode cX8_name 16 = .ok (.invokestatic 208, 3) := by decide +kernel
theorem dX8_name_19 : decode cX8_name 19 = .ok (.pop, 1) := by decide +kernel
theorem dX8_name_20 : decode cX8_name 20 = .ok (.aload_n 0, 1) := by decide +kernel
theorem dX8_name_21 : decode cX8_name 21 = .ok (.getfield 75, 3) := by decide +kernel
theorem dX8_name_24 : decode cX8_name 24 = .ok (.iconst 2, 1) := by decide +kernel
theorem dX8_name_25 : decode cX8_name 25 = .ok (.iload_n 3, 1) := by decide +kernel
theorem dX8_name_26 : decode cX8_name 26 = .ok (.invokestatic 208, 3) := by decide +kernel
theorem dX8_name_29 : decode cX8_name 29 = .ok (.pop, 1) := by decide +kernel
theorem dX8_name_30 : decode cX8_name 30 = .ok (.aload_n 0, 1) := by decide +kernel
theorem dX8_name_31 : decode cX8_name 31 = .ok (.getfield 75, 3) := by decide +kernel
theorem dX8_name_34 : decode cX8_name 34 = .ok (.iconst 3, 1) := by decide +kernel
theorem dX8_name_35 : decode cX8_name 35 = .ok (.iload 4, 2) := by decide +kernel
theorem dX8_name_37 : decode cX8_name 37 = .ok (.invokestatic 208, 3) := by decide +kernel
theorem dX8_name_40 : decode cX8_name 40 = .ok (.pop, 1) := by decide +kernel
theorem dX8_name_41 : decode cX8_name 41 = .ok (.aload_n 0, 1) := by decide +kernel
theorem dX8_name_42 : decode cX8_name 42 = .ok (.getfield 75, 3) := by decide +kernel
theorem dX8_name_45 : decode cX8_name 45 = .ok (.iconst 4, 1) := by decide +kernel
theorem dX8_name_46 : decode cX8_name 46 = .ok (.iload 5, 2) := by decide +kernel
theorem dX8_name_48 : decode cX8_name 48 = .ok (.invokestatic 208, 3) := by decide +kernel
theorem dX8_name_51 : decode cX8_name 51 = .ok (.pop, 1) := by decide +kernel
theorem dX8_name_52 : decode cX8_name 52 = .ok (.return_, 1) := by decide +kernel
