theorem d_Pe_init_0 : decode c_Pe_init 0 = .ok (.aload_n 0, 1) := by decide +kernel
theorem d_Pe_init_1 : decode c_Pe_init 1 = .ok (.invokespecial 3, 3) := by decide +kernel
theorem d_Pe_init_4 : decode c_Pe_init 4 = .ok (.aload_n 0, 1) := by decide +kernel
theorem d_Pe_init_5 : decode c_Pe_init 5 = .ok (.bipush 60, 2) := by decide +kernel
theorem d_Pe_init_7 : decode c_Pe_init 7 = .ok (.newarray .int, 2) := by decide +kernel
theorem d_Pe_init_9 : decode c_Pe_init 9 = .ok (.putfield 9, 3) := by decide +kernel
theorem d_Pe_init_12 : decode c_Pe_init 12 = .ok (.aload_n 0, 1) := by decide +kernel
theorem d_Pe_init_13 : decode c_Pe_init 13 = .ok (.bipush 60, 2) := by decide +kernel
theorem d_Pe_init_15 : decode c_Pe_init 15 = .ok (.newarray .int, 2) := by decide +kernel
theorem d_Pe_init_17 : decode c_Pe_init 17 = .ok (.putfield 15, 3) := by decide +kernel
theorem d_Pe_init_20 : decode c_Pe_init 20 = .ok (.aload_n 0, 1) := by decide +kernel
theorem d_Pe_init_21 : decode c_Pe_init 21 = .ok (.bipush 60, 2) := by decide +kernel
theorem d_Pe_init_23 : decode c_Pe_init 23 = .ok (.newarray .int, 2) := by decide +kernel
theorem d_Pe_init_25 : decode c_Pe_init 25 = .ok (.putfield 18, 3) := by decide +kernel
theorem d_Pe_init_28 : decode c_Pe_init 28 = .ok (.aload_n 0, 1) := by decide +kernel
theorem d_Pe_init_29 : decode c_Pe_init 29 = .ok (.bipush 60, 2) := by decide +kernel
theorem d_Pe_init_31 : decode c_Pe_init 31 = .ok (.newarray .int, 2) := by decide +kernel
theorem d_Pe_init_33 : decode c_Pe_init 33 = .ok (.putfield 21, 3) := by decide +kernel
theorem d_Pe_init_36 : decode c_Pe_init 36 = .ok (.aload_n 0, 1) := by decide +kernel
theorem d_Pe_init_37 : decode c_Pe_init 37 = .ok (.bipush 60, 2) := by decide +kernel
theorem d_Pe_init_39 : decode c_Pe_init 39 = .ok (.newarray .int, 2) := by decide +kernel
theorem d_Pe_init_41 : decode c_Pe_init 41 = .ok (.putfield 24, 3) := by decide +kernel
theorem d_Pe_init_44 : decode c_Pe_init 44 = .ok (.aload_n 0, 1) := by decide +kernel
theorem d_Pe_init_45 : decode c_Pe_init 45 = .ok (.bipush 60, 2) := by decide +kernel
theorem d_Pe_init_47 : decode c_Pe_init 47 = .ok (.newarray .int, 2) := by decide +kernel
theorem d_Pe_init_49 : decode c_Pe_init 49 = .ok (.putfield 27, 3) := by decide +kernel
theorem d_Pe_init_52 : decode c_Pe_init 52 = .ok (.aload_n 0, 1) := by decide +kernel
theorem d_Pe_init_53 : decode c_Pe_init 53 = .ok (.bipush 60, 2) := by decide +kernel
theorem d_Pe_init_55 : decode c_Pe_init 55 = .ok (.newarray .int, 2) := by decide +kernel
theorem d_Pe_init_57 : decode c_Pe_init 57 = .ok (.putfield 30, 3) := by decide +kernel
theorem d_Pe_init_60 : decode c_Pe_init 60 = .ok (.aload_n 0, 1) := by decide +kernel
theorem d_Pe_init_61 : decode c_Pe_init 61 = .ok (.lload_n 1, 1) := by decide +kernel
theorem d_Pe_init_62 : decode c_Pe_init 62 = .ok (.putfield 33, 3) := by decide +kernel
theorem d_Pe_init_65 : decode c_Pe_init 65 = .ok (.return_, 1) := by decide +kernel
theorem d_Pe_add_0 : decode c_Pe_add 0 = .ok (.aload_n 0, 1) := by decide +kernel
theorem d_Pe_add_1 : decode c_Pe_add 1 = .ok (.getfield 37, 3) := by decide +kernel
theorem d_Pe_add_4 : decode c_Pe_add 4 = .ok (.istore_n 3, 1) := by decide +kernel
theorem d_Pe_add_5 : decode c_Pe_add 5 = .ok (.iload_n 3, 1) := by decide +kernel
theorem d_Pe_add_6 : decode c_Pe_add 6 = .ok (.ifCond .le 35, 3) := by decide +kernel
theorem d_Pe_add_9 : decode c_Pe_add 9 = .ok (.aload_n 0, 1) := by decide +kernel
theorem d_Pe_add_10 : decode c_Pe_add 10 = .ok (.getfield 9, 3) := by decide +kernel
theorem d_Pe_add_13 : decode c_Pe_add 13 = .ok (.iload_n 3, 1) := by decide +kernel
theorem d_Pe_add_14 : decode c_Pe_add 14 = .ok (.iconst 1, 1) := by decide +kernel
theorem d_Pe_add_15 : decode c_Pe_add 15 = .ok (.isub, 1) := by decide +kernel
theorem d_Pe_add_16 : decode c_Pe_add 16 = .ok (.iaload, 1) := by decide +kernel
theorem d_Pe_add_17 : decode c_Pe_add 17 = .ok (.iload_n 1, 1) := by decide +kernel
theorem d_Pe_add_18 : decode c_Pe_add 18 = .ok (.if_icmp .le 23, 3) := by decide +kernel
theorem d_Pe_add_21 : decode c_Pe_add 21 = .ok (.iinc 3 (-1), 3) := by decide +kernel
theorem d_Pe_add_24 : decode c_Pe_add 24 = .ok (.aload_n 0, 1) := by decide +kernel
theorem d_Pe_add_25 : decode c_Pe_add 25 = .ok (.getfield 9, 3) := by decide +kernel
theorem d_Pe_add_28 : decode c_Pe_add 28 = .ok (.iload_n 3, 1) := by decide +kernel
theorem d_Pe_add_29 : decode c_Pe_add 29 = .ok (.iload_n 2, 1) := by decide +kernel
theorem d_Pe_add_30 : decode c_Pe_add 30 = .ok (.iadd, 1) := by decide +kernel
theorem d_Pe_add_31 : decode c_Pe_add 31 = .ok (.aload_n 0, 1) := by decide +kernel
theorem d_Pe_add_32 : decode c_Pe_add 32 = .ok (.getfield 9, 3) := by decide +kernel
theorem d_Pe_add_35 : decode c_Pe_add 35 = .ok (.iload_n 3, 1) := by decide +kernel
theorem d_Pe_add_36 : decode c_Pe_add 36 = .ok (.iaload, 1) := by decide +kernel
theorem d_Pe_add_37 : decode c_Pe_add 37 = .ok (.iastore, 1) := by decide +kernel
theorem d_Pe_add_38 : decode c_Pe_add 38 = .ok (.goto (-33), 3) := by decide +kernel
theorem d_Pe_add_41 : decode c_Pe_add 41 = .ok (.iconst 0, 1) := by decide +kernel
theorem d_Pe_add_42 : decode c_Pe_add 42 = .ok (.istore 4, 2) := by decide +kernel
theorem d_Pe_add_44 : decode c_Pe_add 44 = .ok (.iload 4, 2) := by decide +kernel
theorem d_Pe_add_46 : decode c_Pe_add 46 = .ok (.iload_n 2, 1) := by decide +kernel
theorem d_Pe_add_47 : decode c_Pe_add 47 = .ok (.if_icmp .ge 19, 3) := by decide +kernel
theorem d_Pe_add_50 : decode c_Pe_add 50 = .ok (.aload_n 0, 1) := by decide +kernel
theorem d_Pe_add_51 : decode c_Pe_add 51 = .ok (.getfield 9, 3) := by decide +kernel
theorem d_Pe_add_54 : decode c_Pe_add 54 = .ok (.iload_n 3, 1) := by decide +kernel
theorem d_Pe_add_55 : decode c_Pe_add 55 = .ok (.iload 4, 2) := by decide +kernel
theorem d_Pe_add_57 : decode c_Pe_add 57 = .ok (.iadd, 1) := by decide +kernel
theorem d_Pe_add_58 : decode c_Pe_add 58 = .ok (.iload_n 1, 1) := by decide +kernel
theorem d_Pe_add_59 : decode c_Pe_add 59 = .ok (.iastore, 1) := by decide +kernel
theorem d_Pe_add_60 : decode c_Pe_add 60 = .ok (.iinc 4 1, 3) := by decide +kernel
theorem d_Pe_add_63 : decode c_Pe_add 63 = .ok (.goto (-19), 3) := by decide +kernel
theorem d_Pe_add_66 : decode c_Pe_add 66 = .ok (.aload_n 0, 1) := by decide +kernel
theorem d_Pe_add_67 : decode c_Pe_add 67 = .ok (.dup, 1) := by decide +kernel
theorem d_Pe_add_68 : decode c_Pe_add 68 = .ok (.getfield 37, 3) := by decide +kernel
theorem d_Pe_add_71 : decode c_Pe_add 71 = .ok (.iload_n 2, 1) := by decide +kernel
theorem d_Pe_add_72 : decode c_Pe_add 72 = .ok (.iadd, 1) := by decide +kernel
theorem d_Pe_add_73 : decode c_Pe_add 73 = .ok (.putfield 37, 3) := by decide +kernel
theorem d_Pe_add_76 : decode c_Pe_add 76 = .ok (.return_, 1) := by decide +kernel
theorem d_Pe_plan_0 : decode c_Pe_plan 0 = .ok (.iconst 0, 1) := by decide +kernel
theorem d_Pe_plan_1 : decode c_Pe_plan 1 = .ok (.istore_n 2, 1) := by decide +kernel
theorem d_Pe_plan_2 : decode c_Pe_plan 2 = .ok (.iload_n 2, 1) := by decide +kernel
theorem d_Pe_plan_3 : decode c_Pe_plan 3 = .ok (.aload_n 0, 1) := by decide +kernel
theorem d_Pe_plan_4 : decode c_Pe_plan 4 = .ok (.getfield 37, 3) := by decide +kernel
theorem d_Pe_plan_7 : decode c_Pe_plan 7 = .ok (.if_icmp .ge 109, 3) := by decide +kernel
theorem d_Pe_plan_10 : decode c_Pe_plan 10 = .ok (.aload_n 0, 1) := by decide +kernel
theorem d_Pe_plan_11 : decode c_Pe_plan 11 = .ok (.getfield 15, 3) := by decide +kernel
theorem d_Pe_plan_14 : decode c_Pe_plan 14 = .ok (.iload_n 2, 1) := by decide +kernel
theorem d_Pe_plan_15 : decode c_Pe_plan 15 = .ok (.aload_n 0, 1) := by decide +kernel
theorem d_Pe_plan_16 : decode c_Pe_plan 16 = .ok (.iload_n 2, 1) := by decide +kernel
theorem d_Pe_plan_17 : decode c_Pe_plan 17 = .ok (.iconst 0, 1) := by decide +kernel
theorem d_Pe_plan_18 : decode c_Pe_plan 18 = .ok (.iload_n 1, 1) := by decide +kernel
theorem d_Pe_plan_19 : decode c_Pe_plan 19 = .ok (.invokevirtual 41, 3) := by decide +kernel
theorem d_Pe_plan_22 : decode c_Pe_plan 22 = .ok (.iastore, 1) := by decide +kernel
theorem d_Pe_plan_23 : decode c_Pe_plan 23 = .ok (.aload_n 0, 1) := by decide +kernel
theorem d_Pe_plan_24 : decode c_Pe_plan 24 = .ok (.getfield 18, 3) := by decide +kernel
theorem d_Pe_plan_27 : decode c_Pe_plan 27 = .ok (.iload_n 2, 1) := by decide +kernel
theorem d_Pe_plan_28 : decode c_Pe_plan 28 = .ok (.aload_n 0, 1) := by decide +kernel
theorem d_Pe_plan_29 : decode c_Pe_plan 29 = .ok (.getfield 9, 3) := by decide +kernel
theorem d_Pe_plan_32 : decode c_Pe_plan 32 = .ok (.iload_n 2, 1) := by decide +kernel
theorem d_Pe_plan_33 : decode c_Pe_plan 33 = .ok (.iaload, 1) := by decide +kernel
theorem d_Pe_plan_34 : decode c_Pe_plan 34 = .ok (.bipush 30, 2) := by decide +kernel
theorem d_Pe_plan_36 : decode c_Pe_plan 36 = .ok (.iadd, 1) := by decide +kernel
theorem d_Pe_plan_37 : decode c_Pe_plan 37 = .ok (.aload_n 0, 1) := by decide +kernel
theorem d_Pe_plan_38 : decode c_Pe_plan 38 = .ok (.iload_n 2, 1) := by decide +kernel
theorem d_Pe_plan_39 : decode c_Pe_plan 39 = .ok (.iconst 1, 1) := by decide +kernel
theorem d_Pe_plan_40 : decode c_Pe_plan 40 = .ok (.bipush 90, 2) := by decide +kernel
theorem d_Pe_plan_42 : decode c_Pe_plan 42 = .ok (.invokevirtual 41, 3) := by decide +kernel
theorem d_Pe_plan_45 : decode c_Pe_plan 45 = .ok (.iadd, 1) := by decide +kernel
theorem d_Pe_plan_46 : decode c_Pe_plan 46 = .ok (.iastore, 1) := by decide +kernel
theorem d_Pe_plan_47 : decode c_Pe_plan 47 = .ok (.aload_n 0, 1) := by decide +kernel
theorem d_Pe_plan_48 : decode c_Pe_plan 48 = .ok (.getfield 21, 3) := by decide +kernel
theorem d_Pe_plan_51 : decode c_Pe_plan 51 = .ok (.iload_n 2, 1) := by decide +kernel
theorem d_Pe_plan_52 : decode c_Pe_plan 52 = .ok (.aload_n 0, 1) := by decide +kernel
theorem d_Pe_plan_53 : decode c_Pe_plan 53 = .ok (.getfield 18, 3) := by decide +kernel
theorem d_Pe_plan_56 : decode c_Pe_plan 56 = .ok (.iload_n 2, 1) := by decide +kernel
theorem d_Pe_plan_57 : decode c_Pe_plan 57 = .ok (.iaload, 1) := by decide +kernel
theorem d_Pe_plan_58 : decode c_Pe_plan 58 = .ok (.bipush 20, 2) := by decide +kernel
theorem d_Pe_plan_60 : decode c_Pe_plan 60 = .ok (.iadd, 1) := by decide +kernel
theorem d_Pe_plan_61 : decode c_Pe_plan 61 = .ok (.aload_n 0, 1) := by decide +kernel
theorem d_Pe_plan_62 : decode c_Pe_plan 62 = .ok (.iload_n 2, 1) := by decide +kernel
theorem d_Pe_plan_63 : decode c_Pe_plan 63 = .ok (.iconst 2, 1) := by decide +kernel
theorem d_Pe_plan_64 : decode c_Pe_plan 64 = .ok (.bipush 20, 2) := by decide +kernel
theorem d_Pe_plan_66 : decode c_Pe_plan 66 = .ok (.invokevirtual 41, 3) := by decide +kernel
theorem d_Pe_plan_69 : decode c_Pe_plan 69 = .ok (.iadd, 1) := by decide +kernel
theorem d_Pe_plan_70 : decode c_Pe_plan 70 = .ok (.iastore, 1) := by decide +kernel
theorem d_Pe_plan_71 : decode c_Pe_plan 71 = .ok (.aload_n 0, 1) := by decide +kernel
theorem d_Pe_plan_72 : decode c_Pe_plan 72 = .ok (.getfield 24, 3) := by decide +kernel
theorem d_Pe_plan_75 : decode c_Pe_plan 75 = .ok (.iload_n 2, 1) := by decide +kernel
theorem d_Pe_plan_76 : decode c_Pe_plan 76 = .ok (.aload_n 0, 1) := by decide +kernel
theorem d_Pe_plan_77 : decode c_Pe_plan 77 = .ok (.iload_n 2, 1) := by decide +kernel
theorem d_Pe_plan_78 : decode c_Pe_plan 78 = .ok (.iconst 3, 1) := by decide +kernel
theorem d_Pe_plan_79 : decode c_Pe_plan 79 = .ok (.iload_n 1, 1) := by decide +kernel
theorem d_Pe_plan_80 : decode c_Pe_plan 80 = .ok (.invokevirtual 41, 3) := by decide +kernel
theorem d_Pe_plan_83 : decode c_Pe_plan 83 = .ok (.iastore, 1) := by decide +kernel
theorem d_Pe_plan_84 : decode c_Pe_plan 84 = .ok (.aload_n 0, 1) := by decide +kernel
theorem d_Pe_plan_85 : decode c_Pe_plan 85 = .ok (.getfield 27, 3) := by decide +kernel
theorem d_Pe_plan_88 : decode c_Pe_plan 88 = .ok (.iload_n 2, 1) := by decide +kernel
theorem d_Pe_plan_89 : decode c_Pe_plan 89 = .ok (.aload_n 0, 1) := by decide +kernel
theorem d_Pe_plan_90 : decode c_Pe_plan 90 = .ok (.getfield 9, 3) := by decide +kernel
theorem d_Pe_plan_93 : decode c_Pe_plan 93 = .ok (.iload_n 2, 1) := by decide +kernel
theorem d_Pe_plan_94 : decode c_Pe_plan 94 = .ok (.iaload, 1) := by decide +kernel
theorem d_Pe_plan_95 : decode c_Pe_plan 95 = .ok (.sipush 200, 3) := by decide +kernel
theorem d_Pe_plan_98 : decode c_Pe_plan 98 = .ok (.iadd, 1) := by decide +kernel
theorem d_Pe_plan_99 : decode c_Pe_plan 99 = .ok (.aload_n 0, 1) := by decide +kernel
theorem d_Pe_plan_100 : decode c_Pe_plan 100 = .ok (.iload_n 2, 1) := by decide +kernel
theorem d_Pe_plan_101 : decode c_Pe_plan 101 = .ok (.iconst 4, 1) := by decide +kernel
theorem d_Pe_plan_102 : decode c_Pe_plan 102 = .ok (.sipush 200, 3) := by decide +kernel
theorem d_Pe_plan_105 : decode c_Pe_plan 105 = .ok (.invokevirtual 41, 3) := by decide +kernel
theorem d_Pe_plan_108 : decode c_Pe_plan 108 = .ok (.iadd, 1) := by decide +kernel
theorem d_Pe_plan_109 : decode c_Pe_plan 109 = .ok (.iastore, 1) := by decide +kernel
theorem d_Pe_plan_110 : decode c_Pe_plan 110 = .ok (.iinc 2 1, 3) := by decide +kernel
theorem d_Pe_plan_113 : decode c_Pe_plan 113 = .ok (.goto (-111), 3) := by decide +kernel
theorem d_Pe_plan_116 : decode c_Pe_plan 116 = .ok (.return_, 1) := by decide +kernel
theorem d_Pe_drawn_0 : decode c_Pe_drawn 0 = .ok (.iload_n 3, 1) := by decide +kernel
theorem d_Pe_drawn_1 : decode c_Pe_drawn 1 = .ok (.iconst 1, 1) := by decide +kernel
theorem d_Pe_drawn_2 : decode c_Pe_drawn 2 = .ok (.if_icmp .ge 5, 3) := by decide +kernel
theorem d_Pe_drawn_5 : decode c_Pe_drawn 5 = .ok (.iconst 0, 1) := by decide +kernel
theorem d_Pe_drawn_6 : decode c_Pe_drawn 6 = .ok (.ireturn, 1) := by decide +kernel
theorem d_Pe_drawn_7 : decode c_Pe_drawn 7 = .ok (.aload_n 0, 1) := by decide +kernel
theorem d_Pe_drawn_8 : decode c_Pe_drawn 8 = .ok (.getfield 33, 3) := by decide +kernel
theorem d_Pe_drawn_11 : decode c_Pe_drawn 11 = .ok (.ldc2_w 45, 3) := by decide +kernel
theorem d_Pe_drawn_14 : decode c_Pe_drawn 14 = .ok (.bipush 8, 2) := by decide +kernel
theorem d_Pe_drawn_16 : decode c_Pe_drawn 16 = .ok (.iload_n 1, 1) := by decide +kernel
theorem d_Pe_drawn_17 : decode c_Pe_drawn 17 = .ok (.imul, 1) := by decide +kernel
theorem d_Pe_drawn_18 : decode c_Pe_drawn 18 = .ok (.iload_n 2, 1) := by decide +kernel
theorem d_Pe_drawn_19 : decode c_Pe_drawn 19 = .ok (.iadd, 1) := by decide +kernel
theorem d_Pe_drawn_20 : decode c_Pe_drawn 20 = .ok (.iconst 1, 1) := by decide +kernel
theorem d_Pe_drawn_21 : decode c_Pe_drawn 21 = .ok (.iadd, 1) := by decide +kernel
theorem d_Pe_drawn_22 : decode c_Pe_drawn 22 = .ok (.i2l, 1) := by decide +kernel
theorem d_Pe_drawn_23 : decode c_Pe_drawn 23 = .ok (.lmul, 1) := by decide +kernel
theorem d_Pe_drawn_24 : decode c_Pe_drawn 24 = .ok (.ladd, 1) := by decide +kernel
theorem d_Pe_drawn_25 : decode c_Pe_drawn 25 = .ok (.lstore 4, 2) := by decide +kernel
theorem d_Pe_drawn_27 : decode c_Pe_drawn 27 = .ok (.lload 4, 2) := by decide +kernel
theorem d_Pe_drawn_29 : decode c_Pe_drawn 29 = .ok (.lload 4, 2) := by decide +kernel
theorem d_Pe_drawn_31 : decode c_Pe_drawn 31 = .ok (.bipush 30, 2) := by decide +kernel
theorem d_Pe_drawn_33 : decode c_Pe_drawn 33 = .ok (.lushr, 1) := by decide +kernel
theorem d_Pe_drawn_34 : decode c_Pe_drawn 34 = .ok (.lxor, 1) := by decide +kernel
theorem d_Pe_drawn_35 : decode c_Pe_drawn 35 = .ok (.ldc2_w 47, 3) := by decide +kernel
theorem d_Pe_drawn_38 : decode c_Pe_drawn 38 = .ok (.lmul, 1) := by decide +kernel
theorem d_Pe_drawn_39 : decode c_Pe_drawn 39 = .ok (.lstore 4, 2) := by decide +kernel
theorem d_Pe_drawn_41 : decode c_Pe_drawn 41 = .ok (.lload 4, 2) := by decide +kernel
theorem d_Pe_drawn_43 : decode c_Pe_drawn 43 = .ok (.lload 4, 2) := by decide +kernel
theorem d_Pe_drawn_45 : decode c_Pe_drawn 45 = .ok (.bipush 27, 2) := by decide +kernel
theorem d_Pe_drawn_47 : decode c_Pe_drawn 47 = .ok (.lushr, 1) := by decide +kernel
theorem d_Pe_drawn_48 : decode c_Pe_drawn 48 = .ok (.lxor, 1) := by decide +kernel
theorem d_Pe_drawn_49 : decode c_Pe_drawn 49 = .ok (.ldc2_w 49, 3) := by decide +kernel
theorem d_Pe_drawn_52 : decode c_Pe_drawn 52 = .ok (.lmul, 1) := by decide +kernel
theorem d_Pe_drawn_53 : decode c_Pe_drawn 53 = .ok (.lstore 4, 2) := by decide +kernel
theorem d_Pe_drawn_55 : decode c_Pe_drawn 55 = .ok (.lload 4, 2) := by decide +kernel
theorem d_Pe_drawn_57 : decode c_Pe_drawn 57 = .ok (.lload 4, 2) := by decide +kernel
theorem d_Pe_drawn_59 : decode c_Pe_drawn 59 = .ok (.bipush 31, 2) := by decide +kernel
theorem d_Pe_drawn_61 : decode c_Pe_drawn 61 = .ok (.lushr, 1) := by decide +kernel
theorem d_Pe_drawn_62 : decode c_Pe_drawn 62 = .ok (.lxor, 1) := by decide +kernel
theorem d_Pe_drawn_63 : decode c_Pe_drawn 63 = .ok (.lstore 4, 2) := by decide +kernel
theorem d_Pe_drawn_65 : decode c_Pe_drawn 65 = .ok (.lload 4, 2) := by decide +kernel
theorem d_Pe_drawn_67 : decode c_Pe_drawn 67 = .ok (.iconst 1, 1) := by decide +kernel
theorem d_Pe_drawn_68 : decode c_Pe_drawn 68 = .ok (.lushr, 1) := by decide +kernel
theorem d_Pe_drawn_69 : decode c_Pe_drawn 69 = .ok (.iload_n 3, 1) := by decide +kernel
theorem d_Pe_drawn_70 : decode c_Pe_drawn 70 = .ok (.i2l, 1) := by decide +kernel
theorem d_Pe_drawn_71 : decode c_Pe_drawn 71 = .ok (.lrem, 1) := by decide +kernel
theorem d_Pe_drawn_72 : decode c_Pe_drawn 72 = .ok (.l2i, 1) := by decide +kernel
theorem d_Pe_drawn_73 : decode c_Pe_drawn 73 = .ok (.ireturn, 1) := by decide +kernel
theorem d_Pe_wants_0 : decode c_Pe_wants 0 = .ok (.iload_n 2, 1) := by decide +kernel
theorem d_Pe_wants_1 : decode c_Pe_wants 1 = .ok (.aload_n 0, 1) := by decide +kernel
theorem d_Pe_wants_2 : decode c_Pe_wants 2 = .ok (.getfield 27, 3) := by decide +kernel
theorem d_Pe_wants_5 : decode c_Pe_wants 5 = .ok (.iload_n 1, 1) := by decide +kernel
theorem d_Pe_wants_6 : decode c_Pe_wants 6 = .ok (.iaload, 1) := by decide +kernel
theorem d_Pe_wants_7 : decode c_Pe_wants 7 = .ok (.if_icmp .lt 5, 3) := by decide +kernel
theorem d_Pe_wants_10 : decode c_Pe_wants 10 = .ok (.iconst (-1), 1) := by decide +kernel
theorem d_Pe_wants_11 : decode c_Pe_wants 11 = .ok (.ireturn, 1) := by decide +kernel
theorem d_Pe_wants_12 : decode c_Pe_wants 12 = .ok (.iload_n 2, 1) := by decide +kernel
theorem d_Pe_wants_13 : decode c_Pe_wants 13 = .ok (.aload_n 0, 1) := by decide +kernel
theorem d_Pe_wants_14 : decode c_Pe_wants 14 = .ok (.getfield 18, 3) := by decide +kernel
theorem d_Pe_wants_17 : decode c_Pe_wants 17 = .ok (.iload_n 1, 1) := by decide +kernel
theorem d_Pe_wants_18 : decode c_Pe_wants 18 = .ok (.iaload, 1) := by decide +kernel
theorem d_Pe_wants_19 : decode c_Pe_wants 19 = .ok (.if_icmp .lt 22, 3) := by decide +kernel
theorem d_Pe_wants_22 : decode c_Pe_wants 22 = .ok (.iload_n 2, 1) := by decide +kernel
theorem d_Pe_wants_23 : decode c_Pe_wants 23 = .ok (.aload_n 0, 1) := by decide +kernel
theorem d_Pe_wants_24 : decode c_Pe_wants 24 = .ok (.getfield 21, 3) := by decide +kernel
theorem d_Pe_wants_27 : decode c_Pe_wants 27 = .ok (.iload_n 1, 1) := by decide +kernel
theorem d_Pe_wants_28 : decode c_Pe_wants 28 = .ok (.iaload, 1) := by decide +kernel
theorem d_Pe_wants_29 : decode c_Pe_wants 29 = .ok (.if_icmp .ge 12, 3) := by decide +kernel
theorem d_Pe_wants_32 : decode c_Pe_wants 32 = .ok (.aload_n 0, 1) := by decide +kernel
theorem d_Pe_wants_33 : decode c_Pe_wants 33 = .ok (.getfield 24, 3) := by decide +kernel
theorem d_Pe_wants_36 : decode c_Pe_wants 36 = .ok (.iload_n 1, 1) := by decide +kernel
theorem d_Pe_wants_37 : decode c_Pe_wants 37 = .ok (.iaload, 1) := by decide +kernel
theorem d_Pe_wants_38 : decode c_Pe_wants 38 = .ok (.goto 9, 3) := by decide +kernel
theorem d_Pe_wants_41 : decode c_Pe_wants 41 = .ok (.aload_n 0, 1) := by decide +kernel
theorem d_Pe_wants_42 : decode c_Pe_wants 42 = .ok (.getfield 15, 3) := by decide +kernel
theorem d_Pe_wants_45 : decode c_Pe_wants 45 = .ok (.iload_n 1, 1) := by decide +kernel
theorem d_Pe_wants_46 : decode c_Pe_wants 46 = .ok (.iaload, 1) := by decide +kernel
theorem d_Pe_wants_47 : decode c_Pe_wants 47 = .ok (.ireturn, 1) := by decide +kernel
