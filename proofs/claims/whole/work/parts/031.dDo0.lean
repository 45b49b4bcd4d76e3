theorem d_Do_init_0 : decode c_Do_init 0 = .ok (.aload_n 0, 1) := by decide +kernel
theorem d_Do_init_1 : decode c_Do_init 1 = .ok (.invokespecial 3, 3) := by decide +kernel
theorem d_Do_init_4 : decode c_Do_init 4 = .ok (.aload_n 0, 1) := by decide +kernel
theorem d_Do_init_5 : decode c_Do_init 5 = .ok (.bipush 16, 2) := by decide +kernel
theorem d_Do_init_7 : decode c_Do_init 7 = .ok (.newarray .int, 2) := by decide +kernel
theorem d_Do_init_9 : decode c_Do_init 9 = .ok (.putfield 9, 3) := by decide +kernel
theorem d_Do_init_12 : decode c_Do_init 12 = .ok (.aload_n 0, 1) := by decide +kernel
theorem d_Do_init_13 : decode c_Do_init 13 = .ok (.bipush 16, 2) := by decide +kernel
theorem d_Do_init_15 : decode c_Do_init 15 = .ok (.newarray .int, 2) := by decide +kernel
theorem d_Do_init_17 : decode c_Do_init 17 = .ok (.putfield 15, 3) := by decide +kernel
theorem d_Do_init_20 : decode c_Do_init 20 = .ok (.aload_n 0, 1) := by decide +kernel
theorem d_Do_init_21 : decode c_Do_init 21 = .ok (.bipush 16, 2) := by decide +kernel
theorem d_Do_init_23 : decode c_Do_init 23 = .ok (.newarray .int, 2) := by decide +kernel
theorem d_Do_init_25 : decode c_Do_init 25 = .ok (.putfield 18, 3) := by decide +kernel
theorem d_Do_init_28 : decode c_Do_init 28 = .ok (.aload_n 0, 1) := by decide +kernel
theorem d_Do_init_29 : decode c_Do_init 29 = .ok (.bipush 16, 2) := by decide +kernel
theorem d_Do_init_31 : decode c_Do_init 31 = .ok (.newarray .int, 2) := by decide +kernel
theorem d_Do_init_33 : decode c_Do_init 33 = .ok (.putfield 21, 3) := by decide +kernel
theorem d_Do_init_36 : decode c_Do_init 36 = .ok (.aload_n 0, 1) := by decide +kernel
theorem d_Do_init_37 : decode c_Do_init 37 = .ok (.bipush 16, 2) := by decide +kernel
theorem d_Do_init_39 : decode c_Do_init 39 = .ok (.newarray .int, 2) := by decide +kernel
theorem d_Do_init_41 : decode c_Do_init 41 = .ok (.putfield 24, 3) := by decide +kernel
theorem d_Do_init_44 : decode c_Do_init 44 = .ok (.aload_n 0, 1) := by decide +kernel
theorem d_Do_init_45 : decode c_Do_init 45 = .ok (.bipush 16, 2) := by decide +kernel
theorem d_Do_init_47 : decode c_Do_init 47 = .ok (.newarray .int, 2) := by decide +kernel
theorem d_Do_init_49 : decode c_Do_init 49 = .ok (.putfield 27, 3) := by decide +kernel
theorem d_Do_init_52 : decode c_Do_init 52 = .ok (.aload_n 0, 1) := by decide +kernel
theorem d_Do_init_53 : decode c_Do_init 53 = .ok (.sipush 144, 3) := by decide +kernel
theorem d_Do_init_56 : decode c_Do_init 56 = .ok (.newarray .int, 2) := by decide +kernel
theorem d_Do_init_58 : decode c_Do_init 58 = .ok (.putfield 30, 3) := by decide +kernel
theorem d_Do_init_61 : decode c_Do_init 61 = .ok (.aload_n 0, 1) := by decide +kernel
theorem d_Do_init_62 : decode c_Do_init 62 = .ok (.getfield 30, 3) := by decide +kernel
theorem d_Do_init_65 : decode c_Do_init 65 = .ok (.sipush 1000, 3) := by decide +kernel
theorem d_Do_init_68 : decode c_Do_init 68 = .ok (.invokestatic 33, 3) := by decide +kernel
theorem d_Do_init_71 : decode c_Do_init 71 = .ok (.iconst 0, 1) := by decide +kernel
theorem d_Do_init_72 : decode c_Do_init 72 = .ok (.istore_n 1, 1) := by decide +kernel
theorem d_Do_init_73 : decode c_Do_init 73 = .ok (.iload_n 1, 1) := by decide +kernel
theorem d_Do_init_74 : decode c_Do_init 74 = .ok (.bipush 12, 2) := by decide +kernel
theorem d_Do_init_76 : decode c_Do_init 76 = .ok (.if_icmp .ge 21, 3) := by decide +kernel
theorem d_Do_init_79 : decode c_Do_init 79 = .ok (.aload_n 0, 1) := by decide +kernel
theorem d_Do_init_80 : decode c_Do_init 80 = .ok (.getfield 30, 3) := by decide +kernel
theorem d_Do_init_83 : decode c_Do_init 83 = .ok (.iload_n 1, 1) := by decide +kernel
theorem d_Do_init_84 : decode c_Do_init 84 = .ok (.bipush 12, 2) := by decide +kernel
theorem d_Do_init_86 : decode c_Do_init 86 = .ok (.imul, 1) := by decide +kernel
theorem d_Do_init_87 : decode c_Do_init 87 = .ok (.iload_n 1, 1) := by decide +kernel
theorem d_Do_init_88 : decode c_Do_init 88 = .ok (.iadd, 1) := by decide +kernel
theorem d_Do_init_89 : decode c_Do_init 89 = .ok (.iconst 0, 1) := by decide +kernel
theorem d_Do_init_90 : decode c_Do_init 90 = .ok (.iastore, 1) := by decide +kernel
theorem d_Do_init_91 : decode c_Do_init 91 = .ok (.iinc 1 1, 3) := by decide +kernel
theorem d_Do_init_94 : decode c_Do_init 94 = .ok (.goto (-21), 3) := by decide +kernel
theorem d_Do_init_97 : decode c_Do_init 97 = .ok (.return_, 1) := by decide +kernel
theorem d_Do_add_0 : decode c_Do_add 0 = .ok (.aload_n 0, 1) := by decide +kernel
theorem d_Do_add_1 : decode c_Do_add 1 = .ok (.getfield 9, 3) := by decide +kernel
theorem d_Do_add_4 : decode c_Do_add 4 = .ok (.aload_n 0, 1) := by decide +kernel
theorem d_Do_add_5 : decode c_Do_add 5 = .ok (.getfield 39, 3) := by decide +kernel
theorem d_Do_add_8 : decode c_Do_add 8 = .ok (.iload_n 1, 1) := by decide +kernel
theorem d_Do_add_9 : decode c_Do_add 9 = .ok (.iastore, 1) := by decide +kernel
theorem d_Do_add_10 : decode c_Do_add 10 = .ok (.aload_n 0, 1) := by decide +kernel
theorem d_Do_add_11 : decode c_Do_add 11 = .ok (.getfield 15, 3) := by decide +kernel
theorem d_Do_add_14 : decode c_Do_add 14 = .ok (.aload_n 0, 1) := by decide +kernel
theorem d_Do_add_15 : decode c_Do_add 15 = .ok (.getfield 39, 3) := by decide +kernel
theorem d_Do_add_18 : decode c_Do_add 18 = .ok (.iload_n 2, 1) := by decide +kernel
theorem d_Do_add_19 : decode c_Do_add 19 = .ok (.iastore, 1) := by decide +kernel
theorem d_Do_add_20 : decode c_Do_add 20 = .ok (.aload_n 0, 1) := by decide +kernel
theorem d_Do_add_21 : decode c_Do_add 21 = .ok (.getfield 18, 3) := by decide +kernel
theorem d_Do_add_24 : decode c_Do_add 24 = .ok (.aload_n 0, 1) := by decide +kernel
theorem d_Do_add_25 : decode c_Do_add 25 = .ok (.getfield 39, 3) := by decide +kernel
theorem d_Do_add_28 : decode c_Do_add 28 = .ok (.iload_n 3, 1) := by decide +kernel
theorem d_Do_add_29 : decode c_Do_add 29 = .ok (.iastore, 1) := by decide +kernel
theorem d_Do_add_30 : decode c_Do_add 30 = .ok (.aload_n 0, 1) := by decide +kernel
theorem d_Do_add_31 : decode c_Do_add 31 = .ok (.dup, 1) := by decide +kernel
theorem d_Do_add_32 : decode c_Do_add 32 = .ok (.getfield 39, 3) := by decide +kernel
theorem d_Do_add_35 : decode c_Do_add 35 = .ok (.iconst 1, 1) := by decide +kernel
theorem d_Do_add_36 : decode c_Do_add 36 = .ok (.iadd, 1) := by decide +kernel
theorem d_Do_add_37 : decode c_Do_add 37 = .ok (.putfield 39, 3) := by decide +kernel
theorem d_Do_add_40 : decode c_Do_add 40 = .ok (.aload_n 0, 1) := by decide +kernel
theorem d_Do_add_41 : decode c_Do_add 41 = .ok (.iload_n 1, 1) := by decide +kernel
theorem d_Do_add_42 : decode c_Do_add 42 = .ok (.iload_n 2, 1) := by decide +kernel
theorem d_Do_add_43 : decode c_Do_add 43 = .ok (.invokevirtual 43, 3) := by decide +kernel
theorem d_Do_add_46 : decode c_Do_add 46 = .ok (.aload_n 0, 1) := by decide +kernel
theorem d_Do_add_47 : decode c_Do_add 47 = .ok (.getfield 39, 3) := by decide +kernel
theorem d_Do_add_50 : decode c_Do_add 50 = .ok (.iconst 1, 1) := by decide +kernel
theorem d_Do_add_51 : decode c_Do_add 51 = .ok (.isub, 1) := by decide +kernel
theorem d_Do_add_52 : decode c_Do_add 52 = .ok (.ireturn, 1) := by decide +kernel
theorem d_Do_shortenWays_0 : decode c_Do_shortenWays 0 = .ok (.iconst 0, 1) := by decide +kernel
theorem d_Do_shortenWays_1 : decode c_Do_shortenWays 1 = .ok (.istore_n 3, 1) := by decide +kernel
theorem d_Do_shortenWays_2 : decode c_Do_shortenWays 2 = .ok (.iload_n 3, 1) := by decide +kernel
theorem d_Do_shortenWays_3 : decode c_Do_shortenWays 3 = .ok (.bipush 12, 2) := by decide +kernel
theorem d_Do_shortenWays_5 : decode c_Do_shortenWays 5 = .ok (.if_icmp .ge 94, 3) := by decide +kernel
theorem d_Do_shortenWays_8 : decode c_Do_shortenWays 8 = .ok (.iconst 0, 1) := by decide +kernel
theorem d_Do_shortenWays_9 : decode c_Do_shortenWays 9 = .ok (.istore 4, 2) := by decide +kernel
theorem d_Do_shortenWays_11 : decode c_Do_shortenWays 11 = .ok (.iload 4, 2) := by decide +kernel
theorem d_Do_shortenWays_13 : decode c_Do_shortenWays 13 = .ok (.bipush 12, 2) := by decide +kernel
theorem d_Do_shortenWays_15 : decode c_Do_shortenWays 15 = .ok (.if_icmp .ge 78, 3) := by decide +kernel
theorem d_Do_shortenWays_18 : decode c_Do_shortenWays 18 = .ok (.aload_n 0, 1) := by decide +kernel
theorem d_Do_shortenWays_19 : decode c_Do_shortenWays 19 = .ok (.iload_n 3, 1) := by decide +kernel
theorem d_Do_shortenWays_20 : decode c_Do_shortenWays 20 = .ok (.iload_n 1, 1) := by decide +kernel
theorem d_Do_shortenWays_21 : decode c_Do_shortenWays 21 = .ok (.invokevirtual 47, 3) := by decide +kernel
theorem d_Do_shortenWays_24 : decode c_Do_shortenWays 24 = .ok (.iconst 1, 1) := by decide +kernel
theorem d_Do_shortenWays_25 : decode c_Do_shortenWays 25 = .ok (.iadd, 1) := by decide +kernel
theorem d_Do_shortenWays_26 : decode c_Do_shortenWays 26 = .ok (.aload_n 0, 1) := by decide +kernel
theorem d_Do_shortenWays_27 : decode c_Do_shortenWays 27 = .ok (.iload_n 2, 1) := by decide +kernel
theorem d_Do_shortenWays_28 : decode c_Do_shortenWays 28 = .ok (.iload 4, 2) := by decide +kernel
theorem d_Do_shortenWays_30 : decode c_Do_shortenWays 30 = .ok (.invokevirtual 47, 3) := by decide +kernel
theorem d_Do_shortenWays_33 : decode c_Do_shortenWays 33 = .ok (.iadd, 1) := by decide +kernel
theorem d_Do_shortenWays_34 : decode c_Do_shortenWays 34 = .ok (.istore 5, 2) := by decide +kernel
theorem d_Do_shortenWays_36 : decode c_Do_shortenWays 36 = .ok (.aload_n 0, 1) := by decide +kernel
theorem d_Do_shortenWays_37 : decode c_Do_shortenWays 37 = .ok (.iload_n 3, 1) := by decide +kernel
theorem d_Do_shortenWays_38 : decode c_Do_shortenWays 38 = .ok (.iload_n 2, 1) := by decide +kernel
theorem d_Do_shortenWays_39 : decode c_Do_shortenWays 39 = .ok (.invokevirtual 47, 3) := by decide +kernel
theorem d_Do_shortenWays_42 : decode c_Do_shortenWays 42 = .ok (.iconst 1, 1) := by decide +kernel
theorem d_Do_shortenWays_43 : decode c_Do_shortenWays 43 = .ok (.iadd, 1) := by decide +kernel
theorem d_Do_shortenWays_44 : decode c_Do_shortenWays 44 = .ok (.aload_n 0, 1) := by decide +kernel
theorem d_Do_shortenWays_45 : decode c_Do_shortenWays 45 = .ok (.iload_n 1, 1) := by decide +kernel
theorem d_Do_shortenWays_46 : decode c_Do_shortenWays 46 = .ok (.iload 4, 2) := by decide +kernel
theorem d_Do_shortenWays_48 : decode c_Do_shortenWays 48 = .ok (.invokevirtual 47, 3) := by decide +kernel
theorem d_Do_shortenWays_51 : decode c_Do_shortenWays 51 = .ok (.iadd, 1) := by decide +kernel
theorem d_Do_shortenWays_52 : decode c_Do_shortenWays 52 = .ok (.istore 6, 2) := by decide +kernel
theorem d_Do_shortenWays_54 : decode c_Do_shortenWays 54 = .ok (.iload 5, 2) := by decide +kernel
theorem d_Do_shortenWays_56 : decode c_Do_shortenWays 56 = .ok (.iload 6, 2) := by decide +kernel
theorem d_Do_shortenWays_58 : decode c_Do_shortenWays 58 = .ok (.invokestatic 51, 3) := by decide +kernel
theorem d_Do_shortenWays_61 : decode c_Do_shortenWays 61 = .ok (.istore 7, 2) := by decide +kernel
theorem d_Do_shortenWays_63 : decode c_Do_shortenWays 63 = .ok (.aload_n 0, 1) := by decide +kernel
theorem d_Do_shortenWays_64 : decode c_Do_shortenWays 64 = .ok (.getfield 30, 3) := by decide +kernel
theorem d_Do_shortenWays_67 : decode c_Do_shortenWays 67 = .ok (.iload_n 3, 1) := by decide +kernel
theorem d_Do_shortenWays_68 : decode c_Do_shortenWays 68 = .ok (.bipush 12, 2) := by decide +kernel
theorem d_Do_shortenWays_70 : decode c_Do_shortenWays 70 = .ok (.imul, 1) := by decide +kernel
theorem d_Do_shortenWays_71 : decode c_Do_shortenWays 71 = .ok (.iload 4, 2) := by decide +kernel
theorem d_Do_shortenWays_73 : decode c_Do_shortenWays 73 = .ok (.iadd, 1) := by decide +kernel
theorem d_Do_shortenWays_74 : decode c_Do_shortenWays 74 = .ok (.aload_n 0, 1) := by decide +kernel
theorem d_Do_shortenWays_75 : decode c_Do_shortenWays 75 = .ok (.iload_n 3, 1) := by decide +kernel
theorem d_Do_shortenWays_76 : decode c_Do_shortenWays 76 = .ok (.iload 4, 2) := by decide +kernel
theorem d_Do_shortenWays_78 : decode c_Do_shortenWays 78 = .ok (.invokevirtual 47, 3) := by decide +kernel
theorem d_Do_shortenWays_81 : decode c_Do_shortenWays 81 = .ok (.iload 7, 2) := by decide +kernel
theorem d_Do_shortenWays_83 : decode c_Do_shortenWays 83 = .ok (.invokestatic 51, 3) := by decide +kernel
theorem d_Do_shortenWays_86 : decode c_Do_shortenWays 86 = .ok (.iastore, 1) := by decide +kernel
theorem d_Do_shortenWays_87 : decode c_Do_shortenWays 87 = .ok (.iinc 4 1, 3) := by decide +kernel
theorem d_Do_shortenWays_90 : decode c_Do_shortenWays 90 = .ok (.goto (-79), 3) := by decide +kernel
theorem d_Do_shortenWays_93 : decode c_Do_shortenWays 93 = .ok (.iinc 3 1, 3) := by decide +kernel
theorem d_Do_shortenWays_96 : decode c_Do_shortenWays 96 = .ok (.goto (-94), 3) := by decide +kernel
theorem d_Do_shortenWays_99 : decode c_Do_shortenWays 99 = .ok (.return_, 1) := by decide +kernel
theorem d_Do_stepsBetween_0 : decode c_Do_stepsBetween 0 = .ok (.aload_n 0, 1) := by decide +kernel
theorem d_Do_stepsBetween_1 : decode c_Do_stepsBetween 1 = .ok (.getfield 30, 3) := by decide +kernel
theorem d_Do_stepsBetween_4 : decode c_Do_stepsBetween 4 = .ok (.iload_n 1, 1) := by decide +kernel
theorem d_Do_stepsBetween_5 : decode c_Do_stepsBetween 5 = .ok (.bipush 12, 2) := by decide +kernel
theorem d_Do_stepsBetween_7 : decode c_Do_stepsBetween 7 = .ok (.imul, 1) := by decide +kernel
theorem d_Do_stepsBetween_8 : decode c_Do_stepsBetween 8 = .ok (.iload_n 2, 1) := by decide +kernel
theorem d_Do_stepsBetween_9 : decode c_Do_stepsBetween 9 = .ok (.iadd, 1) := by decide +kernel
theorem d_Do_stepsBetween_10 : decode c_Do_stepsBetween 10 = .ok (.iaload, 1) := by decide +kernel
theorem d_Do_stepsBetween_11 : decode c_Do_stepsBetween 11 = .ok (.ireturn, 1) := by decide +kernel
theorem d_Do_behind_0 : decode c_Do_behind 0 = .ok (.aload_n 0, 1) := by decide +kernel
theorem d_Do_behind_1 : decode c_Do_behind 1 = .ok (.getfield 9, 3) := by decide +kernel
theorem d_Do_behind_4 : decode c_Do_behind 4 = .ok (.iload_n 1, 1) := by decide +kernel
theorem d_Do_behind_5 : decode c_Do_behind 5 = .ok (.iaload, 1) := by decide +kernel
theorem d_Do_behind_6 : decode c_Do_behind 6 = .ok (.iload_n 2, 1) := by decide +kernel
theorem d_Do_behind_7 : decode c_Do_behind 7 = .ok (.if_icmp .ne 10, 3) := by decide +kernel
theorem d_Do_behind_10 : decode c_Do_behind 10 = .ok (.aload_n 0, 1) := by decide +kernel
theorem d_Do_behind_11 : decode c_Do_behind 11 = .ok (.getfield 15, 3) := by decide +kernel
theorem d_Do_behind_14 : decode c_Do_behind 14 = .ok (.iload_n 1, 1) := by decide +kernel
theorem d_Do_behind_15 : decode c_Do_behind 15 = .ok (.iaload, 1) := by decide +kernel
theorem d_Do_behind_16 : decode c_Do_behind 16 = .ok (.ireturn, 1) := by decide +kernel
theorem d_Do_behind_17 : decode c_Do_behind 17 = .ok (.aload_n 0, 1) := by decide +kernel
theorem d_Do_behind_18 : decode c_Do_behind 18 = .ok (.getfield 15, 3) := by decide +kernel
theorem d_Do_behind_21 : decode c_Do_behind 21 = .ok (.iload_n 1, 1) := by decide +kernel
theorem d_Do_behind_22 : decode c_Do_behind 22 = .ok (.iaload, 1) := by decide +kernel
theorem d_Do_behind_23 : decode c_Do_behind 23 = .ok (.iload_n 2, 1) := by decide +kernel
theorem d_Do_behind_24 : decode c_Do_behind 24 = .ok (.if_icmp .ne 12, 3) := by decide +kernel
theorem d_Do_behind_27 : decode c_Do_behind 27 = .ok (.aload_n 0, 1) := by decide +kernel
theorem d_Do_behind_28 : decode c_Do_behind 28 = .ok (.getfield 9, 3) := by decide +kernel
theorem d_Do_behind_31 : decode c_Do_behind 31 = .ok (.iload_n 1, 1) := by decide +kernel
theorem d_Do_behind_32 : decode c_Do_behind 32 = .ok (.iaload, 1) := by decide +kernel
theorem d_Do_behind_33 : decode c_Do_behind 33 = .ok (.goto 4, 3) := by decide +kernel
theorem d_Do_behind_36 : decode c_Do_behind 36 = .ok (.iconst (-1), 1) := by decide +kernel
theorem d_Do_behind_37 : decode c_Do_behind 37 = .ok (.ireturn, 1) := by decide +kernel
theorem d_Do_towards_0 : decode c_Do_towards 0 = .ok (.aload_n 0, 1) := by decide +kernel
theorem d_Do_towards_1 : decode c_Do_towards 1 = .ok (.iload_n 1, 1) := by decide +kernel
theorem d_Do_towards_2 : decode c_Do_towards 2 = .ok (.iload_n 2, 1) := by decide +kernel
theorem d_Do_towards_3 : decode c_Do_towards 3 = .ok (.invokevirtual 47, 3) := by decide +kernel
theorem d_Do_towards_6 : decode c_Do_towards 6 = .ok (.istore_n 3, 1) := by decide +kernel
theorem d_Do_towards_7 : decode c_Do_towards 7 = .ok (.iconst 0, 1) := by decide +kernel
theorem d_Do_towards_8 : decode c_Do_towards 8 = .ok (.istore 4, 2) := by decide +kernel
theorem d_Do_towards_10 : decode c_Do_towards 10 = .ok (.iload 4, 2) := by decide +kernel
theorem d_Do_towards_12 : decode c_Do_towards 12 = .ok (.aload_n 0, 1) := by decide +kernel
theorem d_Do_towards_13 : decode c_Do_towards 13 = .ok (.getfield 39, 3) := by decide +kernel
theorem d_Do_towards_16 : decode c_Do_towards 16 = .ok (.if_icmp .ge 45, 3) := by decide +kernel
theorem d_Do_towards_19 : decode c_Do_towards 19 = .ok (.iload_n 3, 1) := by decide +kernel
theorem d_Do_towards_20 : decode c_Do_towards 20 = .ok (.sipush 1000, 3) := by decide +kernel
theorem d_Do_towards_23 : decode c_Do_towards 23 = .ok (.if_icmp .ge 38, 3) := by decide +kernel
theorem d_Do_towards_26 : decode c_Do_towards 26 = .ok (.aload_n 0, 1) := by decide +kernel
theorem d_Do_towards_27 : decode c_Do_towards 27 = .ok (.iload 4, 2) := by decide +kernel
theorem d_Do_towards_29 : decode c_Do_towards 29 = .ok (.iload_n 1, 1) := by decide +kernel
theorem d_Do_towards_30 : decode c_Do_towards 30 = .ok (.invokevirtual 56, 3) := by decide +kernel
theorem d_Do_towards_33 : decode c_Do_towards 33 = .ok (.istore 5, 2) := by decide +kernel
theorem d_Do_towards_35 : decode c_Do_towards 35 = .ok (.iload 5, 2) := by decide +kernel
theorem d_Do_towards_37 : decode c_Do_towards 37 = .ok (.iconst (-1), 1) := by decide +kernel
theorem d_Do_towards_38 : decode c_Do_towards 38 = .ok (.if_icmp .eq 17, 3) := by decide +kernel
theorem d_Do_towards_41 : decode c_Do_towards 41 = .ok (.aload_n 0, 1) := by decide +kernel
theorem d_Do_towards_42 : decode c_Do_towards 42 = .ok (.iload 5, 2) := by decide +kernel
theorem d_Do_towards_44 : decode c_Do_towards 44 = .ok (.iload_n 2, 1) := by decide +kernel
theorem d_Do_towards_45 : decode c_Do_towards 45 = .ok (.invokevirtual 47, 3) := by decide +kernel
theorem d_Do_towards_48 : decode c_Do_towards 48 = .ok (.iload_n 3, 1) := by decide +kernel
theorem d_Do_towards_49 : decode c_Do_towards 49 = .ok (.if_icmp .ge 6, 3) := by decide +kernel
theorem d_Do_towards_52 : decode c_Do_towards 52 = .ok (.iload 4, 2) := by decide +kernel
theorem d_Do_towards_54 : decode c_Do_towards 54 = .ok (.ireturn, 1) := by decide +kernel
theorem d_Do_towards_55 : decode c_Do_towards 55 = .ok (.iinc 4 1, 3) := by decide +kernel
theorem d_Do_towards_58 : decode c_Do_towards 58 = .ok (.goto (-48), 3) := by decide +kernel
theorem d_Do_towards_61 : decode c_Do_towards 61 = .ok (.iconst (-1), 1) := by decide +kernel
theorem d_Do_towards_62 : decode c_Do_towards 62 = .ok (.ireturn, 1) := by decide +kernel
theorem d_Do_beginMinute_0 : decode c_Do_beginMinute 0 = .ok (.aload_n 0, 1) := by decide +kernel
theorem d_Do_beginMinute_1 : decode c_Do_beginMinute 1 = .ok (.getfield 27, 3) := by decide +kernel
theorem d_Do_beginMinute_4 : decode c_Do_beginMinute 4 = .ok (.iconst 0, 1) := by decide +kernel
theorem d_Do_beginMinute_5 : decode c_Do_beginMinute 5 = .ok (.invokestatic 33, 3) := by decide +kernel
theorem d_Do_beginMinute_8 : decode c_Do_beginMinute 8 = .ok (.return_, 1) := by decide +kernel
theorem d_Do_isFree_0 : decode c_Do_isFree 0 = .ok (.aload_n 0, 1) := by decide +kernel
theorem d_Do_isFree_1 : decode c_Do_isFree 1 = .ok (.getfield 27, 3) := by decide +kernel
theorem d_Do_isFree_4 : decode c_Do_isFree 4 = .ok (.iload_n 1, 1) := by decide +kernel
theorem d_Do_isFree_5 : decode c_Do_isFree 5 = .ok (.iaload, 1) := by decide +kernel
theorem d_Do_isFree_6 : decode c_Do_isFree 6 = .ok (.aload_n 0, 1) := by decide +kernel
theorem d_Do_isFree_7 : decode c_Do_isFree 7 = .ok (.getfield 18, 3) := by decide +kernel
theorem d_Do_isFree_10 : decode c_Do_isFree 10 = .ok (.iload_n 1, 1) := by decide +kernel
theorem d_Do_isFree_11 : decode c_Do_isFree 11 = .ok (.iaload, 1) := by decide +kernel
theorem d_Do_isFree_12 : decode c_Do_isFree 12 = .ok (.if_icmp .ge 7, 3) := by decide +kernel
theorem d_Do_isFree_15 : decode c_Do_isFree 15 = .ok (.iconst 1, 1) := by decide +kernel
theorem d_Do_isFree_16 : decode c_Do_isFree 16 = .ok (.goto 4, 3) := by decide +kernel
theorem d_Do_isFree_19 : decode c_Do_isFree 19 = .ok (.iconst 0, 1) := by decide +kernel
theorem d_Do_isFree_20 : decode c_Do_isFree 20 = .ok (.ireturn, 1) := by decide +kernel
theorem d_Do_pass_0 : decode c_Do_pass 0 = .ok (.aload_n 0, 1) := by decide +kernel
theorem d_Do_pass_1 : decode c_Do_pass 1 = .ok (.getfield 27, 3) := by decide +kernel
theorem d_Do_pass_4 : decode c_Do_pass 4 = .ok (.iload_n 1, 1) := by decide +kernel
theorem d_Do_pass_5 : decode c_Do_pass 5 = .ok (.dup2, 1) := by decide +kernel
theorem d_Do_pass_6 : decode c_Do_pass 6 = .ok (.iaload, 1) := by decide +kernel
theorem d_Do_pass_7 : decode c_Do_pass 7 = .ok (.iconst 1, 1) := by decide +kernel
theorem d_Do_pass_8 : decode c_Do_pass 8 = .ok (.iadd, 1) := by decide +kernel
theorem d_Do_pass_9 : decode c_Do_pass 9 = .ok (.iastore, 1) := by decide +kernel
theorem d_Do_pass_10 : decode c_Do_pass 10 = .ok (.aload_n 0, 1) := by decide +kernel
theorem d_Do_pass_11 : decode c_Do_pass 11 = .ok (.getfield 9, 3) := by decide +kernel
theorem d_Do_pass_14 : decode c_Do_pass 14 = .ok (.iload_n 1, 1) := by decide +kernel
theorem d_Do_pass_15 : decode c_Do_pass 15 = .ok (.iaload, 1) := by decide +kernel
theorem d_Do_pass_16 : decode c_Do_pass 16 = .ok (.iload_n 2, 1) := by decide +kernel
theorem d_Do_pass_17 : decode c_Do_pass 17 = .ok (.if_icmp .ne 16, 3) := by decide +kernel
theorem d_Do_pass_20 : decode c_Do_pass 20 = .ok (.aload_n 0, 1) := by decide +kernel
theorem d_Do_pass_21 : decode c_Do_pass 21 = .ok (.getfield 21, 3) := by decide +kernel
theorem d_Do_pass_24 : decode c_Do_pass 24 = .ok (.iload_n 1, 1) := by decide +kernel
theorem d_Do_pass_25 : decode c_Do_pass 25 = .ok (.dup2, 1) := by decide +kernel
theorem d_Do_pass_26 : decode c_Do_pass 26 = .ok (.iaload, 1) := by decide +kernel
theorem d_Do_pass_27 : decode c_Do_pass 27 = .ok (.iconst 1, 1) := by decide +kernel
theorem d_Do_pass_28 : decode c_Do_pass 28 = .ok (.iadd, 1) := by decide +kernel
theorem d_Do_pass_29 : decode c_Do_pass 29 = .ok (.iastore, 1) := by decide +kernel
theorem d_Do_pass_30 : decode c_Do_pass 30 = .ok (.goto 13, 3) := by decide +kernel
theorem d_Do_pass_33 : decode c_Do_pass 33 = .ok (.aload_n 0, 1) := by decide +kernel
theorem d_Do_pass_34 : decode c_Do_pass 34 = .ok (.getfield 24, 3) := by decide +kernel
theorem d_Do_pass_37 : decode c_Do_pass 37 = .ok (.iload_n 1, 1) := by decide +kernel
theorem d_Do_pass_38 : decode c_Do_pass 38 = .ok (.dup2, 1) := by decide +kernel
theorem d_Do_pass_39 : decode c_Do_pass 39 = .ok (.iaload, 1) := by decide +kernel
theorem d_Do_pass_40 : decode c_Do_pass 40 = .ok (.iconst 1, 1) := by decide +kernel
theorem d_Do_pass_41 : decode c_Do_pass 41 = .ok (.iadd, 1) := by decide +kernel
theorem d_Do_pass_42 : decode c_Do_pass 42 = .ok (.iastore, 1) := by decide +kernel
theorem d_Do_pass_43 : decode c_Do_pass 43 = .ok (.return_, 1) := by decide +kernel
