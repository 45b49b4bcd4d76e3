theorem d_Mo_inThen_69 : decode c_Mo_inThen 69 = .ok (.istore_n 3, 1) := by decide +kernel
theorem d_Mo_inThen_70 : decode c_Mo_inThen 70 = .ok (.iinc 4 1, 3) := by decide +kernel
theorem d_Mo_inThen_73 : decode c_Mo_inThen 73 = .ok (.goto (-37), 3) := by decide +kernel
theorem d_Mo_inThen_76 : decode c_Mo_inThen 76 = .ok (.iload_n 3, 1) := by decide +kernel
theorem d_Mo_inThen_77 : decode c_Mo_inThen 77 = .ok (.ireturn, 1) := by decide +kernel
theorem d_Mo_through_0 : decode c_Mo_through 0 = .ok (.aload_n 0, 1) := by decide +kernel
theorem d_Mo_through_1 : decode c_Mo_through 1 = .ok (.iload_n 1, 1) := by decide +kernel
theorem d_Mo_through_2 : decode c_Mo_through 2 = .ok (.i2l, 1) := by decide +kernel
theorem d_Mo_through_3 : decode c_Mo_through 3 = .ok (.lconst 0, 1) := by decide +kernel
theorem d_Mo_through_4 : decode c_Mo_through 4 = .ok (.aload_n 0, 1) := by decide +kernel
theorem d_Mo_through_5 : decode c_Mo_through 5 = .ok (.getfield 90, 3) := by decide +kernel
theorem d_Mo_through_8 : decode c_Mo_through 8 = .ok (.i2l, 1) := by decide +kernel
theorem d_Mo_through_9 : decode c_Mo_through 9 = .ok (.lconst 1, 1) := by decide +kernel
theorem d_Mo_through_10 : decode c_Mo_through 10 = .ok (.lsub, 1) := by decide +kernel
theorem d_Mo_through_11 : decode c_Mo_through 11 = .ok (.invokestatic 73, 3) := by decide +kernel
theorem d_Mo_through_14 : decode c_Mo_through 14 = .ok (.iconst 1, 1) := by decide +kernel
theorem d_Mo_through_15 : decode c_Mo_through 15 = .ok (.invokevirtual 80, 3) := by decide +kernel
theorem d_Mo_through_18 : decode c_Mo_through 18 = .ok (.ifCond .eq 25, 3) := by decide +kernel
theorem d_Mo_through_21 : decode c_Mo_through 21 = .ok (.iload_n 2, 1) := by decide +kernel
theorem d_Mo_through_22 : decode c_Mo_through 22 = .ok (.ifCond .eq 12, 3) := by decide +kernel
theorem d_Mo_through_25 : decode c_Mo_through 25 = .ok (.aload_n 0, 1) := by decide +kernel
theorem d_Mo_through_26 : decode c_Mo_through 26 = .ok (.getfield 37, 3) := by decide +kernel
theorem d_Mo_through_29 : decode c_Mo_through 29 = .ok (.iload_n 1, 1) := by decide +kernel
theorem d_Mo_through_30 : decode c_Mo_through 30 = .ok (.iaload, 1) := by decide +kernel
theorem d_Mo_through_31 : decode c_Mo_through 31 = .ok (.goto 13, 3) := by decide +kernel
theorem d_Mo_through_34 : decode c_Mo_through 34 = .ok (.aload_n 0, 1) := by decide +kernel
theorem d_Mo_through_35 : decode c_Mo_through 35 = .ok (.getfield 40, 3) := by decide +kernel
theorem d_Mo_through_38 : decode c_Mo_through 38 = .ok (.iload_n 1, 1) := by decide +kernel
theorem d_Mo_through_39 : decode c_Mo_through 39 = .ok (.iaload, 1) := by decide +kernel
theorem d_Mo_through_40 : decode c_Mo_through 40 = .ok (.goto 4, 3) := by decide +kernel
theorem d_Mo_through_43 : decode c_Mo_through 43 = .ok (.iconst 0, 1) := by decide +kernel
theorem d_Mo_through_44 : decode c_Mo_through 44 = .ok (.ireturn, 1) := by decide +kernel
theorem d_Mo_distance_0 : decode c_Mo_distance 0 = .ok (.aload_n 0, 1) := by decide +kernel
theorem d_Mo_distance_1 : decode c_Mo_distance 1 = .ok (.aload_n 0, 1) := by decide +kernel
theorem d_Mo_distance_2 : decode c_Mo_distance 2 = .ok (.iload_n 1, 1) := by decide +kernel
theorem d_Mo_distance_3 : decode c_Mo_distance 3 = .ok (.invokevirtual 84, 3) := by decide +kernel
theorem d_Mo_distance_6 : decode c_Mo_distance 6 = .ok (.ifCond .eq 15, 3) := by decide +kernel
theorem d_Mo_distance_9 : decode c_Mo_distance 9 = .ok (.aload_n 0, 1) := by decide +kernel
theorem d_Mo_distance_10 : decode c_Mo_distance 10 = .ok (.iload_n 2, 1) := by decide +kernel
theorem d_Mo_distance_11 : decode c_Mo_distance 11 = .ok (.invokevirtual 84, 3) := by decide +kernel
theorem d_Mo_distance_14 : decode c_Mo_distance 14 = .ok (.ifCond .eq 7, 3) := by decide +kernel
theorem d_Mo_distance_17 : decode c_Mo_distance 17 = .ok (.iconst 1, 1) := by decide +kernel
theorem d_Mo_distance_18 : decode c_Mo_distance 18 = .ok (.goto 4, 3) := by decide +kernel
theorem d_Mo_distance_21 : decode c_Mo_distance 21 = .ok (.iconst 0, 1) := by decide +kernel
theorem d_Mo_distance_22 : decode c_Mo_distance 22 = .ok (.iconst 1, 1) := by decide +kernel
theorem d_Mo_distance_23 : decode c_Mo_distance 23 = .ok (.invokevirtual 80, 3) := by decide +kernel
theorem d_Mo_distance_26 : decode c_Mo_distance 26 = .ok (.ifCond .eq 17, 3) := by decide +kernel
theorem d_Mo_distance_29 : decode c_Mo_distance 29 = .ok (.aload_n 0, 1) := by decide +kernel
theorem d_Mo_distance_30 : decode c_Mo_distance 30 = .ok (.getfield 22, 3) := by decide +kernel
theorem d_Mo_distance_33 : decode c_Mo_distance 33 = .ok (.bipush 12, 2) := by decide +kernel
theorem d_Mo_distance_35 : decode c_Mo_distance 35 = .ok (.iload_n 1, 1) := by decide +kernel
theorem d_Mo_distance_36 : decode c_Mo_distance 36 = .ok (.imul, 1) := by decide +kernel
theorem d_Mo_distance_37 : decode c_Mo_distance 37 = .ok (.iload_n 2, 1) := by decide +kernel
theorem d_Mo_distance_38 : decode c_Mo_distance 38 = .ok (.iadd, 1) := by decide +kernel
theorem d_Mo_distance_39 : decode c_Mo_distance 39 = .ok (.iaload, 1) := by decide +kernel
theorem d_Mo_distance_40 : decode c_Mo_distance 40 = .ok (.goto 4, 3) := by decide +kernel
theorem d_Mo_distance_43 : decode c_Mo_distance 43 = .ok (.iconst 0, 1) := by decide +kernel
theorem d_Mo_distance_44 : decode c_Mo_distance 44 = .ok (.ireturn, 1) := by decide +kernel
theorem d_Mo_met_0 : decode c_Mo_met 0 = .ok (.aload_n 0, 1) := by decide +kernel
theorem d_Mo_met_1 : decode c_Mo_met 1 = .ok (.aload_n 0, 1) := by decide +kernel
theorem d_Mo_met_2 : decode c_Mo_met 2 = .ok (.iload_n 1, 1) := by decide +kernel
theorem d_Mo_met_3 : decode c_Mo_met 3 = .ok (.invokevirtual 150, 3) := by decide +kernel
theorem d_Mo_met_6 : decode c_Mo_met 6 = .ok (.ifCond .eq 20, 3) := by decide +kernel
theorem d_Mo_met_9 : decode c_Mo_met 9 = .ok (.aload_n 0, 1) := by decide +kernel
theorem d_Mo_met_10 : decode c_Mo_met 10 = .ok (.iload_n 2, 1) := by decide +kernel
theorem d_Mo_met_11 : decode c_Mo_met 11 = .ok (.invokevirtual 150, 3) := by decide +kernel
theorem d_Mo_met_14 : decode c_Mo_met 14 = .ok (.ifCond .eq 12, 3) := by decide +kernel
theorem d_Mo_met_17 : decode c_Mo_met 17 = .ok (.iload_n 1, 1) := by decide +kernel
theorem d_Mo_met_18 : decode c_Mo_met 18 = .ok (.iload_n 2, 1) := by decide +kernel
theorem d_Mo_met_19 : decode c_Mo_met 19 = .ok (.if_icmp .eq 7, 3) := by decide +kernel
theorem d_Mo_met_22 : decode c_Mo_met 22 = .ok (.iconst 1, 1) := by decide +kernel
theorem d_Mo_met_23 : decode c_Mo_met 23 = .ok (.goto 4, 3) := by decide +kernel
theorem d_Mo_met_26 : decode c_Mo_met 26 = .ok (.iconst 0, 1) := by decide +kernel
theorem d_Mo_met_27 : decode c_Mo_met 27 = .ok (.iconst 1, 1) := by decide +kernel
theorem d_Mo_met_28 : decode c_Mo_met 28 = .ok (.invokevirtual 80, 3) := by decide +kernel
theorem d_Mo_met_31 : decode c_Mo_met 31 = .ok (.ifCond .ne 5, 3) := by decide +kernel
theorem d_Mo_met_34 : decode c_Mo_met 34 = .ok (.iconst 0, 1) := by decide +kernel
theorem d_Mo_met_35 : decode c_Mo_met 35 = .ok (.ireturn, 1) := by decide +kernel
theorem d_Mo_met_36 : decode c_Mo_met 36 = .ok (.iconst 0, 1) := by decide +kernel
theorem d_Mo_met_37 : decode c_Mo_met 37 = .ok (.istore_n 3, 1) := by decide +kernel
theorem d_Mo_met_38 : decode c_Mo_met 38 = .ok (.iload_n 3, 1) := by decide +kernel
theorem d_Mo_met_39 : decode c_Mo_met 39 = .ok (.aload_n 0, 1) := by decide +kernel
theorem d_Mo_met_40 : decode c_Mo_met 40 = .ok (.getfield 77, 3) := by decide +kernel
theorem d_Mo_met_43 : decode c_Mo_met 43 = .ok (.if_icmp .ge 48, 3) := by decide +kernel
theorem d_Mo_met_46 : decode c_Mo_met 46 = .ok (.aload_n 0, 1) := by decide +kernel
theorem d_Mo_met_47 : decode c_Mo_met 47 = .ok (.getfield 53, 3) := by decide +kernel
theorem d_Mo_met_50 : decode c_Mo_met 50 = .ok (.sipush 2000, 3) := by decide +kernel
theorem d_Mo_met_53 : decode c_Mo_met 53 = .ok (.iload_n 1, 1) := by decide +kernel
theorem d_Mo_met_54 : decode c_Mo_met 54 = .ok (.imul, 1) := by decide +kernel
theorem d_Mo_met_55 : decode c_Mo_met 55 = .ok (.iload_n 3, 1) := by decide +kernel
theorem d_Mo_met_56 : decode c_Mo_met 56 = .ok (.iadd, 1) := by decide +kernel
theorem d_Mo_met_57 : decode c_Mo_met 57 = .ok (.baload, 1) := by decide +kernel
theorem d_Mo_met_58 : decode c_Mo_met 58 = .ok (.istore 4, 2) := by decide +kernel
theorem d_Mo_met_60 : decode c_Mo_met 60 = .ok (.iload 4, 2) := by decide +kernel
theorem d_Mo_met_62 : decode c_Mo_met 62 = .ok (.iconst (-1), 1) := by decide +kernel
theorem d_Mo_met_63 : decode c_Mo_met 63 = .ok (.if_icmp .eq 22, 3) := by decide +kernel
theorem d_Mo_met_66 : decode c_Mo_met 66 = .ok (.iload 4, 2) := by decide +kernel
theorem d_Mo_met_68 : decode c_Mo_met 68 = .ok (.aload_n 0, 1) := by decide +kernel
theorem d_Mo_met_69 : decode c_Mo_met 69 = .ok (.getfield 53, 3) := by decide +kernel
theorem d_Mo_met_72 : decode c_Mo_met 72 = .ok (.sipush 2000, 3) := by decide +kernel
theorem d_Mo_met_75 : decode c_Mo_met 75 = .ok (.iload_n 2, 1) := by decide +kernel
theorem d_Mo_met_76 : decode c_Mo_met 76 = .ok (.imul, 1) := by decide +kernel
theorem d_Mo_met_77 : decode c_Mo_met 77 = .ok (.iload_n 3, 1) := by decide +kernel
theorem d_Mo_met_78 : decode c_Mo_met 78 = .ok (.iadd, 1) := by decide +kernel
theorem d_Mo_met_79 : decode c_Mo_met 79 = .ok (.baload, 1) := by decide +kernel
theorem d_Mo_met_80 : decode c_Mo_met 80 = .ok (.if_icmp .ne 5, 3) := by decide +kernel
theorem d_Mo_met_83 : decode c_Mo_met 83 = .ok (.iload_n 3, 1) := by decide +kernel
theorem d_Mo_met_84 : decode c_Mo_met 84 = .ok (.ireturn, 1) := by decide +kernel
theorem d_Mo_met_85 : decode c_Mo_met 85 = .ok (.iinc 3 1, 3) := by decide +kernel
theorem d_Mo_met_88 : decode c_Mo_met 88 = .ok (.goto (-50), 3) := by decide +kernel
theorem d_Mo_met_91 : decode c_Mo_met 91 = .ok (.iconst (-1), 1) := by decide +kernel
theorem d_Mo_met_92 : decode c_Mo_met 92 = .ok (.ireturn, 1) := by decide +kernel
theorem d_Mo_entered_0 : decode c_Mo_entered 0 = .ok (.aload_n 0, 1) := by decide +kernel
theorem d_Mo_entered_1 : decode c_Mo_entered 1 = .ok (.iconst 0, 1) := by decide +kernel
theorem d_Mo_entered_2 : decode c_Mo_entered 2 = .ok (.putfield 61, 3) := by decide +kernel
theorem d_Mo_entered_5 : decode c_Mo_entered 5 = .ok (.iload_n 1, 1) := by decide +kernel
theorem d_Mo_entered_6 : decode c_Mo_entered 6 = .ok (.ifCond .eq 10, 3) := by decide +kernel
theorem d_Mo_entered_9 : decode c_Mo_entered 9 = .ok (.aload_n 0, 1) := by decide +kernel
theorem d_Mo_entered_10 : decode c_Mo_entered 10 = .ok (.getfield 132, 3) := by decide +kernel
theorem d_Mo_entered_13 : decode c_Mo_entered 13 = .ok (.goto 7, 3) := by decide +kernel
theorem d_Mo_entered_16 : decode c_Mo_entered 16 = .ok (.aload_n 0, 1) := by decide +kernel
theorem d_Mo_entered_17 : decode c_Mo_entered 17 = .ok (.getfield 135, 3) := by decide +kernel
theorem d_Mo_entered_20 : decode c_Mo_entered 20 = .ok (.ireturn, 1) := by decide +kernel
