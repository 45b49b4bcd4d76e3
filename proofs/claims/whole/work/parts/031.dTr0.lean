theorem d_Tr_init_0 : decode c_Tr_init 0 = .ok (.aload_n 0, 1) := by decide +kernel
theorem d_Tr_init_1 : decode c_Tr_init 1 = .ok (.invokespecial 3, 3) := by decide +kernel
theorem d_Tr_init_4 : decode c_Tr_init 4 = .ok (.aload_n 0, 1) := by decide +kernel
theorem d_Tr_init_5 : decode c_Tr_init 5 = .ok (.bipush 60, 2) := by decide +kernel
theorem d_Tr_init_7 : decode c_Tr_init 7 = .ok (.newarray .int, 2) := by decide +kernel
theorem d_Tr_init_9 : decode c_Tr_init 9 = .ok (.putfield 9, 3) := by decide +kernel
theorem d_Tr_init_12 : decode c_Tr_init 12 = .ok (.aload_n 0, 1) := by decide +kernel
theorem d_Tr_init_13 : decode c_Tr_init 13 = .ok (.sipush 2760, 3) := by decide +kernel
theorem d_Tr_init_16 : decode c_Tr_init 16 = .ok (.newarray .int, 2) := by decide +kernel
theorem d_Tr_init_18 : decode c_Tr_init 18 = .ok (.putfield 15, 3) := by decide +kernel
theorem d_Tr_init_21 : decode c_Tr_init 21 = .ok (.aload_n 0, 1) := by decide +kernel
theorem d_Tr_init_22 : decode c_Tr_init 22 = .ok (.sipush 2760, 3) := by decide +kernel
theorem d_Tr_init_25 : decode c_Tr_init 25 = .ok (.newarray .int, 2) := by decide +kernel
theorem d_Tr_init_27 : decode c_Tr_init 27 = .ok (.putfield 18, 3) := by decide +kernel
theorem d_Tr_init_30 : decode c_Tr_init 30 = .ok (.return_, 1) := by decide +kernel
theorem d_Tr_add_0 : decode c_Tr_add 0 = .ok (.aload_n 0, 1) := by decide +kernel
theorem d_Tr_add_1 : decode c_Tr_add 1 = .ok (.getfield 9, 3) := by decide +kernel
theorem d_Tr_add_4 : decode c_Tr_add 4 = .ok (.iload_n 1, 1) := by decide +kernel
theorem d_Tr_add_5 : decode c_Tr_add 5 = .ok (.iaload, 1) := by decide +kernel
theorem d_Tr_add_6 : decode c_Tr_add 6 = .ok (.bipush 46, 2) := by decide +kernel
theorem d_Tr_add_8 : decode c_Tr_add 8 = .ok (.if_icmp .lt 4, 3) := by decide +kernel
theorem d_Tr_add_11 : decode c_Tr_add 11 = .ok (.return_, 1) := by decide +kernel
theorem d_Tr_add_12 : decode c_Tr_add 12 = .ok (.iload_n 1, 1) := by decide +kernel
theorem d_Tr_add_13 : decode c_Tr_add 13 = .ok (.bipush 46, 2) := by decide +kernel
theorem d_Tr_add_15 : decode c_Tr_add 15 = .ok (.imul, 1) := by decide +kernel
theorem d_Tr_add_16 : decode c_Tr_add 16 = .ok (.aload_n 0, 1) := by decide +kernel
theorem d_Tr_add_17 : decode c_Tr_add 17 = .ok (.getfield 9, 3) := by decide +kernel
theorem d_Tr_add_20 : decode c_Tr_add 20 = .ok (.iload_n 1, 1) := by decide +kernel
theorem d_Tr_add_21 : decode c_Tr_add 21 = .ok (.iaload, 1) := by decide +kernel
theorem d_Tr_add_22 : decode c_Tr_add 22 = .ok (.iadd, 1) := by decide +kernel
theorem d_Tr_add_23 : decode c_Tr_add 23 = .ok (.istore 4, 2) := by decide +kernel
theorem d_Tr_add_25 : decode c_Tr_add 25 = .ok (.aload_n 0, 1) := by decide +kernel
theorem d_Tr_add_26 : decode c_Tr_add 26 = .ok (.getfield 15, 3) := by decide +kernel
theorem d_Tr_add_29 : decode c_Tr_add 29 = .ok (.iload 4, 2) := by decide +kernel
theorem d_Tr_add_31 : decode c_Tr_add 31 = .ok (.iload_n 2, 1) := by decide +kernel
theorem d_Tr_add_32 : decode c_Tr_add 32 = .ok (.iastore, 1) := by decide +kernel
theorem d_Tr_add_33 : decode c_Tr_add 33 = .ok (.aload_n 0, 1) := by decide +kernel
theorem d_Tr_add_34 : decode c_Tr_add 34 = .ok (.getfield 18, 3) := by decide +kernel
theorem d_Tr_add_37 : decode c_Tr_add 37 = .ok (.iload 4, 2) := by decide +kernel
theorem d_Tr_add_39 : decode c_Tr_add 39 = .ok (.iload_n 3, 1) := by decide +kernel
theorem d_Tr_add_40 : decode c_Tr_add 40 = .ok (.iastore, 1) := by decide +kernel
theorem d_Tr_add_41 : decode c_Tr_add 41 = .ok (.aload_n 0, 1) := by decide +kernel
theorem d_Tr_add_42 : decode c_Tr_add 42 = .ok (.getfield 9, 3) := by decide +kernel
theorem d_Tr_add_45 : decode c_Tr_add 45 = .ok (.iload_n 1, 1) := by decide +kernel
theorem d_Tr_add_46 : decode c_Tr_add 46 = .ok (.dup2, 1) := by decide +kernel
theorem d_Tr_add_47 : decode c_Tr_add 47 = .ok (.iaload, 1) := by decide +kernel
theorem d_Tr_add_48 : decode c_Tr_add 48 = .ok (.iconst 1, 1) := by decide +kernel
theorem d_Tr_add_49 : decode c_Tr_add 49 = .ok (.iadd, 1) := by decide +kernel
theorem d_Tr_add_50 : decode c_Tr_add 50 = .ok (.iastore, 1) := by decide +kernel
theorem d_Tr_add_51 : decode c_Tr_add 51 = .ok (.return_, 1) := by decide +kernel
theorem d_Tr_placeNow_0 : decode c_Tr_placeNow 0 = .ok (.aload_n 0, 1) := by decide +kernel
theorem d_Tr_placeNow_1 : decode c_Tr_placeNow 1 = .ok (.getfield 9, 3) := by decide +kernel
theorem d_Tr_placeNow_4 : decode c_Tr_placeNow 4 = .ok (.iload_n 1, 1) := by decide +kernel
theorem d_Tr_placeNow_5 : decode c_Tr_placeNow 5 = .ok (.iaload, 1) := by decide +kernel
theorem d_Tr_placeNow_6 : decode c_Tr_placeNow 6 = .ok (.ifCond .ne 7, 3) := by decide +kernel
theorem d_Tr_placeNow_9 : decode c_Tr_placeNow 9 = .ok (.iconst (-1), 1) := by decide +kernel
theorem d_Tr_placeNow_10 : decode c_Tr_placeNow 10 = .ok (.goto 21, 3) := by decide +kernel
theorem d_Tr_placeNow_13 : decode c_Tr_placeNow 13 = .ok (.aload_n 0, 1) := by decide +kernel
theorem d_Tr_placeNow_14 : decode c_Tr_placeNow 14 = .ok (.getfield 18, 3) := by decide +kernel
theorem d_Tr_placeNow_17 : decode c_Tr_placeNow 17 = .ok (.iload_n 1, 1) := by decide +kernel
theorem d_Tr_placeNow_18 : decode c_Tr_placeNow 18 = .ok (.bipush 46, 2) := by decide +kernel
theorem d_Tr_placeNow_20 : decode c_Tr_placeNow 20 = .ok (.imul, 1) := by decide +kernel
theorem d_Tr_placeNow_21 : decode c_Tr_placeNow 21 = .ok (.aload_n 0, 1) := by decide +kernel
theorem d_Tr_placeNow_22 : decode c_Tr_placeNow 22 = .ok (.getfield 9, 3) := by decide +kernel
theorem d_Tr_placeNow_25 : decode c_Tr_placeNow 25 = .ok (.iload_n 1, 1) := by decide +kernel
theorem d_Tr_placeNow_26 : decode c_Tr_placeNow 26 = .ok (.iaload, 1) := by decide +kernel
theorem d_Tr_placeNow_27 : decode c_Tr_placeNow 27 = .ok (.iadd, 1) := by decide +kernel
theorem d_Tr_placeNow_28 : decode c_Tr_placeNow 28 = .ok (.iconst 1, 1) := by decide +kernel
theorem d_Tr_placeNow_29 : decode c_Tr_placeNow 29 = .ok (.isub, 1) := by decide +kernel
theorem d_Tr_placeNow_30 : decode c_Tr_placeNow 30 = .ok (.iaload, 1) := by decide +kernel
theorem d_Tr_placeNow_31 : decode c_Tr_placeNow 31 = .ok (.ireturn, 1) := by decide +kernel
theorem d_Tr_placeBehind_0 : decode c_Tr_placeBehind 0 = .ok (.aload_n 0, 1) := by decide +kernel
theorem d_Tr_placeBehind_1 : decode c_Tr_placeBehind 1 = .ok (.getfield 9, 3) := by decide +kernel
theorem d_Tr_placeBehind_4 : decode c_Tr_placeBehind 4 = .ok (.iload_n 1, 1) := by decide +kernel
theorem d_Tr_placeBehind_5 : decode c_Tr_placeBehind 5 = .ok (.iaload, 1) := by decide +kernel
theorem d_Tr_placeBehind_6 : decode c_Tr_placeBehind 6 = .ok (.iconst 1, 1) := by decide +kernel
theorem d_Tr_placeBehind_7 : decode c_Tr_placeBehind 7 = .ok (.isub, 1) := by decide +kernel
theorem d_Tr_placeBehind_8 : decode c_Tr_placeBehind 8 = .ok (.istore_n 3, 1) := by decide +kernel
theorem d_Tr_placeBehind_9 : decode c_Tr_placeBehind 9 = .ok (.iload_n 3, 1) := by decide +kernel
theorem d_Tr_placeBehind_10 : decode c_Tr_placeBehind 10 = .ok (.ifCond .lt 36, 3) := by decide +kernel
theorem d_Tr_placeBehind_13 : decode c_Tr_placeBehind 13 = .ok (.aload_n 0, 1) := by decide +kernel
theorem d_Tr_placeBehind_14 : decode c_Tr_placeBehind 14 = .ok (.getfield 15, 3) := by decide +kernel
theorem d_Tr_placeBehind_17 : decode c_Tr_placeBehind 17 = .ok (.iload_n 1, 1) := by decide +kernel
theorem d_Tr_placeBehind_18 : decode c_Tr_placeBehind 18 = .ok (.bipush 46, 2) := by decide +kernel
theorem d_Tr_placeBehind_20 : decode c_Tr_placeBehind 20 = .ok (.imul, 1) := by decide +kernel
theorem d_Tr_placeBehind_21 : decode c_Tr_placeBehind 21 = .ok (.iload_n 3, 1) := by decide +kernel
theorem d_Tr_placeBehind_22 : decode c_Tr_placeBehind 22 = .ok (.iadd, 1) := by decide +kernel
theorem d_Tr_placeBehind_23 : decode c_Tr_placeBehind 23 = .ok (.iaload, 1) := by decide +kernel
theorem d_Tr_placeBehind_24 : decode c_Tr_placeBehind 24 = .ok (.iload_n 2, 1) := by decide +kernel
theorem d_Tr_placeBehind_25 : decode c_Tr_placeBehind 25 = .ok (.if_icmp .gt 15, 3) := by decide +kernel
theorem d_Tr_placeBehind_28 : decode c_Tr_placeBehind 28 = .ok (.aload_n 0, 1) := by decide +kernel
theorem d_Tr_placeBehind_29 : decode c_Tr_placeBehind 29 = .ok (.getfield 18, 3) := by decide +kernel
theorem d_Tr_placeBehind_32 : decode c_Tr_placeBehind 32 = .ok (.iload_n 1, 1) := by decide +kernel
theorem d_Tr_placeBehind_33 : decode c_Tr_placeBehind 33 = .ok (.bipush 46, 2) := by decide +kernel
theorem d_Tr_placeBehind_35 : decode c_Tr_placeBehind 35 = .ok (.imul, 1) := by decide +kernel
theorem d_Tr_placeBehind_36 : decode c_Tr_placeBehind 36 = .ok (.iload_n 3, 1) := by decide +kernel
theorem d_Tr_placeBehind_37 : decode c_Tr_placeBehind 37 = .ok (.iadd, 1) := by decide +kernel
theorem d_Tr_placeBehind_38 : decode c_Tr_placeBehind 38 = .ok (.iaload, 1) := by decide +kernel
theorem d_Tr_placeBehind_39 : decode c_Tr_placeBehind 39 = .ok (.ireturn, 1) := by decide +kernel
theorem d_Tr_placeBehind_40 : decode c_Tr_placeBehind 40 = .ok (.iinc 3 (-1), 3) := by decide +kernel
theorem d_Tr_placeBehind_43 : decode c_Tr_placeBehind 43 = .ok (.goto (-34), 3) := by decide +kernel
theorem d_Tr_placeBehind_46 : decode c_Tr_placeBehind 46 = .ok (.iconst (-1), 1) := by decide +kernel
theorem d_Tr_placeBehind_47 : decode c_Tr_placeBehind 47 = .ok (.ireturn, 1) := by decide +kernel
theorem d_Tr_firstJoining_0 : decode c_Tr_firstJoining 0 = .ok (.iconst 0, 1) := by decide +kernel
theorem d_Tr_firstJoining_1 : decode c_Tr_firstJoining 1 = .ok (.istore_n 3, 1) := by decide +kernel
theorem d_Tr_firstJoining_2 : decode c_Tr_firstJoining 2 = .ok (.iload_n 3, 1) := by decide +kernel
theorem d_Tr_firstJoining_3 : decode c_Tr_firstJoining 3 = .ok (.aload_n 0, 1) := by decide +kernel
theorem d_Tr_firstJoining_4 : decode c_Tr_firstJoining 4 = .ok (.getfield 9, 3) := by decide +kernel
theorem d_Tr_firstJoining_7 : decode c_Tr_firstJoining 7 = .ok (.iload_n 1, 1) := by decide +kernel
theorem d_Tr_firstJoining_8 : decode c_Tr_firstJoining 8 = .ok (.iaload, 1) := by decide +kernel
theorem d_Tr_firstJoining_9 : decode c_Tr_firstJoining 9 = .ok (.if_icmp .ge 56, 3) := by decide +kernel
theorem d_Tr_firstJoining_12 : decode c_Tr_firstJoining 12 = .ok (.aload_n 0, 1) := by decide +kernel
theorem d_Tr_firstJoining_13 : decode c_Tr_firstJoining 13 = .ok (.getfield 15, 3) := by decide +kernel
theorem d_Tr_firstJoining_16 : decode c_Tr_firstJoining 16 = .ok (.iload_n 1, 1) := by decide +kernel
theorem d_Tr_firstJoining_17 : decode c_Tr_firstJoining 17 = .ok (.bipush 46, 2) := by decide +kernel
theorem d_Tr_firstJoining_19 : decode c_Tr_firstJoining 19 = .ok (.imul, 1) := by decide +kernel
theorem d_Tr_firstJoining_20 : decode c_Tr_firstJoining 20 = .ok (.iload_n 3, 1) := by decide +kernel
theorem d_Tr_firstJoining_21 : decode c_Tr_firstJoining 21 = .ok (.iadd, 1) := by decide +kernel
theorem d_Tr_firstJoining_22 : decode c_Tr_firstJoining 22 = .ok (.iaload, 1) := by decide +kernel
theorem d_Tr_firstJoining_23 : decode c_Tr_firstJoining 23 = .ok (.istore 4, 2) := by decide +kernel
theorem d_Tr_firstJoining_25 : decode c_Tr_firstJoining 25 = .ok (.aload_n 0, 1) := by decide +kernel
theorem d_Tr_firstJoining_26 : decode c_Tr_firstJoining 26 = .ok (.getfield 18, 3) := by decide +kernel
theorem d_Tr_firstJoining_29 : decode c_Tr_firstJoining 29 = .ok (.iload_n 1, 1) := by decide +kernel
theorem d_Tr_firstJoining_30 : decode c_Tr_firstJoining 30 = .ok (.bipush 46, 2) := by decide +kernel
theorem d_Tr_firstJoining_32 : decode c_Tr_firstJoining 32 = .ok (.imul, 1) := by decide +kernel
theorem d_Tr_firstJoining_33 : decode c_Tr_firstJoining 33 = .ok (.iload_n 3, 1) := by decide +kernel
theorem d_Tr_firstJoining_34 : decode c_Tr_firstJoining 34 = .ok (.iadd, 1) := by decide +kernel
theorem d_Tr_firstJoining_35 : decode c_Tr_firstJoining 35 = .ok (.iaload, 1) := by decide +kernel
theorem d_Tr_firstJoining_36 : decode c_Tr_firstJoining 36 = .ok (.istore 5, 2) := by decide +kernel
theorem d_Tr_firstJoining_38 : decode c_Tr_firstJoining 38 = .ok (.iload 5, 2) := by decide +kernel
theorem d_Tr_firstJoining_40 : decode c_Tr_firstJoining 40 = .ok (.iconst (-1), 1) := by decide +kernel
theorem d_Tr_firstJoining_41 : decode c_Tr_firstJoining 41 = .ok (.if_icmp .eq 18, 3) := by decide +kernel
theorem d_Tr_firstJoining_44 : decode c_Tr_firstJoining 44 = .ok (.aload_n 0, 1) := by decide +kernel
theorem d_Tr_firstJoining_45 : decode c_Tr_firstJoining 45 = .ok (.iload_n 2, 1) := by decide +kernel
theorem d_Tr_firstJoining_46 : decode c_Tr_firstJoining 46 = .ok (.iload 4, 2) := by decide +kernel
theorem d_Tr_firstJoining_48 : decode c_Tr_firstJoining 48 = .ok (.invokevirtual 21, 3) := by decide +kernel
theorem d_Tr_firstJoining_51 : decode c_Tr_firstJoining 51 = .ok (.iload 5, 2) := by decide +kernel
theorem d_Tr_firstJoining_53 : decode c_Tr_firstJoining 53 = .ok (.if_icmp .ne 6, 3) := by decide +kernel
theorem d_Tr_firstJoining_56 : decode c_Tr_firstJoining 56 = .ok (.iload 4, 2) := by decide +kernel
theorem d_Tr_firstJoining_58 : decode c_Tr_firstJoining 58 = .ok (.ireturn, 1) := by decide +kernel
theorem d_Tr_firstJoining_59 : decode c_Tr_firstJoining 59 = .ok (.iinc 3 1, 3) := by decide +kernel
theorem d_Tr_firstJoining_62 : decode c_Tr_firstJoining 62 = .ok (.goto (-60), 3) := by decide +kernel
theorem d_Tr_firstJoining_65 : decode c_Tr_firstJoining 65 = .ok (.iconst (-1), 1) := by decide +kernel
theorem d_Tr_firstJoining_66 : decode c_Tr_firstJoining 66 = .ok (.ireturn, 1) := by decide +kernel
