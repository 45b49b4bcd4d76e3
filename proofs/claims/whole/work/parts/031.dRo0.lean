theorem d_Ro_init_0 : decode c_Ro_init 0 = .ok (.aload_n 0, 1) := by decide +kernel
theorem d_Ro_init_1 : decode c_Ro_init 1 = .ok (.invokespecial 3, 3) := by decide +kernel
theorem d_Ro_init_4 : decode c_Ro_init 4 = .ok (.aload_n 0, 1) := by decide +kernel
theorem d_Ro_init_5 : decode c_Ro_init 5 = .ok (.bipush 12, 2) := by decide +kernel
theorem d_Ro_init_7 : decode c_Ro_init 7 = .ok (.newarray .int, 2) := by decide +kernel
theorem d_Ro_init_9 : decode c_Ro_init 9 = .ok (.putfield 9, 3) := by decide +kernel
theorem d_Ro_init_12 : decode c_Ro_init 12 = .ok (.aload_n 0, 1) := by decide +kernel
theorem d_Ro_init_13 : decode c_Ro_init 13 = .ok (.bipush 12, 2) := by decide +kernel
theorem d_Ro_init_15 : decode c_Ro_init 15 = .ok (.newarray .int, 2) := by decide +kernel
theorem d_Ro_init_17 : decode c_Ro_init 17 = .ok (.putfield 15, 3) := by decide +kernel
theorem d_Ro_init_20 : decode c_Ro_init 20 = .ok (.aload_n 0, 1) := by decide +kernel
theorem d_Ro_init_21 : decode c_Ro_init 21 = .ok (.bipush 12, 2) := by decide +kernel
theorem d_Ro_init_23 : decode c_Ro_init 23 = .ok (.newarray .int, 2) := by decide +kernel
theorem d_Ro_init_25 : decode c_Ro_init 25 = .ok (.putfield 18, 3) := by decide +kernel
theorem d_Ro_init_28 : decode c_Ro_init 28 = .ok (.aload_n 0, 1) := by decide +kernel
theorem d_Ro_init_29 : decode c_Ro_init 29 = .ok (.bipush 12, 2) := by decide +kernel
theorem d_Ro_init_31 : decode c_Ro_init 31 = .ok (.newarray .int, 2) := by decide +kernel
theorem d_Ro_init_33 : decode c_Ro_init 33 = .ok (.putfield 21, 3) := by decide +kernel
theorem d_Ro_init_36 : decode c_Ro_init 36 = .ok (.return_, 1) := by decide +kernel
theorem d_Ro_add_0 : decode c_Ro_add 0 = .ok (.aload_n 0, 1) := by decide +kernel
theorem d_Ro_add_1 : decode c_Ro_add 1 = .ok (.getfield 9, 3) := by decide +kernel
theorem d_Ro_add_4 : decode c_Ro_add 4 = .ok (.aload_n 0, 1) := by decide +kernel
theorem d_Ro_add_5 : decode c_Ro_add 5 = .ok (.getfield 24, 3) := by decide +kernel
theorem d_Ro_add_8 : decode c_Ro_add 8 = .ok (.iload_n 1, 1) := by decide +kernel
theorem d_Ro_add_9 : decode c_Ro_add 9 = .ok (.iastore, 1) := by decide +kernel
theorem d_Ro_add_10 : decode c_Ro_add 10 = .ok (.aload_n 0, 1) := by decide +kernel
theorem d_Ro_add_11 : decode c_Ro_add 11 = .ok (.dup, 1) := by decide +kernel
theorem d_Ro_add_12 : decode c_Ro_add 12 = .ok (.getfield 24, 3) := by decide +kernel
theorem d_Ro_add_15 : decode c_Ro_add 15 = .ok (.iconst 1, 1) := by decide +kernel
theorem d_Ro_add_16 : decode c_Ro_add 16 = .ok (.iadd, 1) := by decide +kernel
theorem d_Ro_add_17 : decode c_Ro_add 17 = .ok (.putfield 24, 3) := by decide +kernel
theorem d_Ro_add_20 : decode c_Ro_add 20 = .ok (.aload_n 0, 1) := by decide +kernel
theorem d_Ro_add_21 : decode c_Ro_add 21 = .ok (.getfield 24, 3) := by decide +kernel
theorem d_Ro_add_24 : decode c_Ro_add 24 = .ok (.iconst 1, 1) := by decide +kernel
theorem d_Ro_add_25 : decode c_Ro_add 25 = .ok (.isub, 1) := by decide +kernel
theorem d_Ro_add_26 : decode c_Ro_add 26 = .ok (.ireturn, 1) := by decide +kernel
theorem d_Ro_hasSpace_0 : decode c_Ro_hasSpace 0 = .ok (.aload_n 0, 1) := by decide +kernel
theorem d_Ro_hasSpace_1 : decode c_Ro_hasSpace 1 = .ok (.getfield 15, 3) := by decide +kernel
theorem d_Ro_hasSpace_4 : decode c_Ro_hasSpace 4 = .ok (.iload_n 1, 1) := by decide +kernel
theorem d_Ro_hasSpace_5 : decode c_Ro_hasSpace 5 = .ok (.iaload, 1) := by decide +kernel
theorem d_Ro_hasSpace_6 : decode c_Ro_hasSpace 6 = .ok (.aload_n 0, 1) := by decide +kernel
theorem d_Ro_hasSpace_7 : decode c_Ro_hasSpace 7 = .ok (.getfield 9, 3) := by decide +kernel
theorem d_Ro_hasSpace_10 : decode c_Ro_hasSpace 10 = .ok (.iload_n 1, 1) := by decide +kernel
theorem d_Ro_hasSpace_11 : decode c_Ro_hasSpace 11 = .ok (.iaload, 1) := by decide +kernel
theorem d_Ro_hasSpace_12 : decode c_Ro_hasSpace 12 = .ok (.if_icmp .ge 7, 3) := by decide +kernel
theorem d_Ro_hasSpace_15 : decode c_Ro_hasSpace 15 = .ok (.iconst 1, 1) := by decide +kernel
theorem d_Ro_hasSpace_16 : decode c_Ro_hasSpace 16 = .ok (.goto 4, 3) := by decide +kernel
theorem d_Ro_hasSpace_19 : decode c_Ro_hasSpace 19 = .ok (.iconst 0, 1) := by decide +kernel
theorem d_Ro_hasSpace_20 : decode c_Ro_hasSpace 20 = .ok (.ireturn, 1) := by decide +kernel
theorem d_Ro_endMinute_0 : decode c_Ro_endMinute 0 = .ok (.iconst 0, 1) := by decide +kernel
theorem d_Ro_endMinute_1 : decode c_Ro_endMinute 1 = .ok (.istore_n 1, 1) := by decide +kernel
theorem d_Ro_endMinute_2 : decode c_Ro_endMinute 2 = .ok (.iload_n 1, 1) := by decide +kernel
theorem d_Ro_endMinute_3 : decode c_Ro_endMinute 3 = .ok (.aload_n 0, 1) := by decide +kernel
theorem d_Ro_endMinute_4 : decode c_Ro_endMinute 4 = .ok (.getfield 24, 3) := by decide +kernel
theorem d_Ro_endMinute_7 : decode c_Ro_endMinute 7 = .ok (.if_icmp .ge 48, 3) := by decide +kernel
theorem d_Ro_endMinute_10 : decode c_Ro_endMinute 10 = .ok (.aload_n 0, 1) := by decide +kernel
theorem d_Ro_endMinute_11 : decode c_Ro_endMinute 11 = .ok (.getfield 18, 3) := by decide +kernel
theorem d_Ro_endMinute_14 : decode c_Ro_endMinute 14 = .ok (.iload_n 1, 1) := by decide +kernel
theorem d_Ro_endMinute_15 : decode c_Ro_endMinute 15 = .ok (.aload_n 0, 1) := by decide +kernel
theorem d_Ro_endMinute_16 : decode c_Ro_endMinute 16 = .ok (.getfield 18, 3) := by decide +kernel
theorem d_Ro_endMinute_19 : decode c_Ro_endMinute 19 = .ok (.iload_n 1, 1) := by decide +kernel
theorem d_Ro_endMinute_20 : decode c_Ro_endMinute 20 = .ok (.iaload, 1) := by decide +kernel
theorem d_Ro_endMinute_21 : decode c_Ro_endMinute 21 = .ok (.aload_n 0, 1) := by decide +kernel
theorem d_Ro_endMinute_22 : decode c_Ro_endMinute 22 = .ok (.getfield 15, 3) := by decide +kernel
theorem d_Ro_endMinute_25 : decode c_Ro_endMinute 25 = .ok (.iload_n 1, 1) := by decide +kernel
theorem d_Ro_endMinute_26 : decode c_Ro_endMinute 26 = .ok (.iaload, 1) := by decide +kernel
theorem d_Ro_endMinute_27 : decode c_Ro_endMinute 27 = .ok (.invokestatic 28, 3) := by decide +kernel
theorem d_Ro_endMinute_30 : decode c_Ro_endMinute 30 = .ok (.iastore, 1) := by decide +kernel
theorem d_Ro_endMinute_31 : decode c_Ro_endMinute 31 = .ok (.aload_n 0, 1) := by decide +kernel
theorem d_Ro_endMinute_32 : decode c_Ro_endMinute 32 = .ok (.iload_n 1, 1) := by decide +kernel
theorem d_Ro_endMinute_33 : decode c_Ro_endMinute 33 = .ok (.invokevirtual 34, 3) := by decide +kernel
theorem d_Ro_endMinute_36 : decode c_Ro_endMinute 36 = .ok (.ifCond .ne 13, 3) := by decide +kernel
theorem d_Ro_endMinute_39 : decode c_Ro_endMinute 39 = .ok (.aload_n 0, 1) := by decide +kernel
theorem d_Ro_endMinute_40 : decode c_Ro_endMinute 40 = .ok (.getfield 21, 3) := by decide +kernel
theorem d_Ro_endMinute_43 : decode c_Ro_endMinute 43 = .ok (.iload_n 1, 1) := by decide +kernel
theorem d_Ro_endMinute_44 : decode c_Ro_endMinute 44 = .ok (.dup2, 1) := by decide +kernel
theorem d_Ro_endMinute_45 : decode c_Ro_endMinute 45 = .ok (.iaload, 1) := by decide +kernel
theorem d_Ro_endMinute_46 : decode c_Ro_endMinute 46 = .ok (.iconst 1, 1) := by decide +kernel
theorem d_Ro_endMinute_47 : decode c_Ro_endMinute 47 = .ok (.iadd, 1) := by decide +kernel
theorem d_Ro_endMinute_48 : decode c_Ro_endMinute 48 = .ok (.iastore, 1) := by decide +kernel
theorem d_Ro_endMinute_49 : decode c_Ro_endMinute 49 = .ok (.iinc 1 1, 3) := by decide +kernel
theorem d_Ro_endMinute_52 : decode c_Ro_endMinute 52 = .ok (.goto (-50), 3) := by decide +kernel
theorem d_Ro_endMinute_55 : decode c_Ro_endMinute 55 = .ok (.return_, 1) := by decide +kernel
