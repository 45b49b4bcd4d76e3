theorem d_PS_checkPerson_1 : decode c_PS_checkPerson 1 = .ok (.iconst 0, 1) := by decide +kernel
theorem d_PS_checkPerson_2 : decode c_PS_checkPerson 2 = .ok (.aload_n 0, 1) := by decide +kernel
theorem d_PS_checkPerson_3 : decode c_PS_checkPerson 3 = .ok (.getfield 35, 3) := by decide +kernel
theorem d_PS_checkPerson_6 : decode c_PS_checkPerson 6 = .ok (.getfield 73, 3) := by decide +kernel
theorem d_PS_checkPerson_9 : decode c_PS_checkPerson 9 = .ok (.iconst 1, 1) := by decide +kernel
theorem d_PS_checkPerson_10 : decode c_PS_checkPerson 10 = .ok (.isub, 1) := by decide +kernel
theorem d_PS_checkPerson_11 : decode c_PS_checkPerson 11 = .ok (.invokestatic 39, 3) := by decide +kernel
theorem d_PS_checkPerson_14 : decode c_PS_checkPerson 14 = .ok (.return_, 1) := by decide +kernel
theorem d_PS_checkOver_0 : decode c_PS_checkOver 0 = .ok (.iload_n 1, 1) := by decide +kernel
theorem d_PS_checkOver_1 : decode c_PS_checkOver 1 = .ok (.iconst 0, 1) := by decide +kernel
theorem d_PS_checkOver_2 : decode c_PS_checkOver 2 = .ok (.aload_n 0, 1) := by decide +kernel
theorem d_PS_checkOver_3 : decode c_PS_checkOver 3 = .ok (.getfield 43, 3) := by decide +kernel
theorem d_PS_checkOver_6 : decode c_PS_checkOver 6 = .ok (.iconst 1, 1) := by decide +kernel
theorem d_PS_checkOver_7 : decode c_PS_checkOver 7 = .ok (.isub, 1) := by decide +kernel
theorem d_PS_checkOver_8 : decode c_PS_checkOver 8 = .ok (.invokestatic 39, 3) := by decide +kernel
theorem d_PS_checkOver_11 : decode c_PS_checkOver 11 = .ok (.return_, 1) := by decide +kernel
theorem d_PS_checkBounds_0 : decode c_PS_checkBounds 0 = .ok (.iload_n 0, 1) := by decide +kernel
theorem d_PS_checkBounds_1 : decode c_PS_checkBounds 1 = .ok (.iload_n 1, 1) := by decide +kernel
theorem d_PS_checkBounds_2 : decode c_PS_checkBounds 2 = .ok (.if_icmp .lt 8, 3) := by decide +kernel
theorem d_PS_checkBounds_5 : decode c_PS_checkBounds 5 = .ok (.iload_n 0, 1) := by decide +kernel
theorem d_PS_checkBounds_6 : decode c_PS_checkBounds 6 = .ok (.iload_n 2, 1) := by decide +kernel
theorem d_PS_checkBounds_7 : decode c_PS_checkBounds 7 = .ok (.if_icmp .le 13, 3) := by decide +kernel
theorem d_PS_checkBounds_10 : decode c_PS_checkBounds 10 = .ok (.new 153, 3) := by decide +kernel
theorem d_PS_checkBounds_13 : decode c_PS_checkBounds 13 = .ok (.dup, 1) := by decide +kernel
theorem d_PS_checkBounds_14 : decode c_PS_checkBounds 14 = .ok (.ldc 155, 2) := by decide +kernel
theorem d_PS_checkBounds_16 : decode c_PS_checkBounds 16 = .ok (.invokespecial 157, 3) := by decide +kernel
theorem d_PS_checkBounds_19 : decode c_PS_checkBounds 19 = .ok (.athrow, 1) := by decide +kernel
theorem d_PS_checkBounds_20 : decode c_PS_checkBounds 20 = .ok (.return_, 1) := by decide +kernel
theorem d_PS_checkDifferent_0 : decode c_PS_checkDifferent 0 = .ok (.iload_n 0, 1) := by decide +kernel
theorem d_PS_checkDifferent_1 : decode c_PS_checkDifferent 1 = .ok (.iload_n 1, 1) := by decide +kernel
theorem d_PS_checkDifferent_2 : decode c_PS_checkDifferent 2 = .ok (.if_icmp .ne 13, 3) := by decide +kernel
theorem d_PS_checkDifferent_5 : decode c_PS_checkDifferent 5 = .ok (.new 153, 3) := by decide +kernel
theorem d_PS_checkDifferent_8 : decode c_PS_checkDifferent 8 = .ok (.dup, 1) := by decide +kernel
theorem d_PS_checkDifferent_9 : decode c_PS_checkDifferent 9 = .ok (.ldc 160, 2) := by decide +kernel
theorem d_PS_checkDifferent_11 : decode c_PS_checkDifferent 11 = .ok (.invokespecial 157, 3) := by decide +kernel
theorem d_PS_checkDifferent_14 : decode c_PS_checkDifferent 14 = .ok (.athrow, 1) := by decide +kernel
theorem d_PS_checkDifferent_15 : decode c_PS_checkDifferent 15 = .ok (.return_, 1) := by decide +kernel
theorem d_PS_checkState_0 : decode c_PS_checkState 0 = .ok (.iload_n 0, 1) := by decide +kernel
theorem d_PS_checkState_1 : decode c_PS_checkState 1 = .ok (.ifCond .ne 13, 3) := by decide +kernel
theorem d_PS_checkState_4 : decode c_PS_checkState 4 = .ok (.new 162, 3) := by decide +kernel
theorem d_PS_checkState_7 : decode c_PS_checkState 7 = .ok (.dup, 1) := by decide +kernel
theorem d_PS_checkState_8 : decode c_PS_checkState 8 = .ok (.ldc 164, 2) := by decide +kernel
theorem d_PS_checkState_10 : decode c_PS_checkState 10 = .ok (.invokespecial 166, 3) := by decide +kernel
theorem d_PS_checkState_13 : decode c_PS_checkState 13 = .ok (.athrow, 1) := by decide +kernel
theorem d_PS_checkState_14 : decode c_PS_checkState 14 = .ok (.return_, 1) := by decide +kernel
theorem d_PS_passMinute_0 : decode c_PS_passMinute 0 = .ok (.aload_n 0, 1) := by decide +kernel
theorem d_PS_passMinute_1 : decode c_PS_passMinute 1 = .ok (.getfield 19, 3) := by decide +kernel
theorem d_PS_passMinute_4 : decode c_PS_passMinute 4 = .ok (.invokevirtual 167, 3) := by decide +kernel
theorem d_PS_passMinute_7 : decode c_PS_passMinute 7 = .ok (.iconst 0, 1) := by decide +kernel
theorem d_PS_passMinute_8 : decode c_PS_passMinute 8 = .ok (.istore_n 1, 1) := by decide +kernel
theorem d_PS_passMinute_9 : decode c_PS_passMinute 9 = .ok (.iload_n 1, 1) := by decide +kernel
theorem d_PS_passMinute_10 : decode c_PS_passMinute 10 = .ok (.aload_n 0, 1) := by decide +kernel
theorem d_PS_passMinute_11 : decode c_PS_passMinute 11 = .ok (.getfield 35, 3) := by decide +kernel
theorem d_PS_passMinute_14 : decode c_PS_passMinute 14 = .ok (.getfield 73, 3) := by decide +kernel
theorem d_PS_passMinute_17 : decode c_PS_passMinute 17 = .ok (.if_icmp .ge 30, 3) := by decide +kernel
theorem d_PS_passMinute_20 : decode c_PS_passMinute 20 = .ok (.aload_n 0, 1) := by decide +kernel
theorem d_PS_passMinute_21 : decode c_PS_passMinute 21 = .ok (.getfield 35, 3) := by decide +kernel
theorem d_PS_passMinute_24 : decode c_PS_passMinute 24 = .ok (.getfield 92, 3) := by decide +kernel
theorem d_PS_passMinute_27 : decode c_PS_passMinute 27 = .ok (.iload_n 1, 1) := by decide +kernel
theorem d_PS_passMinute_28 : decode c_PS_passMinute 28 = .ok (.iaload, 1) := by decide +kernel
theorem d_PS_passMinute_29 : decode c_PS_passMinute 29 = .ok (.aload_n 0, 1) := by decide +kernel
theorem d_PS_passMinute_30 : decode c_PS_passMinute 30 = .ok (.getfield 43, 3) := by decide +kernel
theorem d_PS_passMinute_33 : decode c_PS_passMinute 33 = .ok (.if_icmp .gt 14, 3) := by decide +kernel
theorem d_PS_passMinute_36 : decode c_PS_passMinute 36 = .ok (.aload_n 0, 1) := by decide +kernel
theorem d_PS_passMinute_37 : decode c_PS_passMinute 37 = .ok (.iload_n 1, 1) := by decide +kernel
theorem d_PS_passMinute_38 : decode c_PS_passMinute 38 = .ok (.invokevirtual 170, 3) := by decide +kernel
theorem d_PS_passMinute_41 : decode c_PS_passMinute 41 = .ok (.iinc 1 1, 3) := by decide +kernel
theorem d_PS_passMinute_44 : decode c_PS_passMinute 44 = .ok (.goto (-35), 3) := by decide +kernel
theorem d_PS_passMinute_47 : decode c_PS_passMinute 47 = .ok (.aload_n 0, 1) := by decide +kernel
theorem d_PS_passMinute_48 : decode c_PS_passMinute 48 = .ok (.getfield 10, 3) := by decide +kernel
theorem d_PS_passMinute_51 : decode c_PS_passMinute 51 = .ok (.invokevirtual 173, 3) := by decide +kernel
theorem d_PS_passMinute_54 : decode c_PS_passMinute 54 = .ok (.aload_n 0, 1) := by decide +kernel
theorem d_PS_passMinute_55 : decode c_PS_passMinute 55 = .ok (.dup, 1) := by decide +kernel
theorem d_PS_passMinute_56 : decode c_PS_passMinute 56 = .ok (.getfield 43, 3) := by decide +kernel
theorem d_PS_passMinute_59 : decode c_PS_passMinute 59 = .ok (.iconst 1, 1) := by decide +kernel
theorem d_PS_passMinute_60 : decode c_PS_passMinute 60 = .ok (.iadd, 1) := by decide +kernel
theorem d_PS_passMinute_61 : decode c_PS_passMinute 61 = .ok (.putfield 43, 3) := by decide +kernel
theorem d_PS_passMinute_64 : decode c_PS_passMinute 64 = .ok (.return_, 1) := by decide +kernel
theorem d_PS_tryStep_0 : decode c_PS_tryStep 0 = .ok (.aload_n 0, 1) := by decide +kernel
theorem d_PS_tryStep_1 : decode c_PS_tryStep 1 = .ok (.getfield 26, 3) := by decide +kernel
theorem d_PS_tryStep_4 : decode c_PS_tryStep 4 = .ok (.iload_n 1, 1) := by decide +kernel
theorem d_PS_tryStep_5 : decode c_PS_tryStep 5 = .ok (.invokevirtual 111, 3) := by decide +kernel
theorem d_PS_tryStep_8 : decode c_PS_tryStep 8 = .ok (.istore_n 2, 1) := by decide +kernel
theorem d_PS_tryStep_9 : decode c_PS_tryStep 9 = .ok (.aload_n 0, 1) := by decide +kernel
theorem d_PS_tryStep_10 : decode c_PS_tryStep 10 = .ok (.getfield 35, 3) := by decide +kernel
theorem d_PS_tryStep_13 : decode c_PS_tryStep 13 = .ok (.iload_n 1, 1) := by decide +kernel
theorem d_PS_tryStep_14 : decode c_PS_tryStep 14 = .ok (.aload_n 0, 1) := by decide +kernel
theorem d_PS_tryStep_15 : decode c_PS_tryStep 15 = .ok (.getfield 43, 3) := by decide +kernel
theorem d_PS_tryStep_18 : decode c_PS_tryStep 18 = .ok (.invokevirtual 176, 3) := by decide +kernel
theorem d_PS_tryStep_21 : decode c_PS_tryStep 21 = .ok (.istore_n 3, 1) := by decide +kernel
theorem d_PS_tryStep_22 : decode c_PS_tryStep 22 = .ok (.iload_n 2, 1) := by decide +kernel
theorem d_PS_tryStep_23 : decode c_PS_tryStep 23 = .ok (.iload_n 3, 1) := by decide +kernel
theorem d_PS_tryStep_24 : decode c_PS_tryStep 24 = .ok (.if_icmp .ne 4, 3) := by decide +kernel
theorem d_PS_tryStep_27 : decode c_PS_tryStep 27 = .ok (.return_, 1) := by decide +kernel
theorem d_PS_tryStep_28 : decode c_PS_tryStep 28 = .ok (.iload_n 2, 1) := by decide +kernel
theorem d_PS_tryStep_29 : decode c_PS_tryStep 29 = .ok (.iconst (-1), 1) := by decide +kernel
theorem d_PS_tryStep_30 : decode c_PS_tryStep 30 = .ok (.if_icmp .ne 11, 3) := by decide +kernel
theorem d_PS_tryStep_33 : decode c_PS_tryStep 33 = .ok (.aload_n 0, 1) := by decide +kernel
theorem d_PS_tryStep_34 : decode c_PS_tryStep 34 = .ok (.iload_n 1, 1) := by decide +kernel
theorem d_PS_tryStep_35 : decode c_PS_tryStep 35 = .ok (.invokevirtual 179, 3) := by decide +kernel
theorem d_PS_tryStep_38 : decode c_PS_tryStep 38 = .ok (.goto 37, 3) := by decide +kernel
theorem d_PS_tryStep_41 : decode c_PS_tryStep 41 = .ok (.iload_n 3, 1) := by decide +kernel
theorem d_PS_tryStep_42 : decode c_PS_tryStep 42 = .ok (.iconst (-1), 1) := by decide +kernel
theorem d_PS_tryStep_43 : decode c_PS_tryStep 43 = .ok (.if_icmp .eq 13, 3) := by decide +kernel
theorem d_PS_tryStep_46 : decode c_PS_tryStep 46 = .ok (.aload_n 0, 1) := by decide +kernel
theorem d_PS_tryStep_47 : decode c_PS_tryStep 47 = .ok (.iload_n 1, 1) := by decide +kernel
theorem d_PS_tryStep_48 : decode c_PS_tryStep 48 = .ok (.iload_n 2, 1) := by decide +kernel
theorem d_PS_tryStep_49 : decode c_PS_tryStep 49 = .ok (.iload_n 3, 1) := by decide +kernel
theorem d_PS_tryStep_50 : decode c_PS_tryStep 50 = .ok (.invokevirtual 182, 3) := by decide +kernel
theorem d_PS_tryStep_53 : decode c_PS_tryStep 53 = .ok (.goto 22, 3) := by decide +kernel
theorem d_PS_tryStep_56 : decode c_PS_tryStep 56 = .ok (.iload_n 2, 1) := by decide +kernel
theorem d_PS_tryStep_57 : decode c_PS_tryStep 57 = .ok (.ifCond .eq 13, 3) := by decide +kernel
theorem d_PS_tryStep_60 : decode c_PS_tryStep 60 = .ok (.aload_n 0, 1) := by decide +kernel
theorem d_PS_tryStep_61 : decode c_PS_tryStep 61 = .ok (.iload_n 1, 1) := by decide +kernel
theorem d_PS_tryStep_62 : decode c_PS_tryStep 62 = .ok (.iload_n 2, 1) := by decide +kernel
theorem d_PS_tryStep_63 : decode c_PS_tryStep 63 = .ok (.iconst 0, 1) := by decide +kernel
theorem d_PS_tryStep_64 : decode c_PS_tryStep 64 = .ok (.invokevirtual 182, 3) := by decide +kernel
theorem d_PS_tryStep_67 : decode c_PS_tryStep 67 = .ok (.goto 8, 3) := by decide +kernel
theorem d_PS_tryStep_70 : decode c_PS_tryStep 70 = .ok (.aload_n 0, 1) := by decide +kernel
theorem d_PS_tryStep_71 : decode c_PS_tryStep 71 = .ok (.iload_n 1, 1) := by decide +kernel
theorem d_PS_tryStep_72 : decode c_PS_tryStep 72 = .ok (.invokevirtual 185, 3) := by decide +kernel
theorem d_PS_tryStep_75 : decode c_PS_tryStep 75 = .ok (.return_, 1) := by decide +kernel
theorem d_PS_tryEntrance_0 : decode c_PS_tryEntrance 0 = .ok (.aload_n 0, 1) := by decide +kernel
theorem d_PS_tryEntrance_1 : decode c_PS_tryEntrance 1 = .ok (.getfield 10, 3) := by decide +kernel
theorem d_PS_tryEntrance_4 : decode c_PS_tryEntrance 4 = .ok (.iconst 0, 1) := by decide +kernel
theorem d_PS_tryEntrance_5 : decode c_PS_tryEntrance 5 = .ok (.invokevirtual 188, 3) := by decide +kernel
theorem d_PS_tryEntrance_8 : decode c_PS_tryEntrance 8 = .ok (.ifCond .ne 17, 3) := by decide +kernel
theorem d_PS_tryEntrance_11 : decode c_PS_tryEntrance 11 = .ok (.aload_n 0, 1) := by decide +kernel
theorem d_PS_tryEntrance_12 : decode c_PS_tryEntrance 12 = .ok (.getfield 35, 3) := by decide +kernel
theorem d_PS_tryEntrance_15 : decode c_PS_tryEntrance 15 = .ok (.getfield 121, 3) := by decide +kernel
theorem d_PS_tryEntrance_18 : decode c_PS_tryEntrance 18 = .ok (.iload_n 1, 1) := by decide +kernel
theorem d_PS_tryEntrance_19 : decode c_PS_tryEntrance 19 = .ok (.dup2, 1) := by decide +kernel
theorem d_PS_tryEntrance_20 : decode c_PS_tryEntrance 20 = .ok (.iaload, 1) := by decide +kernel
theorem d_PS_tryEntrance_21 : decode c_PS_tryEntrance 21 = .ok (.iconst 1, 1) := by decide +kernel
theorem d_PS_tryEntrance_22 : decode c_PS_tryEntrance 22 = .ok (.iadd, 1) := by decide +kernel
theorem d_PS_tryEntrance_23 : decode c_PS_tryEntrance 23 = .ok (.iastore, 1) := by decide +kernel
theorem d_PS_tryEntrance_24 : decode c_PS_tryEntrance 24 = .ok (.return_, 1) := by decide +kernel
theorem d_PS_tryEntrance_25 : decode c_PS_tryEntrance 25 = .ok (.aload_n 0, 1) := by decide +kernel
theorem d_PS_tryEntrance_26 : decode c_PS_tryEntrance 26 = .ok (.getfield 10, 3) := by decide +kernel
theorem d_PS_tryEntrance_29 : decode c_PS_tryEntrance 29 = .ok (.getfield 124, 3) := by decide +kernel
theorem d_PS_tryEntrance_32 : decode c_PS_tryEntrance 32 = .ok (.iconst 0, 1) := by decide +kernel
theorem d_PS_tryEntrance_33 : decode c_PS_tryEntrance 33 = .ok (.dup2, 1) := by decide +kernel
theorem d_PS_tryEntrance_34 : decode c_PS_tryEntrance 34 = .ok (.iaload, 1) := by decide +kernel
theorem d_PS_tryEntrance_35 : decode c_PS_tryEntrance 35 = .ok (.iconst 1, 1) := by decide +kernel
theorem d_PS_tryEntrance_36 : decode c_PS_tryEntrance 36 = .ok (.iadd, 1) := by decide +kernel
theorem d_PS_tryEntrance_37 : decode c_PS_tryEntrance 37 = .ok (.iastore, 1) := by decide +kernel
theorem d_PS_tryEntrance_38 : decode c_PS_tryEntrance 38 = .ok (.aload_n 0, 1) := by decide +kernel
theorem d_PS_tryEntrance_39 : decode c_PS_tryEntrance 39 = .ok (.dup, 1) := by decide +kernel
theorem d_PS_tryEntrance_40 : decode c_PS_tryEntrance 40 = .ok (.getfield 83, 3) := by decide +kernel
theorem d_PS_tryEntrance_43 : decode c_PS_tryEntrance 43 = .ok (.iconst 1, 1) := by decide +kernel
theorem d_PS_tryEntrance_44 : decode c_PS_tryEntrance 44 = .ok (.iadd, 1) := by decide +kernel
theorem d_PS_tryEntrance_45 : decode c_PS_tryEntrance 45 = .ok (.putfield 83, 3) := by decide +kernel
theorem d_PS_tryEntrance_48 : decode c_PS_tryEntrance 48 = .ok (.aload_n 0, 1) := by decide +kernel
theorem d_PS_tryEntrance_49 : decode c_PS_tryEntrance 49 = .ok (.getfield 26, 3) := by decide +kernel
theorem d_PS_tryEntrance_52 : decode c_PS_tryEntrance 52 = .ok (.iload_n 1, 1) := by decide +kernel
theorem d_PS_tryEntrance_53 : decode c_PS_tryEntrance 53 = .ok (.aload_n 0, 1) := by decide +kernel
theorem d_PS_tryEntrance_54 : decode c_PS_tryEntrance 54 = .ok (.getfield 43, 3) := by decide +kernel
theorem d_PS_tryEntrance_57 : decode c_PS_tryEntrance 57 = .ok (.iconst 0, 1) := by decide +kernel
theorem d_PS_tryEntrance_58 : decode c_PS_tryEntrance 58 = .ok (.invokevirtual 192, 3) := by decide +kernel
theorem d_PS_tryEntrance_61 : decode c_PS_tryEntrance 61 = .ok (.return_, 1) := by decide +kernel
theorem d_PS_goOut_0 : decode c_PS_goOut 0 = .ok (.aload_n 0, 1) := by decide +kernel
theorem d_PS_goOut_1 : decode c_PS_goOut 1 = .ok (.getfield 10, 3) := by decide +kernel
theorem d_PS_goOut_4 : decode c_PS_goOut 4 = .ok (.getfield 124, 3) := by decide +kernel
theorem d_PS_goOut_7 : decode c_PS_goOut 7 = .ok (.iconst 0, 1) := by decide +kernel
theorem d_PS_goOut_8 : decode c_PS_goOut 8 = .ok (.dup2, 1) := by decide +kernel
theorem d_PS_goOut_9 : decode c_PS_goOut 9 = .ok (.iaload, 1) := by decide +kernel
theorem d_PS_goOut_10 : decode c_PS_goOut 10 = .ok (.iconst 1, 1) := by decide +kernel
theorem d_PS_goOut_11 : decode c_PS_goOut 11 = .ok (.isub, 1) := by decide +kernel
theorem d_PS_goOut_12 : decode c_PS_goOut 12 = .ok (.iastore, 1) := by decide +kernel
theorem d_PS_goOut_13 : decode c_PS_goOut 13 = .ok (.aload_n 0, 1) := by decide +kernel
theorem d_PS_goOut_14 : decode c_PS_goOut 14 = .ok (.dup, 1) := by decide +kernel
theorem d_PS_goOut_15 : decode c_PS_goOut 15 = .ok (.getfield 86, 3) := by decide +kernel
theorem d_PS_goOut_18 : decode c_PS_goOut 18 = .ok (.iconst 1, 1) := by decide +kernel
theorem d_PS_goOut_19 : decode c_PS_goOut 19 = .ok (.iadd, 1) := by decide +kernel
theorem d_PS_goOut_20 : decode c_PS_goOut 20 = .ok (.putfield 86, 3) := by decide +kernel
theorem d_PS_goOut_23 : decode c_PS_goOut 23 = .ok (.aload_n 0, 1) := by decide +kernel
theorem d_PS_goOut_24 : decode c_PS_goOut 24 = .ok (.getfield 26, 3) := by decide +kernel
theorem d_PS_goOut_27 : decode c_PS_goOut 27 = .ok (.iload_n 1, 1) := by decide +kernel
theorem d_PS_goOut_28 : decode c_PS_goOut 28 = .ok (.aload_n 0, 1) := by decide +kernel
theorem d_PS_goOut_29 : decode c_PS_goOut 29 = .ok (.getfield 43, 3) := by decide +kernel
theorem d_PS_goOut_32 : decode c_PS_goOut 32 = .ok (.iconst (-1), 1) := by decide +kernel
theorem d_PS_goOut_33 : decode c_PS_goOut 33 = .ok (.invokevirtual 192, 3) := by decide +kernel
theorem d_PS_goOut_36 : decode c_PS_goOut 36 = .ok (.return_, 1) := by decide +kernel
theorem d_PS_tryDoor_0 : decode c_PS_tryDoor 0 = .ok (.aload_n 0, 1) := by decide +kernel
theorem d_PS_tryDoor_1 : decode c_PS_tryDoor 1 = .ok (.getfield 19, 3) := by decide +kernel
theorem d_PS_tryDoor_4 : decode c_PS_tryDoor 4 = .ok (.iload_n 2, 1) := by decide +kernel
theorem d_PS_tryDoor_5 : decode c_PS_tryDoor 5 = .ok (.iload_n 3, 1) := by decide +kernel
theorem d_PS_tryDoor_6 : decode c_PS_tryDoor 6 = .ok (.invokevirtual 194, 3) := by decide +kernel
theorem d_PS_tryDoor_9 : decode c_PS_tryDoor 9 = .ok (.istore 4, 2) := by decide +kernel
theorem d_PS_tryDoor_11 : decode c_PS_tryDoor 11 = .ok (.iload 4, 2) := by decide +kernel
theorem d_PS_tryDoor_13 : decode c_PS_tryDoor 13 = .ok (.iconst (-1), 1) := by decide +kernel
theorem d_PS_tryDoor_14 : decode c_PS_tryDoor 14 = .ok (.if_icmp .ne 7, 3) := by decide +kernel
theorem d_PS_tryDoor_17 : decode c_PS_tryDoor 17 = .ok (.iconst (-1), 1) := by decide +kernel
theorem d_PS_tryDoor_18 : decode c_PS_tryDoor 18 = .ok (.goto 13, 3) := by decide +kernel
theorem d_PS_tryDoor_21 : decode c_PS_tryDoor 21 = .ok (.aload_n 0, 1) := by decide +kernel
theorem d_PS_tryDoor_22 : decode c_PS_tryDoor 22 = .ok (.getfield 19, 3) := by decide +kernel
theorem d_PS_tryDoor_25 : decode c_PS_tryDoor 25 = .ok (.iload 4, 2) := by decide +kernel
theorem d_PS_tryDoor_27 : decode c_PS_tryDoor 27 = .ok (.iload_n 2, 1) := by decide +kernel
theorem d_PS_tryDoor_28 : decode c_PS_tryDoor 28 = .ok (.invokevirtual 197, 3) := by decide +kernel
theorem d_PS_tryDoor_31 : decode c_PS_tryDoor 31 = .ok (.istore 5, 2) := by decide +kernel
theorem d_PS_tryDoor_33 : decode c_PS_tryDoor 33 = .ok (.iload 5, 2) := by decide +kernel
theorem d_PS_tryDoor_35 : decode c_PS_tryDoor 35 = .ok (.iconst (-1), 1) := by decide +kernel
theorem d_PS_tryDoor_36 : decode c_PS_tryDoor 36 = .ok (.if_icmp .ne 4, 3) := by decide +kernel
theorem d_PS_tryDoor_39 : decode c_PS_tryDoor 39 = .ok (.return_, 1) := by decide +kernel
theorem d_PS_tryDoor_40 : decode c_PS_tryDoor 40 = .ok (.aload_n 0, 1) := by decide +kernel
theorem d_PS_tryDoor_41 : decode c_PS_tryDoor 41 = .ok (.getfield 10, 3) := by decide +kernel
theorem d_PS_tryDoor_44 : decode c_PS_tryDoor 44 = .ok (.iload 5, 2) := by decide +kernel
theorem d_PS_tryDoor_46 : decode c_PS_tryDoor 46 = .ok (.invokevirtual 188, 3) := by decide +kernel
theorem d_PS_tryDoor_49 : decode c_PS_tryDoor 49 = .ok (.ifCond .eq 15, 3) := by decide +kernel
theorem d_PS_tryDoor_52 : decode c_PS_tryDoor 52 = .ok (.aload_n 0, 1) := by decide +kernel
theorem d_PS_tryDoor_53 : decode c_PS_tryDoor 53 = .ok (.getfield 19, 3) := by decide +kernel
theorem d_PS_tryDoor_56 : decode c_PS_tryDoor 56 = .ok (.iload 4, 2) := by decide +kernel
theorem d_PS_tryDoor_58 : decode c_PS_tryDoor 58 = .ok (.invokevirtual 200, 3) := by decide +kernel
theorem d_PS_tryDoor_61 : decode c_PS_tryDoor 61 = .ok (.ifCond .ne 17, 3) := by decide +kernel
theorem d_PS_tryDoor_64 : decode c_PS_tryDoor 64 = .ok (.aload_n 0, 1) := by decide +kernel
theorem d_PS_tryDoor_65 : decode c_PS_tryDoor 65 = .ok (.getfield 35, 3) := by decide +kernel
theorem d_PS_tryDoor_68 : decode c_PS_tryDoor 68 = .ok (.getfield 121, 3) := by decide +kernel
theorem d_PS_tryDoor_71 : decode c_PS_tryDoor 71 = .ok (.iload_n 1, 1) := by decide +kernel
theorem d_PS_tryDoor_72 : decode c_PS_tryDoor 72 = .ok (.dup2, 1) := by decide +kernel
theorem d_PS_tryDoor_73 : decode c_PS_tryDoor 73 = .ok (.iaload, 1) := by decide +kernel
theorem d_PS_tryDoor_74 : decode c_PS_tryDoor 74 = .ok (.iconst 1, 1) := by decide +kernel
theorem d_PS_tryDoor_75 : decode c_PS_tryDoor 75 = .ok (.iadd, 1) := by decide +kernel
theorem d_PS_tryDoor_76 : decode c_PS_tryDoor 76 = .ok (.iastore, 1) := by decide +kernel
theorem d_PS_tryDoor_77 : decode c_PS_tryDoor 77 = .ok (.return_, 1) := by decide +kernel
theorem d_PS_tryDoor_78 : decode c_PS_tryDoor 78 = .ok (.aload_n 0, 1) := by decide +kernel
theorem d_PS_tryDoor_79 : decode c_PS_tryDoor 79 = .ok (.getfield 19, 3) := by decide +kernel
theorem d_PS_tryDoor_82 : decode c_PS_tryDoor 82 = .ok (.iload 4, 2) := by decide +kernel
theorem d_PS_tryDoor_84 : decode c_PS_tryDoor 84 = .ok (.iload_n 2, 1) := by decide +kernel
theorem d_PS_tryDoor_85 : decode c_PS_tryDoor 85 = .ok (.invokevirtual 203, 3) := by decide +kernel
theorem d_PS_tryDoor_88 : decode c_PS_tryDoor 88 = .ok (.aload_n 0, 1) := by decide +kernel
theorem d_PS_tryDoor_89 : decode c_PS_tryDoor 89 = .ok (.getfield 10, 3) := by decide +kernel
theorem d_PS_tryDoor_92 : decode c_PS_tryDoor 92 = .ok (.getfield 124, 3) := by decide +kernel
theorem d_PS_tryDoor_95 : decode c_PS_tryDoor 95 = .ok (.iload_n 2, 1) := by decide +kernel
theorem d_PS_tryDoor_96 : decode c_PS_tryDoor 96 = .ok (.dup2, 1) := by decide +kernel
theorem d_PS_tryDoor_97 : decode c_PS_tryDoor 97 = .ok (.iaload, 1) := by decide +kernel
theorem d_PS_tryDoor_98 : decode c_PS_tryDoor 98 = .ok (.iconst 1, 1) := by decide +kernel
theorem d_PS_tryDoor_99 : decode c_PS_tryDoor 99 = .ok (.isub, 1) := by decide +kernel
theorem d_PS_tryDoor_100 : decode c_PS_tryDoor 100 = .ok (.iastore, 1) := by decide +kernel
theorem d_PS_tryDoor_101 : decode c_PS_tryDoor 101 = .ok (.aload_n 0, 1) := by decide +kernel
theorem d_PS_tryDoor_102 : decode c_PS_tryDoor 102 = .ok (.getfield 10, 3) := by decide +kernel
theorem d_PS_tryDoor_105 : decode c_PS_tryDoor 105 = .ok (.getfield 124, 3) := by decide +kernel
theorem d_PS_tryDoor_108 : decode c_PS_tryDoor 108 = .ok (.iload 5, 2) := by decide +kernel
theorem d_PS_tryDoor_110 : decode c_PS_tryDoor 110 = .ok (.dup2, 1) := by decide +kernel
theorem d_PS_tryDoor_111 : decode c_PS_tryDoor 111 = .ok (.iaload, 1) := by decide +kernel
theorem d_PS_tryDoor_112 : decode c_PS_tryDoor 112 = .ok (.iconst 1, 1) := by decide +kernel
theorem d_PS_tryDoor_113 : decode c_PS_tryDoor 113 = .ok (.iadd, 1) := by decide +kernel
theorem d_PS_tryDoor_114 : decode c_PS_tryDoor 114 = .ok (.iastore, 1) := by decide +kernel
theorem d_PS_tryDoor_115 : decode c_PS_tryDoor 115 = .ok (.aload_n 0, 1) := by decide +kernel
theorem d_PS_tryDoor_116 : decode c_PS_tryDoor 116 = .ok (.getfield 26, 3) := by decide +kernel
theorem d_PS_tryDoor_119 : decode c_PS_tryDoor 119 = .ok (.iload_n 1, 1) := by decide +kernel
theorem d_PS_tryDoor_120 : decode c_PS_tryDoor 120 = .ok (.aload_n 0, 1) := by decide +kernel
theorem d_PS_tryDoor_121 : decode c_PS_tryDoor 121 = .ok (.getfield 43, 3) := by decide +kernel
theorem d_PS_tryDoor_124 : decode c_PS_tryDoor 124 = .ok (.iload 5, 2) := by decide +kernel
theorem d_PS_tryDoor_126 : decode c_PS_tryDoor 126 = .ok (.invokevirtual 192, 3) := by decide +kernel
theorem d_PS_tryDoor_129 : decode c_PS_tryDoor 129 = .ok (.return_, 1) := by decide +kernel
