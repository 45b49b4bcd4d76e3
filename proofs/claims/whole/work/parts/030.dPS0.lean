theorem d_PS_init_0 : decode c_PS_init 0 = .ok (.aload_n 0, 1) := by decide +kernel
theorem d_PS_init_1 : decode c_PS_init 1 = .ok (.invokespecial 1, 3) := by decide +kernel
theorem d_PS_init_4 : decode c_PS_init 4 = .ok (.aload_n 0, 1) := by decide +kernel
theorem d_PS_init_5 : decode c_PS_init 5 = .ok (.new 7, 3) := by decide +kernel
theorem d_PS_init_8 : decode c_PS_init 8 = .ok (.dup, 1) := by decide +kernel
theorem d_PS_init_9 : decode c_PS_init 9 = .ok (.invokespecial 9, 3) := by decide +kernel
theorem d_PS_init_12 : decode c_PS_init 12 = .ok (.putfield 10, 3) := by decide +kernel
theorem d_PS_init_15 : decode c_PS_init 15 = .ok (.aload_n 0, 1) := by decide +kernel
theorem d_PS_init_16 : decode c_PS_init 16 = .ok (.new 16, 3) := by decide +kernel
theorem d_PS_init_19 : decode c_PS_init 19 = .ok (.dup, 1) := by decide +kernel
theorem d_PS_init_20 : decode c_PS_init 20 = .ok (.invokespecial 18, 3) := by decide +kernel
theorem d_PS_init_23 : decode c_PS_init 23 = .ok (.putfield 19, 3) := by decide +kernel
theorem d_PS_init_26 : decode c_PS_init 26 = .ok (.aload_n 0, 1) := by decide +kernel
theorem d_PS_init_27 : decode c_PS_init 27 = .ok (.new 23, 3) := by decide +kernel
theorem d_PS_init_30 : decode c_PS_init 30 = .ok (.dup, 1) := by decide +kernel
theorem d_PS_init_31 : decode c_PS_init 31 = .ok (.invokespecial 25, 3) := by decide +kernel
theorem d_PS_init_34 : decode c_PS_init 34 = .ok (.putfield 26, 3) := by decide +kernel
theorem d_PS_init_37 : decode c_PS_init 37 = .ok (.aload_n 0, 1) := by decide +kernel
theorem d_PS_init_38 : decode c_PS_init 38 = .ok (.new 30, 3) := by decide +kernel
theorem d_PS_init_41 : decode c_PS_init 41 = .ok (.dup, 1) := by decide +kernel
theorem d_PS_init_42 : decode c_PS_init 42 = .ok (.lload_n 1, 1) := by decide +kernel
theorem d_PS_init_43 : decode c_PS_init 43 = .ok (.invokespecial 32, 3) := by decide +kernel
theorem d_PS_init_46 : decode c_PS_init 46 = .ok (.putfield 35, 3) := by decide +kernel
theorem d_PS_init_49 : decode c_PS_init 49 = .ok (.return_, 1) := by decide +kernel
theorem d_PS_room_0 : decode c_PS_room 0 = .ok (.iload_n 1, 1) := by decide +kernel
theorem d_PS_room_1 : decode c_PS_room 1 = .ok (.iconst 1, 1) := by decide +kernel
theorem d_PS_room_2 : decode c_PS_room 2 = .ok (.bipush 100, 2) := by decide +kernel
theorem d_PS_room_4 : decode c_PS_room 4 = .ok (.invokestatic 39, 3) := by decide +kernel
theorem d_PS_room_7 : decode c_PS_room 7 = .ok (.aload_n 0, 1) := by decide +kernel
theorem d_PS_room_8 : decode c_PS_room 8 = .ok (.getfield 43, 3) := by decide +kernel
theorem d_PS_room_11 : decode c_PS_room 11 = .ok (.ifCond .ne 19, 3) := by decide +kernel
theorem d_PS_room_14 : decode c_PS_room 14 = .ok (.aload_n 0, 1) := by decide +kernel
theorem d_PS_room_15 : decode c_PS_room 15 = .ok (.getfield 10, 3) := by decide +kernel
theorem d_PS_room_18 : decode c_PS_room 18 = .ok (.getfield 47, 3) := by decide +kernel
theorem d_PS_room_21 : decode c_PS_room 21 = .ok (.bipush 12, 2) := by decide +kernel
theorem d_PS_room_23 : decode c_PS_room 23 = .ok (.if_icmp .ge 7, 3) := by decide +kernel
theorem d_PS_room_26 : decode c_PS_room 26 = .ok (.iconst 1, 1) := by decide +kernel
theorem d_PS_room_27 : decode c_PS_room 27 = .ok (.goto 4, 3) := by decide +kernel
theorem d_PS_room_30 : decode c_PS_room 30 = .ok (.iconst 0, 1) := by decide +kernel
theorem d_PS_room_31 : decode c_PS_room 31 = .ok (.invokestatic 50, 3) := by decide +kernel
theorem d_PS_room_34 : decode c_PS_room 34 = .ok (.aload_n 0, 1) := by decide +kernel
theorem d_PS_room_35 : decode c_PS_room 35 = .ok (.getfield 10, 3) := by decide +kernel
theorem d_PS_room_38 : decode c_PS_room 38 = .ok (.iload_n 1, 1) := by decide +kernel
theorem d_PS_room_39 : decode c_PS_room 39 = .ok (.invokevirtual 54, 3) := by decide +kernel
theorem d_PS_room_42 : decode c_PS_room 42 = .ok (.istore_n 2, 1) := by decide +kernel
theorem d_PS_room_43 : decode c_PS_room 43 = .ok (.aload_n 0, 1) := by decide +kernel
theorem d_PS_room_44 : decode c_PS_room 44 = .ok (.getfield 35, 3) := by decide +kernel
theorem d_PS_room_47 : decode c_PS_room 47 = .ok (.aload_n 0, 1) := by decide +kernel
theorem d_PS_room_48 : decode c_PS_room 48 = .ok (.getfield 10, 3) := by decide +kernel
theorem d_PS_room_51 : decode c_PS_room 51 = .ok (.getfield 47, 3) := by decide +kernel
theorem d_PS_room_54 : decode c_PS_room 54 = .ok (.invokevirtual 58, 3) := by decide +kernel
theorem d_PS_room_57 : decode c_PS_room 57 = .ok (.iload_n 2, 1) := by decide +kernel
theorem d_PS_room_58 : decode c_PS_room 58 = .ok (.ireturn, 1) := by decide +kernel
theorem d_PS_door_0 : decode c_PS_door 0 = .ok (.aload_n 0, 1) := by decide +kernel
theorem d_PS_door_1 : decode c_PS_door 1 = .ok (.iload_n 1, 1) := by decide +kernel
theorem d_PS_door_2 : decode c_PS_door 2 = .ok (.invokevirtual 62, 3) := by decide +kernel
theorem d_PS_door_5 : decode c_PS_door 5 = .ok (.aload_n 0, 1) := by decide +kernel
theorem d_PS_door_6 : decode c_PS_door 6 = .ok (.iload_n 2, 1) := by decide +kernel
theorem d_PS_door_7 : decode c_PS_door 7 = .ok (.invokevirtual 62, 3) := by decide +kernel
theorem d_PS_door_10 : decode c_PS_door 10 = .ok (.iload_n 3, 1) := by decide +kernel
theorem d_PS_door_11 : decode c_PS_door 11 = .ok (.iconst 1, 1) := by decide +kernel
theorem d_PS_door_12 : decode c_PS_door 12 = .ok (.bipush 20, 2) := by decide +kernel
theorem d_PS_door_14 : decode c_PS_door 14 = .ok (.invokestatic 39, 3) := by decide +kernel
theorem d_PS_door_17 : decode c_PS_door 17 = .ok (.iload_n 1, 1) := by decide +kernel
theorem d_PS_door_18 : decode c_PS_door 18 = .ok (.iload_n 2, 1) := by decide +kernel
theorem d_PS_door_19 : decode c_PS_door 19 = .ok (.invokestatic 65, 3) := by decide +kernel
theorem d_PS_door_22 : decode c_PS_door 22 = .ok (.aload_n 0, 1) := by decide +kernel
theorem d_PS_door_23 : decode c_PS_door 23 = .ok (.getfield 43, 3) := by decide +kernel
theorem d_PS_door_26 : decode c_PS_door 26 = .ok (.ifCond .ne 19, 3) := by decide +kernel
theorem d_PS_door_29 : decode c_PS_door 29 = .ok (.aload_n 0, 1) := by decide +kernel
theorem d_PS_door_30 : decode c_PS_door 30 = .ok (.getfield 19, 3) := by decide +kernel
theorem d_PS_door_33 : decode c_PS_door 33 = .ok (.getfield 69, 3) := by decide +kernel
theorem d_PS_door_36 : decode c_PS_door 36 = .ok (.bipush 16, 2) := by decide +kernel
theorem d_PS_door_38 : decode c_PS_door 38 = .ok (.if_icmp .ge 7, 3) := by decide +kernel
theorem d_PS_door_41 : decode c_PS_door 41 = .ok (.iconst 1, 1) := by decide +kernel
theorem d_PS_door_42 : decode c_PS_door 42 = .ok (.goto 4, 3) := by decide +kernel
theorem d_PS_door_45 : decode c_PS_door 45 = .ok (.iconst 0, 1) := by decide +kernel
theorem d_PS_door_46 : decode c_PS_door 46 = .ok (.invokestatic 50, 3) := by decide +kernel
theorem d_PS_door_49 : decode c_PS_door 49 = .ok (.aload_n 0, 1) := by decide +kernel
theorem d_PS_door_50 : decode c_PS_door 50 = .ok (.getfield 19, 3) := by decide +kernel
theorem d_PS_door_53 : decode c_PS_door 53 = .ok (.iload_n 1, 1) := by decide +kernel
theorem d_PS_door_54 : decode c_PS_door 54 = .ok (.iload_n 2, 1) := by decide +kernel
theorem d_PS_door_55 : decode c_PS_door 55 = .ok (.iload_n 3, 1) := by decide +kernel
theorem d_PS_door_56 : decode c_PS_door 56 = .ok (.invokevirtual 70, 3) := by decide +kernel
theorem d_PS_door_59 : decode c_PS_door 59 = .ok (.ireturn, 1) := by decide +kernel
theorem d_PS_arrives_0 : decode c_PS_arrives 0 = .ok (.iload_n 1, 1) := by decide +kernel
theorem d_PS_arrives_1 : decode c_PS_arrives 1 = .ok (.iconst 0, 1) := by decide +kernel
theorem d_PS_arrives_2 : decode c_PS_arrives 2 = .ok (.sipush 1439, 3) := by decide +kernel
theorem d_PS_arrives_5 : decode c_PS_arrives 5 = .ok (.invokestatic 39, 3) := by decide +kernel
theorem d_PS_arrives_8 : decode c_PS_arrives 8 = .ok (.iload_n 2, 1) := by decide +kernel
theorem d_PS_arrives_9 : decode c_PS_arrives 9 = .ok (.iconst 1, 1) := by decide +kernel
theorem d_PS_arrives_10 : decode c_PS_arrives 10 = .ok (.bipush 20, 2) := by decide +kernel
theorem d_PS_arrives_12 : decode c_PS_arrives 12 = .ok (.invokestatic 39, 3) := by decide +kernel
theorem d_PS_arrives_15 : decode c_PS_arrives 15 = .ok (.aload_n 0, 1) := by decide +kernel
theorem d_PS_arrives_16 : decode c_PS_arrives 16 = .ok (.getfield 43, 3) := by decide +kernel
theorem d_PS_arrives_19 : decode c_PS_arrives 19 = .ok (.ifCond .ne 31, 3) := by decide +kernel
theorem d_PS_arrives_22 : decode c_PS_arrives 22 = .ok (.aload_n 0, 1) := by decide +kernel
theorem d_PS_arrives_23 : decode c_PS_arrives 23 = .ok (.getfield 10, 3) := by decide +kernel
theorem d_PS_arrives_26 : decode c_PS_arrives 26 = .ok (.getfield 47, 3) := by decide +kernel
theorem d_PS_arrives_29 : decode c_PS_arrives 29 = .ok (.ifCond .le 21, 3) := by decide +kernel
theorem d_PS_arrives_32 : decode c_PS_arrives 32 = .ok (.aload_n 0, 1) := by decide +kernel
theorem d_PS_arrives_33 : decode c_PS_arrives 33 = .ok (.getfield 35, 3) := by decide +kernel
theorem d_PS_arrives_36 : decode c_PS_arrives 36 = .ok (.getfield 73, 3) := by decide +kernel
theorem d_PS_arrives_39 : decode c_PS_arrives 39 = .ok (.iload_n 2, 1) := by decide +kernel
theorem d_PS_arrives_40 : decode c_PS_arrives 40 = .ok (.iadd, 1) := by decide +kernel
theorem d_PS_arrives_41 : decode c_PS_arrives 41 = .ok (.bipush 60, 2) := by decide +kernel
theorem d_PS_arrives_43 : decode c_PS_arrives 43 = .ok (.if_icmp .gt 7, 3) := by decide +kernel
theorem d_PS_arrives_46 : decode c_PS_arrives 46 = .ok (.iconst 1, 1) := by decide +kernel
theorem d_PS_arrives_47 : decode c_PS_arrives 47 = .ok (.goto 4, 3) := by decide +kernel
theorem d_PS_arrives_50 : decode c_PS_arrives 50 = .ok (.iconst 0, 1) := by decide +kernel
theorem d_PS_arrives_51 : decode c_PS_arrives 51 = .ok (.invokestatic 50, 3) := by decide +kernel
theorem d_PS_arrives_54 : decode c_PS_arrives 54 = .ok (.aload_n 0, 1) := by decide +kernel
theorem d_PS_arrives_55 : decode c_PS_arrives 55 = .ok (.getfield 35, 3) := by decide +kernel
theorem d_PS_arrives_58 : decode c_PS_arrives 58 = .ok (.iload_n 1, 1) := by decide +kernel
theorem d_PS_arrives_59 : decode c_PS_arrives 59 = .ok (.iload_n 2, 1) := by decide +kernel
theorem d_PS_arrives_60 : decode c_PS_arrives 60 = .ok (.invokevirtual 74, 3) := by decide +kernel
theorem d_PS_arrives_63 : decode c_PS_arrives 63 = .ok (.aload_n 0, 1) := by decide +kernel
theorem d_PS_arrives_64 : decode c_PS_arrives 64 = .ok (.getfield 35, 3) := by decide +kernel
theorem d_PS_arrives_67 : decode c_PS_arrives 67 = .ok (.aload_n 0, 1) := by decide +kernel
theorem d_PS_arrives_68 : decode c_PS_arrives 68 = .ok (.getfield 10, 3) := by decide +kernel
theorem d_PS_arrives_71 : decode c_PS_arrives 71 = .ok (.getfield 47, 3) := by decide +kernel
theorem d_PS_arrives_74 : decode c_PS_arrives 74 = .ok (.invokevirtual 58, 3) := by decide +kernel
theorem d_PS_arrives_77 : decode c_PS_arrives 77 = .ok (.aload_n 0, 1) := by decide +kernel
theorem d_PS_arrives_78 : decode c_PS_arrives 78 = .ok (.getfield 35, 3) := by decide +kernel
theorem d_PS_arrives_81 : decode c_PS_arrives 81 = .ok (.getfield 73, 3) := by decide +kernel
theorem d_PS_arrives_84 : decode c_PS_arrives 84 = .ok (.ireturn, 1) := by decide +kernel
theorem d_PS_draw_0 : decode c_PS_draw 0 = .ok (.iload_n 1, 1) := by decide +kernel
theorem d_PS_draw_1 : decode c_PS_draw 1 = .ok (.iconst 0, 1) := by decide +kernel
theorem d_PS_draw_2 : decode c_PS_draw 2 = .ok (.bipush 59, 2) := by decide +kernel
theorem d_PS_draw_4 : decode c_PS_draw 4 = .ok (.invokestatic 39, 3) := by decide +kernel
theorem d_PS_draw_7 : decode c_PS_draw 7 = .ok (.iload_n 2, 1) := by decide +kernel
theorem d_PS_draw_8 : decode c_PS_draw 8 = .ok (.iconst 0, 1) := by decide +kernel
theorem d_PS_draw_9 : decode c_PS_draw 9 = .ok (.bipush 7, 2) := by decide +kernel
theorem d_PS_draw_11 : decode c_PS_draw 11 = .ok (.invokestatic 39, 3) := by decide +kernel
theorem d_PS_draw_14 : decode c_PS_draw 14 = .ok (.iload_n 3, 1) := by decide +kernel
theorem d_PS_draw_15 : decode c_PS_draw 15 = .ok (.iconst 1, 1) := by decide +kernel
theorem d_PS_draw_16 : decode c_PS_draw 16 = .ok (.ldc 76, 2) := by decide +kernel
theorem d_PS_draw_18 : decode c_PS_draw 18 = .ok (.invokestatic 39, 3) := by decide +kernel
theorem d_PS_draw_21 : decode c_PS_draw 21 = .ok (.aload_n 0, 1) := by decide +kernel
theorem d_PS_draw_22 : decode c_PS_draw 22 = .ok (.getfield 35, 3) := by decide +kernel
theorem d_PS_draw_25 : decode c_PS_draw 25 = .ok (.iload_n 1, 1) := by decide +kernel
theorem d_PS_draw_26 : decode c_PS_draw 26 = .ok (.iload_n 2, 1) := by decide +kernel
theorem d_PS_draw_27 : decode c_PS_draw 27 = .ok (.iload_n 3, 1) := by decide +kernel
theorem d_PS_draw_28 : decode c_PS_draw 28 = .ok (.invokevirtual 77, 3) := by decide +kernel
theorem d_PS_draw_31 : decode c_PS_draw 31 = .ok (.ireturn, 1) := by decide +kernel
theorem d_PS_run_0 : decode c_PS_run 0 = .ok (.iload_n 1, 1) := by decide +kernel
theorem d_PS_run_1 : decode c_PS_run 1 = .ok (.iconst 1, 1) := by decide +kernel
theorem d_PS_run_2 : decode c_PS_run 2 = .ok (.sipush 500, 3) := by decide +kernel
theorem d_PS_run_5 : decode c_PS_run 5 = .ok (.invokestatic 39, 3) := by decide +kernel
theorem d_PS_run_8 : decode c_PS_run 8 = .ok (.aload_n 0, 1) := by decide +kernel
theorem d_PS_run_9 : decode c_PS_run 9 = .ok (.getfield 10, 3) := by decide +kernel
theorem d_PS_run_12 : decode c_PS_run 12 = .ok (.getfield 47, 3) := by decide +kernel
theorem d_PS_run_15 : decode c_PS_run 15 = .ok (.ifCond .le 19, 3) := by decide +kernel
theorem d_PS_run_18 : decode c_PS_run 18 = .ok (.aload_n 0, 1) := by decide +kernel
theorem d_PS_run_19 : decode c_PS_run 19 = .ok (.getfield 43, 3) := by decide +kernel
theorem d_PS_run_22 : decode c_PS_run 22 = .ok (.iload_n 1, 1) := by decide +kernel
theorem d_PS_run_23 : decode c_PS_run 23 = .ok (.iadd, 1) := by decide +kernel
theorem d_PS_run_24 : decode c_PS_run 24 = .ok (.sipush 2000, 3) := by decide +kernel
theorem d_PS_run_27 : decode c_PS_run 27 = .ok (.if_icmp .gt 7, 3) := by decide +kernel
theorem d_PS_run_30 : decode c_PS_run 30 = .ok (.iconst 1, 1) := by decide +kernel
theorem d_PS_run_31 : decode c_PS_run 31 = .ok (.goto 4, 3) := by decide +kernel
theorem d_PS_run_34 : decode c_PS_run 34 = .ok (.iconst 0, 1) := by decide +kernel
theorem d_PS_run_35 : decode c_PS_run 35 = .ok (.invokestatic 50, 3) := by decide +kernel
theorem d_PS_run_38 : decode c_PS_run 38 = .ok (.iconst 0, 1) := by decide +kernel
theorem d_PS_run_39 : decode c_PS_run 39 = .ok (.istore_n 2, 1) := by decide +kernel
theorem d_PS_run_40 : decode c_PS_run 40 = .ok (.iload_n 2, 1) := by decide +kernel
theorem d_PS_run_41 : decode c_PS_run 41 = .ok (.iload_n 1, 1) := by decide +kernel
theorem d_PS_run_42 : decode c_PS_run 42 = .ok (.if_icmp .ge 13, 3) := by decide +kernel
theorem d_PS_run_45 : decode c_PS_run 45 = .ok (.aload_n 0, 1) := by decide +kernel
theorem d_PS_run_46 : decode c_PS_run 46 = .ok (.invokevirtual 80, 3) := by decide +kernel
theorem d_PS_run_49 : decode c_PS_run 49 = .ok (.iinc 2 1, 3) := by decide +kernel
theorem d_PS_run_52 : decode c_PS_run 52 = .ok (.goto (-12), 3) := by decide +kernel
theorem d_PS_run_55 : decode c_PS_run 55 = .ok (.aload_n 0, 1) := by decide +kernel
theorem d_PS_run_56 : decode c_PS_run 56 = .ok (.getfield 83, 3) := by decide +kernel
theorem d_PS_run_59 : decode c_PS_run 59 = .ok (.aload_n 0, 1) := by decide +kernel
theorem d_PS_run_60 : decode c_PS_run 60 = .ok (.getfield 86, 3) := by decide +kernel
theorem d_PS_run_63 : decode c_PS_run 63 = .ok (.isub, 1) := by decide +kernel
theorem d_PS_run_64 : decode c_PS_run 64 = .ok (.ireturn, 1) := by decide +kernel
theorem d_PS_person_0 : decode c_PS_person 0 = .ok (.aload_n 0, 1) := by decide +kernel
theorem d_PS_person_1 : decode c_PS_person 1 = .ok (.iload_n 1, 1) := by decide +kernel
theorem d_PS_person_2 : decode c_PS_person 2 = .ok (.invokevirtual 89, 3) := by decide +kernel
theorem d_PS_person_5 : decode c_PS_person 5 = .ok (.iload_n 2, 1) := by decide +kernel
theorem d_PS_person_6 : decode c_PS_person 6 = .ok (.iconst 0, 1) := by decide +kernel
theorem d_PS_person_7 : decode c_PS_person 7 = .ok (.iconst 5, 1) := by decide +kernel
theorem d_PS_person_8 : decode c_PS_person 8 = .ok (.invokestatic 39, 3) := by decide +kernel
theorem d_PS_person_11 : decode c_PS_person 11 = .ok (.iload_n 2, 1) := by decide +kernel
theorem d_PS_person_12 : decode c_PS_person 12 = .ok (.tableswitch 86 0 4 #[36, 46, 56, 66, 76], 36) := by decide +kernel
theorem d_PS_person_48 : decode c_PS_person 48 = .ok (.aload_n 0, 1) := by decide +kernel
theorem d_PS_person_49 : decode c_PS_person 49 = .ok (.getfield 35, 3) := by decide +kernel
theorem d_PS_person_52 : decode c_PS_person 52 = .ok (.getfield 92, 3) := by decide +kernel
theorem d_PS_person_55 : decode c_PS_person 55 = .ok (.iload_n 1, 1) := by decide +kernel
theorem d_PS_person_56 : decode c_PS_person 56 = .ok (.iaload, 1) := by decide +kernel
theorem d_PS_person_57 : decode c_PS_person 57 = .ok (.ireturn, 1) := by decide +kernel
theorem d_PS_person_58 : decode c_PS_person 58 = .ok (.aload_n 0, 1) := by decide +kernel
theorem d_PS_person_59 : decode c_PS_person 59 = .ok (.getfield 35, 3) := by decide +kernel
theorem d_PS_person_62 : decode c_PS_person 62 = .ok (.getfield 96, 3) := by decide +kernel
theorem d_PS_person_65 : decode c_PS_person 65 = .ok (.iload_n 1, 1) := by decide +kernel
theorem d_PS_person_66 : decode c_PS_person 66 = .ok (.iaload, 1) := by decide +kernel
theorem d_PS_person_67 : decode c_PS_person 67 = .ok (.ireturn, 1) := by decide +kernel
theorem d_PS_person_68 : decode c_PS_person 68 = .ok (.aload_n 0, 1) := by decide +kernel
theorem d_PS_person_69 : decode c_PS_person 69 = .ok (.getfield 35, 3) := by decide +kernel
theorem d_PS_person_72 : decode c_PS_person 72 = .ok (.getfield 99, 3) := by decide +kernel
theorem d_PS_person_75 : decode c_PS_person 75 = .ok (.iload_n 1, 1) := by decide +kernel
theorem d_PS_person_76 : decode c_PS_person 76 = .ok (.iaload, 1) := by decide +kernel
theorem d_PS_person_77 : decode c_PS_person 77 = .ok (.ireturn, 1) := by decide +kernel
theorem d_PS_person_78 : decode c_PS_person 78 = .ok (.aload_n 0, 1) := by decide +kernel
theorem d_PS_person_79 : decode c_PS_person 79 = .ok (.getfield 35, 3) := by decide +kernel
theorem d_PS_person_82 : decode c_PS_person 82 = .ok (.getfield 102, 3) := by decide +kernel
theorem d_PS_person_85 : decode c_PS_person 85 = .ok (.iload_n 1, 1) := by decide +kernel
theorem d_PS_person_86 : decode c_PS_person 86 = .ok (.iaload, 1) := by decide +kernel
theorem d_PS_person_87 : decode c_PS_person 87 = .ok (.ireturn, 1) := by decide +kernel
theorem d_PS_person_88 : decode c_PS_person 88 = .ok (.aload_n 0, 1) := by decide +kernel
theorem d_PS_person_89 : decode c_PS_person 89 = .ok (.getfield 35, 3) := by decide +kernel
theorem d_PS_person_92 : decode c_PS_person 92 = .ok (.getfield 105, 3) := by decide +kernel
theorem d_PS_person_95 : decode c_PS_person 95 = .ok (.iload_n 1, 1) := by decide +kernel
theorem d_PS_person_96 : decode c_PS_person 96 = .ok (.iaload, 1) := by decide +kernel
theorem d_PS_person_97 : decode c_PS_person 97 = .ok (.ireturn, 1) := by decide +kernel
theorem d_PS_person_98 : decode c_PS_person 98 = .ok (.aload_n 0, 1) := by decide +kernel
theorem d_PS_person_99 : decode c_PS_person 99 = .ok (.getfield 35, 3) := by decide +kernel
theorem d_PS_person_102 : decode c_PS_person 102 = .ok (.getfield 108, 3) := by decide +kernel
theorem d_PS_person_105 : decode c_PS_person 105 = .ok (.iload_n 1, 1) := by decide +kernel
theorem d_PS_person_106 : decode c_PS_person 106 = .ok (.iaload, 1) := by decide +kernel
theorem d_PS_person_107 : decode c_PS_person 107 = .ok (.ireturn, 1) := by decide +kernel
theorem d_PS_at_0 : decode c_PS_at 0 = .ok (.aload_n 0, 1) := by decide +kernel
theorem d_PS_at_1 : decode c_PS_at 1 = .ok (.iload_n 1, 1) := by decide +kernel
theorem d_PS_at_2 : decode c_PS_at 2 = .ok (.invokevirtual 89, 3) := by decide +kernel
theorem d_PS_at_5 : decode c_PS_at 5 = .ok (.aload_n 0, 1) := by decide +kernel
theorem d_PS_at_6 : decode c_PS_at 6 = .ok (.getfield 26, 3) := by decide +kernel
theorem d_PS_at_9 : decode c_PS_at 9 = .ok (.iload_n 1, 1) := by decide +kernel
theorem d_PS_at_10 : decode c_PS_at 10 = .ok (.invokevirtual 111, 3) := by decide +kernel
theorem d_PS_at_13 : decode c_PS_at 13 = .ok (.ireturn, 1) := by decide +kernel
theorem d_PS_was_0 : decode c_PS_was 0 = .ok (.aload_n 0, 1) := by decide +kernel
theorem d_PS_was_1 : decode c_PS_was 1 = .ok (.iload_n 1, 1) := by decide +kernel
theorem d_PS_was_2 : decode c_PS_was 2 = .ok (.invokevirtual 89, 3) := by decide +kernel
theorem d_PS_was_5 : decode c_PS_was 5 = .ok (.aload_n 0, 1) := by decide +kernel
theorem d_PS_was_6 : decode c_PS_was 6 = .ok (.iload_n 2, 1) := by decide +kernel
theorem d_PS_was_7 : decode c_PS_was 7 = .ok (.invokevirtual 114, 3) := by decide +kernel
theorem d_PS_was_10 : decode c_PS_was 10 = .ok (.aload_n 0, 1) := by decide +kernel
theorem d_PS_was_11 : decode c_PS_was 11 = .ok (.getfield 26, 3) := by decide +kernel
theorem d_PS_was_14 : decode c_PS_was 14 = .ok (.iload_n 1, 1) := by decide +kernel
theorem d_PS_was_15 : decode c_PS_was 15 = .ok (.iload_n 2, 1) := by decide +kernel
theorem d_PS_was_16 : decode c_PS_was 16 = .ok (.invokevirtual 117, 3) := by decide +kernel
theorem d_PS_was_19 : decode c_PS_was 19 = .ok (.ireturn, 1) := by decide +kernel
theorem d_PS_waited_0 : decode c_PS_waited 0 = .ok (.aload_n 0, 1) := by decide +kernel
theorem d_PS_waited_1 : decode c_PS_waited 1 = .ok (.iload_n 1, 1) := by decide +kernel
theorem d_PS_waited_2 : decode c_PS_waited 2 = .ok (.invokevirtual 89, 3) := by decide +kernel
theorem d_PS_waited_5 : decode c_PS_waited 5 = .ok (.aload_n 0, 1) := by decide +kernel
theorem d_PS_waited_6 : decode c_PS_waited 6 = .ok (.getfield 35, 3) := by decide +kernel
theorem d_PS_waited_9 : decode c_PS_waited 9 = .ok (.getfield 121, 3) := by decide +kernel
theorem d_PS_waited_12 : decode c_PS_waited 12 = .ok (.iload_n 1, 1) := by decide +kernel
theorem d_PS_waited_13 : decode c_PS_waited 13 = .ok (.iaload, 1) := by decide +kernel
theorem d_PS_waited_14 : decode c_PS_waited 14 = .ok (.ireturn, 1) := by decide +kernel
theorem d_PS_in_0 : decode c_PS_in 0 = .ok (.aload_n 0, 1) := by decide +kernel
theorem d_PS_in_1 : decode c_PS_in 1 = .ok (.iload_n 1, 1) := by decide +kernel
theorem d_PS_in_2 : decode c_PS_in 2 = .ok (.invokevirtual 62, 3) := by decide +kernel
theorem d_PS_in_5 : decode c_PS_in 5 = .ok (.iload_n 2, 1) := by decide +kernel
theorem d_PS_in_6 : decode c_PS_in 6 = .ok (.iconst 0, 1) := by decide +kernel
theorem d_PS_in_7 : decode c_PS_in 7 = .ok (.iconst 2, 1) := by decide +kernel
theorem d_PS_in_8 : decode c_PS_in 8 = .ok (.invokestatic 39, 3) := by decide +kernel
theorem d_PS_in_11 : decode c_PS_in 11 = .ok (.iload_n 2, 1) := by decide +kernel
theorem d_PS_in_12 : decode c_PS_in 12 = .ok (.lookupswitch 48 #[(0, 28), (1, 38)], 28) := by decide +kernel
theorem d_PS_in_40 : decode c_PS_in 40 = .ok (.aload_n 0, 1) := by decide +kernel
theorem d_PS_in_41 : decode c_PS_in 41 = .ok (.getfield 10, 3) := by decide +kernel
theorem d_PS_in_44 : decode c_PS_in 44 = .ok (.getfield 124, 3) := by decide +kernel
theorem d_PS_in_47 : decode c_PS_in 47 = .ok (.iload_n 1, 1) := by decide +kernel
theorem d_PS_in_48 : decode c_PS_in 48 = .ok (.iaload, 1) := by decide +kernel
theorem d_PS_in_49 : decode c_PS_in 49 = .ok (.ireturn, 1) := by decide +kernel
theorem d_PS_in_50 : decode c_PS_in 50 = .ok (.aload_n 0, 1) := by decide +kernel
theorem d_PS_in_51 : decode c_PS_in 51 = .ok (.getfield 10, 3) := by decide +kernel
theorem d_PS_in_54 : decode c_PS_in 54 = .ok (.getfield 127, 3) := by decide +kernel
theorem d_PS_in_57 : decode c_PS_in 57 = .ok (.iload_n 1, 1) := by decide +kernel
theorem d_PS_in_58 : decode c_PS_in 58 = .ok (.iaload, 1) := by decide +kernel
theorem d_PS_in_59 : decode c_PS_in 59 = .ok (.ireturn, 1) := by decide +kernel
theorem d_PS_in_60 : decode c_PS_in 60 = .ok (.aload_n 0, 1) := by decide +kernel
theorem d_PS_in_61 : decode c_PS_in 61 = .ok (.getfield 10, 3) := by decide +kernel
theorem d_PS_in_64 : decode c_PS_in 64 = .ok (.getfield 130, 3) := by decide +kernel
theorem d_PS_in_67 : decode c_PS_in 67 = .ok (.iload_n 1, 1) := by decide +kernel
theorem d_PS_in_68 : decode c_PS_in 68 = .ok (.iaload, 1) := by decide +kernel
theorem d_PS_in_69 : decode c_PS_in 69 = .ok (.ireturn, 1) := by decide +kernel
theorem d_PS_inThen_0 : decode c_PS_inThen 0 = .ok (.aload_n 0, 1) := by decide +kernel
theorem d_PS_inThen_1 : decode c_PS_inThen 1 = .ok (.iload_n 1, 1) := by decide +kernel
theorem d_PS_inThen_2 : decode c_PS_inThen 2 = .ok (.invokevirtual 62, 3) := by decide +kernel
theorem d_PS_inThen_5 : decode c_PS_inThen 5 = .ok (.aload_n 0, 1) := by decide +kernel
theorem d_PS_inThen_6 : decode c_PS_inThen 6 = .ok (.iload_n 2, 1) := by decide +kernel
theorem d_PS_inThen_7 : decode c_PS_inThen 7 = .ok (.invokevirtual 114, 3) := by decide +kernel
theorem d_PS_inThen_10 : decode c_PS_inThen 10 = .ok (.iconst 0, 1) := by decide +kernel
theorem d_PS_inThen_11 : decode c_PS_inThen 11 = .ok (.istore_n 3, 1) := by decide +kernel
theorem d_PS_inThen_12 : decode c_PS_inThen 12 = .ok (.iconst 0, 1) := by decide +kernel
theorem d_PS_inThen_13 : decode c_PS_inThen 13 = .ok (.istore 4, 2) := by decide +kernel
theorem d_PS_inThen_15 : decode c_PS_inThen 15 = .ok (.iload 4, 2) := by decide +kernel
theorem d_PS_inThen_17 : decode c_PS_inThen 17 = .ok (.aload_n 0, 1) := by decide +kernel
theorem d_PS_inThen_18 : decode c_PS_inThen 18 = .ok (.getfield 35, 3) := by decide +kernel
theorem d_PS_inThen_21 : decode c_PS_inThen 21 = .ok (.getfield 73, 3) := by decide +kernel
theorem d_PS_inThen_24 : decode c_PS_inThen 24 = .ok (.if_icmp .ge 26, 3) := by decide +kernel
theorem d_PS_inThen_27 : decode c_PS_inThen 27 = .ok (.aload_n 0, 1) := by decide +kernel
theorem d_PS_inThen_28 : decode c_PS_inThen 28 = .ok (.getfield 26, 3) := by decide +kernel
theorem d_PS_inThen_31 : decode c_PS_inThen 31 = .ok (.iload 4, 2) := by decide +kernel
theorem d_PS_inThen_33 : decode c_PS_inThen 33 = .ok (.iload_n 2, 1) := by decide +kernel
theorem d_PS_inThen_34 : decode c_PS_inThen 34 = .ok (.invokevirtual 117, 3) := by decide +kernel
theorem d_PS_inThen_37 : decode c_PS_inThen 37 = .ok (.iload_n 1, 1) := by decide +kernel
theorem d_PS_inThen_38 : decode c_PS_inThen 38 = .ok (.if_icmp .ne 6, 3) := by decide +kernel
theorem d_PS_inThen_41 : decode c_PS_inThen 41 = .ok (.iinc 3 1, 3) := by decide +kernel
theorem d_PS_inThen_44 : decode c_PS_inThen 44 = .ok (.iinc 4 1, 3) := by decide +kernel
theorem d_PS_inThen_47 : decode c_PS_inThen 47 = .ok (.goto (-32), 3) := by decide +kernel
theorem d_PS_inThen_50 : decode c_PS_inThen 50 = .ok (.iload_n 3, 1) := by decide +kernel
theorem d_PS_inThen_51 : decode c_PS_inThen 51 = .ok (.ireturn, 1) := by decide +kernel
theorem d_PS_through_0 : decode c_PS_through 0 = .ok (.iload_n 1, 1) := by decide +kernel
theorem d_PS_through_1 : decode c_PS_through 1 = .ok (.iconst 0, 1) := by decide +kernel
theorem d_PS_through_2 : decode c_PS_through 2 = .ok (.aload_n 0, 1) := by decide +kernel
theorem d_PS_through_3 : decode c_PS_through 3 = .ok (.getfield 19, 3) := by decide +kernel
theorem d_PS_through_6 : decode c_PS_through 6 = .ok (.getfield 69, 3) := by decide +kernel
theorem d_PS_through_9 : decode c_PS_through 9 = .ok (.iconst 1, 1) := by decide +kernel
theorem d_PS_through_10 : decode c_PS_through 10 = .ok (.isub, 1) := by decide +kernel
theorem d_PS_through_11 : decode c_PS_through 11 = .ok (.invokestatic 39, 3) := by decide +kernel
theorem d_PS_through_14 : decode c_PS_through 14 = .ok (.iload_n 2, 1) := by decide +kernel
theorem d_PS_through_15 : decode c_PS_through 15 = .ok (.ifCond .eq 15, 3) := by decide +kernel
theorem d_PS_through_18 : decode c_PS_through 18 = .ok (.aload_n 0, 1) := by decide +kernel
theorem d_PS_through_19 : decode c_PS_through 19 = .ok (.getfield 19, 3) := by decide +kernel
theorem d_PS_through_22 : decode c_PS_through 22 = .ok (.getfield 133, 3) := by decide +kernel
theorem d_PS_through_25 : decode c_PS_through 25 = .ok (.iload_n 1, 1) := by decide +kernel
theorem d_PS_through_26 : decode c_PS_through 26 = .ok (.iaload, 1) := by decide +kernel
theorem d_PS_through_27 : decode c_PS_through 27 = .ok (.goto 12, 3) := by decide +kernel
theorem d_PS_through_30 : decode c_PS_through 30 = .ok (.aload_n 0, 1) := by decide +kernel
theorem d_PS_through_31 : decode c_PS_through 31 = .ok (.getfield 19, 3) := by decide +kernel
theorem d_PS_through_34 : decode c_PS_through 34 = .ok (.getfield 136, 3) := by decide +kernel
theorem d_PS_through_37 : decode c_PS_through 37 = .ok (.iload_n 1, 1) := by decide +kernel
theorem d_PS_through_38 : decode c_PS_through 38 = .ok (.iaload, 1) := by decide +kernel
theorem d_PS_through_39 : decode c_PS_through 39 = .ok (.ireturn, 1) := by decide +kernel
theorem d_PS_distance_0 : decode c_PS_distance 0 = .ok (.aload_n 0, 1) := by decide +kernel
theorem d_PS_distance_1 : decode c_PS_distance 1 = .ok (.iload_n 1, 1) := by decide +kernel
theorem d_PS_distance_2 : decode c_PS_distance 2 = .ok (.invokevirtual 62, 3) := by decide +kernel
theorem d_PS_distance_5 : decode c_PS_distance 5 = .ok (.aload_n 0, 1) := by decide +kernel
theorem d_PS_distance_6 : decode c_PS_distance 6 = .ok (.iload_n 2, 1) := by decide +kernel
theorem d_PS_distance_7 : decode c_PS_distance 7 = .ok (.invokevirtual 62, 3) := by decide +kernel
theorem d_PS_distance_10 : decode c_PS_distance 10 = .ok (.aload_n 0, 1) := by decide +kernel
theorem d_PS_distance_11 : decode c_PS_distance 11 = .ok (.getfield 19, 3) := by decide +kernel
theorem d_PS_distance_14 : decode c_PS_distance 14 = .ok (.iload_n 1, 1) := by decide +kernel
theorem d_PS_distance_15 : decode c_PS_distance 15 = .ok (.iload_n 2, 1) := by decide +kernel
theorem d_PS_distance_16 : decode c_PS_distance 16 = .ok (.invokevirtual 139, 3) := by decide +kernel
theorem d_PS_distance_19 : decode c_PS_distance 19 = .ok (.istore_n 3, 1) := by decide +kernel
theorem d_PS_distance_20 : decode c_PS_distance 20 = .ok (.iload_n 3, 1) := by decide +kernel
theorem d_PS_distance_21 : decode c_PS_distance 21 = .ok (.sipush 1000, 3) := by decide +kernel
theorem d_PS_distance_24 : decode c_PS_distance 24 = .ok (.if_icmp .ge 7, 3) := by decide +kernel
theorem d_PS_distance_27 : decode c_PS_distance 27 = .ok (.iload_n 3, 1) := by decide +kernel
theorem d_PS_distance_28 : decode c_PS_distance 28 = .ok (.goto 4, 3) := by decide +kernel
theorem d_PS_distance_31 : decode c_PS_distance 31 = .ok (.iconst (-1), 1) := by decide +kernel
theorem d_PS_distance_32 : decode c_PS_distance 32 = .ok (.ireturn, 1) := by decide +kernel
theorem d_PS_met_0 : decode c_PS_met 0 = .ok (.aload_n 0, 1) := by decide +kernel
theorem d_PS_met_1 : decode c_PS_met 1 = .ok (.iload_n 1, 1) := by decide +kernel
theorem d_PS_met_2 : decode c_PS_met 2 = .ok (.invokevirtual 89, 3) := by decide +kernel
theorem d_PS_met_5 : decode c_PS_met 5 = .ok (.aload_n 0, 1) := by decide +kernel
theorem d_PS_met_6 : decode c_PS_met 6 = .ok (.iload_n 2, 1) := by decide +kernel
theorem d_PS_met_7 : decode c_PS_met 7 = .ok (.invokevirtual 89, 3) := by decide +kernel
theorem d_PS_met_10 : decode c_PS_met 10 = .ok (.iload_n 1, 1) := by decide +kernel
theorem d_PS_met_11 : decode c_PS_met 11 = .ok (.iload_n 2, 1) := by decide +kernel
theorem d_PS_met_12 : decode c_PS_met 12 = .ok (.invokestatic 65, 3) := by decide +kernel
theorem d_PS_met_15 : decode c_PS_met 15 = .ok (.aload_n 0, 1) := by decide +kernel
theorem d_PS_met_16 : decode c_PS_met 16 = .ok (.getfield 26, 3) := by decide +kernel
theorem d_PS_met_19 : decode c_PS_met 19 = .ok (.iload_n 1, 1) := by decide +kernel
theorem d_PS_met_20 : decode c_PS_met 20 = .ok (.iload_n 2, 1) := by decide +kernel
theorem d_PS_met_21 : decode c_PS_met 21 = .ok (.invokevirtual 142, 3) := by decide +kernel
theorem d_PS_met_24 : decode c_PS_met 24 = .ok (.istore_n 3, 1) := by decide +kernel
theorem d_PS_met_25 : decode c_PS_met 25 = .ok (.aload_n 0, 1) := by decide +kernel
theorem d_PS_met_26 : decode c_PS_met 26 = .ok (.getfield 26, 3) := by decide +kernel
theorem d_PS_met_29 : decode c_PS_met 29 = .ok (.iload_n 2, 1) := by decide +kernel
theorem d_PS_met_30 : decode c_PS_met 30 = .ok (.iload_n 1, 1) := by decide +kernel
theorem d_PS_met_31 : decode c_PS_met 31 = .ok (.invokevirtual 142, 3) := by decide +kernel
theorem d_PS_met_34 : decode c_PS_met 34 = .ok (.istore 4, 2) := by decide +kernel
theorem d_PS_met_36 : decode c_PS_met 36 = .ok (.iload_n 3, 1) := by decide +kernel
theorem d_PS_met_37 : decode c_PS_met 37 = .ok (.iconst (-1), 1) := by decide +kernel
theorem d_PS_met_38 : decode c_PS_met 38 = .ok (.if_icmp .eq 9, 3) := by decide +kernel
theorem d_PS_met_41 : decode c_PS_met 41 = .ok (.iload 4, 2) := by decide +kernel
theorem d_PS_met_43 : decode c_PS_met 43 = .ok (.iconst (-1), 1) := by decide +kernel
theorem d_PS_met_44 : decode c_PS_met 44 = .ok (.if_icmp .ne 10, 3) := by decide +kernel
theorem d_PS_met_47 : decode c_PS_met 47 = .ok (.iload_n 3, 1) := by decide +kernel
theorem d_PS_met_48 : decode c_PS_met 48 = .ok (.iload 4, 2) := by decide +kernel
theorem d_PS_met_50 : decode c_PS_met 50 = .ok (.invokestatic 145, 3) := by decide +kernel
theorem d_PS_met_53 : decode c_PS_met 53 = .ok (.ireturn, 1) := by decide +kernel
theorem d_PS_met_54 : decode c_PS_met 54 = .ok (.iload_n 3, 1) := by decide +kernel
theorem d_PS_met_55 : decode c_PS_met 55 = .ok (.iload 4, 2) := by decide +kernel
theorem d_PS_met_57 : decode c_PS_met 57 = .ok (.invokestatic 150, 3) := by decide +kernel
theorem d_PS_met_60 : decode c_PS_met 60 = .ok (.ireturn, 1) := by decide +kernel
theorem d_PS_entered_0 : decode c_PS_entered 0 = .ok (.iload_n 1, 1) := by decide +kernel
theorem d_PS_entered_1 : decode c_PS_entered 1 = .ok (.ifCond .eq 10, 3) := by decide +kernel
theorem d_PS_entered_4 : decode c_PS_entered 4 = .ok (.aload_n 0, 1) := by decide +kernel
theorem d_PS_entered_5 : decode c_PS_entered 5 = .ok (.getfield 83, 3) := by decide +kernel
theorem d_PS_entered_8 : decode c_PS_entered 8 = .ok (.goto 7, 3) := by decide +kernel
theorem d_PS_entered_11 : decode c_PS_entered 11 = .ok (.aload_n 0, 1) := by decide +kernel
theorem d_PS_entered_12 : decode c_PS_entered 12 = .ok (.getfield 86, 3) := by decide +kernel
theorem d_PS_entered_15 : decode c_PS_entered 15 = .ok (.ireturn, 1) := by decide +kernel
theorem d_PS_checkRoom_0 : decode c_PS_checkRoom 0 = .ok (.iload_n 1, 1) := by decide +kernel
theorem d_PS_checkRoom_1 : decode c_PS_checkRoom 1 = .ok (.iconst 0, 1) := by decide +kernel
theorem d_PS_checkRoom_2 : decode c_PS_checkRoom 2 = .ok (.aload_n 0, 1) := by decide +kernel
theorem d_PS_checkRoom_3 : decode c_PS_checkRoom 3 = .ok (.getfield 10, 3) := by decide +kernel
theorem d_PS_checkRoom_6 : decode c_PS_checkRoom 6 = .ok (.getfield 47, 3) := by decide +kernel
theorem d_PS_checkRoom_9 : decode c_PS_checkRoom 9 = .ok (.iconst 1, 1) := by decide +kernel
theorem d_PS_checkRoom_10 : decode c_PS_checkRoom 10 = .ok (.isub, 1) := by decide +kernel
theorem d_PS_checkRoom_11 : decode c_PS_checkRoom 11 = .ok (.invokestatic 39, 3) := by decide +kernel
theorem d_PS_checkRoom_14 : decode c_PS_checkRoom 14 = .ok (.return_, 1) := by decide +kernel
theorem d_PS_checkPerson_0 : decode c_PS_checkPerson 0 = .ok (.iload_n 1, 1) := by decide +kernel
