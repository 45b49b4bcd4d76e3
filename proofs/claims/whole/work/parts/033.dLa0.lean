theorem d_La_cell_0 : decode c_La_cell 0 = .ok (.iload_n 1, 1) := by decide +kernel
theorem d_La_cell_1 : decode c_La_cell 1 = .ok (.aload_n 0, 1) := by decide +kernel
theorem d_La_cell_2 : decode c_La_cell 2 = .ok (.arraylength, 1) := by decide +kernel
theorem d_La_cell_3 : decode c_La_cell 3 = .ok (.if_icmp .ge 9, 3) := by decide +kernel
theorem d_La_cell_6 : decode c_La_cell 6 = .ok (.aload_n 0, 1) := by decide +kernel
theorem d_La_cell_7 : decode c_La_cell 7 = .ok (.iload_n 1, 1) := by decide +kernel
theorem d_La_cell_8 : decode c_La_cell 8 = .ok (.iaload, 1) := by decide +kernel
theorem d_La_cell_9 : decode c_La_cell 9 = .ok (.goto 4, 3) := by decide +kernel
theorem d_La_cell_12 : decode c_La_cell 12 = .ok (.iconst 0, 1) := by decide +kernel
theorem d_La_cell_13 : decode c_La_cell 13 = .ok (.ireturn, 1) := by decide +kernel
theorem d_La_room_0 : decode c_La_room 0 = .ok (.aload_n 2, 1) := by decide +kernel
theorem d_La_room_1 : decode c_La_room 1 = .ok (.iconst 0, 1) := by decide +kernel
theorem d_La_room_2 : decode c_La_room 2 = .ok (.aload_n 0, 1) := by decide +kernel
theorem d_La_room_3 : decode c_La_room 3 = .ok (.iload_n 1, 1) := by decide +kernel
theorem d_La_room_4 : decode c_La_room 4 = .ok (.invokevirtual 7, 3) := by decide +kernel
theorem d_La_room_7 : decode c_La_room 7 = .ok (.i2l, 1) := by decide +kernel
theorem d_La_room_8 : decode c_La_room 8 = .ok (.lastore, 1) := by decide +kernel
theorem d_La_room_9 : decode c_La_room 9 = .ok (.goto 9, 3) := by decide +kernel
theorem d_La_room_12 : decode c_La_room 12 = .ok (.astore_n 3, 1) := by decide +kernel
theorem d_La_room_13 : decode c_La_room 13 = .ok (.iconst 1, 1) := by decide +kernel
theorem d_La_room_14 : decode c_La_room 14 = .ok (.ireturn, 1) := by decide +kernel
theorem d_La_room_15 : decode c_La_room 15 = .ok (.astore_n 3, 1) := by decide +kernel
theorem d_La_room_16 : decode c_La_room 16 = .ok (.iconst 2, 1) := by decide +kernel
theorem d_La_room_17 : decode c_La_room 17 = .ok (.ireturn, 1) := by decide +kernel
theorem d_La_room_18 : decode c_La_room 18 = .ok (.iconst 0, 1) := by decide +kernel
theorem d_La_room_19 : decode c_La_room 19 = .ok (.ireturn, 1) := by decide +kernel
theorem d_La_door_0 : decode c_La_door 0 = .ok (.aload 4, 2) := by decide +kernel
theorem d_La_door_2 : decode c_La_door 2 = .ok (.iconst 0, 1) := by decide +kernel
theorem d_La_door_3 : decode c_La_door 3 = .ok (.aload_n 0, 1) := by decide +kernel
theorem d_La_door_4 : decode c_La_door 4 = .ok (.iload_n 1, 1) := by decide +kernel
theorem d_La_door_5 : decode c_La_door 5 = .ok (.iload_n 2, 1) := by decide +kernel
theorem d_La_door_6 : decode c_La_door 6 = .ok (.iload_n 3, 1) := by decide +kernel
theorem d_La_door_7 : decode c_La_door 7 = .ok (.invokevirtual 17, 3) := by decide +kernel
theorem d_La_door_10 : decode c_La_door 10 = .ok (.i2l, 1) := by decide +kernel
theorem d_La_door_11 : decode c_La_door 11 = .ok (.lastore, 1) := by decide +kernel
theorem d_La_door_12 : decode c_La_door 12 = .ok (.goto 11, 3) := by decide +kernel
theorem d_La_door_15 : decode c_La_door 15 = .ok (.astore 5, 2) := by decide +kernel
theorem d_La_door_17 : decode c_La_door 17 = .ok (.iconst 1, 1) := by decide +kernel
theorem d_La_door_18 : decode c_La_door 18 = .ok (.ireturn, 1) := by decide +kernel
theorem d_La_door_19 : decode c_La_door 19 = .ok (.astore 5, 2) := by decide +kernel
theorem d_La_door_21 : decode c_La_door 21 = .ok (.iconst 2, 1) := by decide +kernel
theorem d_La_door_22 : decode c_La_door 22 = .ok (.ireturn, 1) := by decide +kernel
theorem d_La_door_23 : decode c_La_door 23 = .ok (.iconst 0, 1) := by decide +kernel
theorem d_La_door_24 : decode c_La_door 24 = .ok (.ireturn, 1) := by decide +kernel
theorem d_La_arrives_0 : decode c_La_arrives 0 = .ok (.aload_n 3, 1) := by decide +kernel
theorem d_La_arrives_1 : decode c_La_arrives 1 = .ok (.iconst 0, 1) := by decide +kernel
theorem d_La_arrives_2 : decode c_La_arrives 2 = .ok (.aload_n 0, 1) := by decide +kernel
theorem d_La_arrives_3 : decode c_La_arrives 3 = .ok (.iload_n 1, 1) := by decide +kernel
theorem d_La_arrives_4 : decode c_La_arrives 4 = .ok (.iload_n 2, 1) := by decide +kernel
theorem d_La_arrives_5 : decode c_La_arrives 5 = .ok (.invokevirtual 21, 3) := by decide +kernel
theorem d_La_arrives_8 : decode c_La_arrives 8 = .ok (.i2l, 1) := by decide +kernel
theorem d_La_arrives_9 : decode c_La_arrives 9 = .ok (.lastore, 1) := by decide +kernel
theorem d_La_arrives_10 : decode c_La_arrives 10 = .ok (.goto 11, 3) := by decide +kernel
theorem d_La_arrives_13 : decode c_La_arrives 13 = .ok (.astore 4, 2) := by decide +kernel
theorem d_La_arrives_15 : decode c_La_arrives 15 = .ok (.iconst 1, 1) := by decide +kernel
theorem d_La_arrives_16 : decode c_La_arrives 16 = .ok (.ireturn, 1) := by decide +kernel
theorem d_La_arrives_17 : decode c_La_arrives 17 = .ok (.astore 4, 2) := by decide +kernel
theorem d_La_arrives_19 : decode c_La_arrives 19 = .ok (.iconst 2, 1) := by decide +kernel
theorem d_La_arrives_20 : decode c_La_arrives 20 = .ok (.ireturn, 1) := by decide +kernel
theorem d_La_arrives_21 : decode c_La_arrives 21 = .ok (.iconst 0, 1) := by decide +kernel
theorem d_La_arrives_22 : decode c_La_arrives 22 = .ok (.ireturn, 1) := by decide +kernel
theorem d_La_draw_0 : decode c_La_draw 0 = .ok (.aload 4, 2) := by decide +kernel
theorem d_La_draw_2 : decode c_La_draw 2 = .ok (.iconst 0, 1) := by decide +kernel
theorem d_La_draw_3 : decode c_La_draw 3 = .ok (.aload_n 0, 1) := by decide +kernel
theorem d_La_draw_4 : decode c_La_draw 4 = .ok (.iload_n 1, 1) := by decide +kernel
theorem d_La_draw_5 : decode c_La_draw 5 = .ok (.iload_n 2, 1) := by decide +kernel
theorem d_La_draw_6 : decode c_La_draw 6 = .ok (.iload_n 3, 1) := by decide +kernel
theorem d_La_draw_7 : decode c_La_draw 7 = .ok (.invokevirtual 25, 3) := by decide +kernel
theorem d_La_draw_10 : decode c_La_draw 10 = .ok (.i2l, 1) := by decide +kernel
theorem d_La_draw_11 : decode c_La_draw 11 = .ok (.lastore, 1) := by decide +kernel
theorem d_La_draw_12 : decode c_La_draw 12 = .ok (.goto 7, 3) := by decide +kernel
theorem d_La_draw_15 : decode c_La_draw 15 = .ok (.astore 5, 2) := by decide +kernel
theorem d_La_draw_17 : decode c_La_draw 17 = .ok (.iconst 1, 1) := by decide +kernel
theorem d_La_draw_18 : decode c_La_draw 18 = .ok (.ireturn, 1) := by decide +kernel
theorem d_La_draw_19 : decode c_La_draw 19 = .ok (.iconst 0, 1) := by decide +kernel
theorem d_La_draw_20 : decode c_La_draw 20 = .ok (.ireturn, 1) := by decide +kernel
theorem d_La_run_0 : decode c_La_run 0 = .ok (.aload_n 2, 1) := by decide +kernel
theorem d_La_run_1 : decode c_La_run 1 = .ok (.iconst 0, 1) := by decide +kernel
theorem d_La_run_2 : decode c_La_run 2 = .ok (.aload_n 0, 1) := by decide +kernel
theorem d_La_run_3 : decode c_La_run 3 = .ok (.iload_n 1, 1) := by decide +kernel
theorem d_La_run_4 : decode c_La_run 4 = .ok (.invokevirtual 28, 3) := by decide +kernel
theorem d_La_run_7 : decode c_La_run 7 = .ok (.i2l, 1) := by decide +kernel
theorem d_La_run_8 : decode c_La_run 8 = .ok (.lastore, 1) := by decide +kernel
theorem d_La_run_9 : decode c_La_run 9 = .ok (.goto 9, 3) := by decide +kernel
theorem d_La_run_12 : decode c_La_run 12 = .ok (.astore_n 3, 1) := by decide +kernel
theorem d_La_run_13 : decode c_La_run 13 = .ok (.iconst 1, 1) := by decide +kernel
theorem d_La_run_14 : decode c_La_run 14 = .ok (.ireturn, 1) := by decide +kernel
theorem d_La_run_15 : decode c_La_run 15 = .ok (.astore_n 3, 1) := by decide +kernel
theorem d_La_run_16 : decode c_La_run 16 = .ok (.iconst 2, 1) := by decide +kernel
theorem d_La_run_17 : decode c_La_run 17 = .ok (.ireturn, 1) := by decide +kernel
theorem d_La_run_18 : decode c_La_run 18 = .ok (.iconst 0, 1) := by decide +kernel
theorem d_La_run_19 : decode c_La_run 19 = .ok (.ireturn, 1) := by decide +kernel
theorem d_La_person_0 : decode c_La_person 0 = .ok (.aload_n 3, 1) := by decide +kernel
theorem d_La_person_1 : decode c_La_person 1 = .ok (.iconst 0, 1) := by decide +kernel
theorem d_La_person_2 : decode c_La_person 2 = .ok (.aload_n 0, 1) := by decide +kernel
theorem d_La_person_3 : decode c_La_person 3 = .ok (.iload_n 1, 1) := by decide +kernel
theorem d_La_person_4 : decode c_La_person 4 = .ok (.iload_n 2, 1) := by decide +kernel
theorem d_La_person_5 : decode c_La_person 5 = .ok (.invokevirtual 31, 3) := by decide +kernel
theorem d_La_person_8 : decode c_La_person 8 = .ok (.i2l, 1) := by decide +kernel
theorem d_La_person_9 : decode c_La_person 9 = .ok (.lastore, 1) := by decide +kernel
theorem d_La_person_10 : decode c_La_person 10 = .ok (.goto 7, 3) := by decide +kernel
theorem d_La_person_13 : decode c_La_person 13 = .ok (.astore 4, 2) := by decide +kernel
theorem d_La_person_15 : decode c_La_person 15 = .ok (.iconst 1, 1) := by decide +kernel
theorem d_La_person_16 : decode c_La_person 16 = .ok (.ireturn, 1) := by decide +kernel
theorem d_La_person_17 : decode c_La_person 17 = .ok (.iconst 0, 1) := by decide +kernel
theorem d_La_person_18 : decode c_La_person 18 = .ok (.ireturn, 1) := by decide +kernel
theorem d_La_at_0 : decode c_La_at 0 = .ok (.aload_n 2, 1) := by decide +kernel
theorem d_La_at_1 : decode c_La_at 1 = .ok (.iconst 0, 1) := by decide +kernel
theorem d_La_at_2 : decode c_La_at 2 = .ok (.aload_n 0, 1) := by decide +kernel
theorem d_La_at_3 : decode c_La_at 3 = .ok (.iload_n 1, 1) := by decide +kernel
theorem d_La_at_4 : decode c_La_at 4 = .ok (.invokevirtual 34, 3) := by decide +kernel
theorem d_La_at_7 : decode c_La_at 7 = .ok (.i2l, 1) := by decide +kernel
theorem d_La_at_8 : decode c_La_at 8 = .ok (.lastore, 1) := by decide +kernel
theorem d_La_at_9 : decode c_La_at 9 = .ok (.goto 6, 3) := by decide +kernel
theorem d_La_at_12 : decode c_La_at 12 = .ok (.astore_n 3, 1) := by decide +kernel
theorem d_La_at_13 : decode c_La_at 13 = .ok (.iconst 1, 1) := by decide +kernel
theorem d_La_at_14 : decode c_La_at 14 = .ok (.ireturn, 1) := by decide +kernel
theorem d_La_at_15 : decode c_La_at 15 = .ok (.iconst 0, 1) := by decide +kernel
theorem d_La_at_16 : decode c_La_at 16 = .ok (.ireturn, 1) := by decide +kernel
theorem d_La_was_0 : decode c_La_was 0 = .ok (.aload_n 3, 1) := by decide +kernel
theorem d_La_was_1 : decode c_La_was 1 = .ok (.iconst 0, 1) := by decide +kernel
theorem d_La_was_2 : decode c_La_was 2 = .ok (.aload_n 0, 1) := by decide +kernel
theorem d_La_was_3 : decode c_La_was 3 = .ok (.iload_n 1, 1) := by decide +kernel
theorem d_La_was_4 : decode c_La_was 4 = .ok (.iload_n 2, 1) := by decide +kernel
theorem d_La_was_5 : decode c_La_was 5 = .ok (.invokevirtual 37, 3) := by decide +kernel
theorem d_La_was_8 : decode c_La_was 8 = .ok (.i2l, 1) := by decide +kernel
theorem d_La_was_9 : decode c_La_was 9 = .ok (.lastore, 1) := by decide +kernel
theorem d_La_was_10 : decode c_La_was 10 = .ok (.goto 7, 3) := by decide +kernel
theorem d_La_was_13 : decode c_La_was 13 = .ok (.astore 4, 2) := by decide +kernel
theorem d_La_was_15 : decode c_La_was 15 = .ok (.iconst 1, 1) := by decide +kernel
theorem d_La_was_16 : decode c_La_was 16 = .ok (.ireturn, 1) := by decide +kernel
theorem d_La_was_17 : decode c_La_was 17 = .ok (.iconst 0, 1) := by decide +kernel
theorem d_La_was_18 : decode c_La_was 18 = .ok (.ireturn, 1) := by decide +kernel
theorem d_La_waited_0 : decode c_La_waited 0 = .ok (.aload_n 2, 1) := by decide +kernel
theorem d_La_waited_1 : decode c_La_waited 1 = .ok (.iconst 0, 1) := by decide +kernel
theorem d_La_waited_2 : decode c_La_waited 2 = .ok (.aload_n 0, 1) := by decide +kernel
theorem d_La_waited_3 : decode c_La_waited 3 = .ok (.iload_n 1, 1) := by decide +kernel
theorem d_La_waited_4 : decode c_La_waited 4 = .ok (.invokevirtual 40, 3) := by decide +kernel
theorem d_La_waited_7 : decode c_La_waited 7 = .ok (.i2l, 1) := by decide +kernel
theorem d_La_waited_8 : decode c_La_waited 8 = .ok (.lastore, 1) := by decide +kernel
theorem d_La_waited_9 : decode c_La_waited 9 = .ok (.goto 6, 3) := by decide +kernel
theorem d_La_waited_12 : decode c_La_waited 12 = .ok (.astore_n 3, 1) := by decide +kernel
theorem d_La_waited_13 : decode c_La_waited 13 = .ok (.iconst 1, 1) := by decide +kernel
theorem d_La_waited_14 : decode c_La_waited 14 = .ok (.ireturn, 1) := by decide +kernel
theorem d_La_waited_15 : decode c_La_waited 15 = .ok (.iconst 0, 1) := by decide +kernel
theorem d_La_waited_16 : decode c_La_waited 16 = .ok (.ireturn, 1) := by decide +kernel
theorem d_La_in_0 : decode c_La_in 0 = .ok (.aload_n 3, 1) := by decide +kernel
theorem d_La_in_1 : decode c_La_in 1 = .ok (.iconst 0, 1) := by decide +kernel
theorem d_La_in_2 : decode c_La_in 2 = .ok (.aload_n 0, 1) := by decide +kernel
theorem d_La_in_3 : decode c_La_in 3 = .ok (.iload_n 1, 1) := by decide +kernel
theorem d_La_in_4 : decode c_La_in 4 = .ok (.iload_n 2, 1) := by decide +kernel
theorem d_La_in_5 : decode c_La_in 5 = .ok (.invokevirtual 43, 3) := by decide +kernel
theorem d_La_in_8 : decode c_La_in 8 = .ok (.i2l, 1) := by decide +kernel
theorem d_La_in_9 : decode c_La_in 9 = .ok (.lastore, 1) := by decide +kernel
theorem d_La_in_10 : decode c_La_in 10 = .ok (.goto 7, 3) := by decide +kernel
theorem d_La_in_13 : decode c_La_in 13 = .ok (.astore 4, 2) := by decide +kernel
theorem d_La_in_15 : decode c_La_in 15 = .ok (.iconst 1, 1) := by decide +kernel
theorem d_La_in_16 : decode c_La_in 16 = .ok (.ireturn, 1) := by decide +kernel
theorem d_La_in_17 : decode c_La_in 17 = .ok (.iconst 0, 1) := by decide +kernel
theorem d_La_in_18 : decode c_La_in 18 = .ok (.ireturn, 1) := by decide +kernel
theorem d_La_inThen_0 : decode c_La_inThen 0 = .ok (.aload_n 3, 1) := by decide +kernel
theorem d_La_inThen_1 : decode c_La_inThen 1 = .ok (.iconst 0, 1) := by decide +kernel
theorem d_La_inThen_2 : decode c_La_inThen 2 = .ok (.aload_n 0, 1) := by decide +kernel
theorem d_La_inThen_3 : decode c_La_inThen 3 = .ok (.iload_n 1, 1) := by decide +kernel
theorem d_La_inThen_4 : decode c_La_inThen 4 = .ok (.iload_n 2, 1) := by decide +kernel
theorem d_La_inThen_5 : decode c_La_inThen 5 = .ok (.invokevirtual 46, 3) := by decide +kernel
theorem d_La_inThen_8 : decode c_La_inThen 8 = .ok (.i2l, 1) := by decide +kernel
theorem d_La_inThen_9 : decode c_La_inThen 9 = .ok (.lastore, 1) := by decide +kernel
theorem d_La_inThen_10 : decode c_La_inThen 10 = .ok (.goto 7, 3) := by decide +kernel
theorem d_La_inThen_13 : decode c_La_inThen 13 = .ok (.astore 4, 2) := by decide +kernel
theorem d_La_inThen_15 : decode c_La_inThen 15 = .ok (.iconst 1, 1) := by decide +kernel
theorem d_La_inThen_16 : decode c_La_inThen 16 = .ok (.ireturn, 1) := by decide +kernel
theorem d_La_inThen_17 : decode c_La_inThen 17 = .ok (.iconst 0, 1) := by decide +kernel
theorem d_La_inThen_18 : decode c_La_inThen 18 = .ok (.ireturn, 1) := by decide +kernel
theorem d_La_through_0 : decode c_La_through 0 = .ok (.aload_n 3, 1) := by decide +kernel
theorem d_La_through_1 : decode c_La_through 1 = .ok (.iconst 0, 1) := by decide +kernel
theorem d_La_through_2 : decode c_La_through 2 = .ok (.aload_n 0, 1) := by decide +kernel
theorem d_La_through_3 : decode c_La_through 3 = .ok (.iload_n 1, 1) := by decide +kernel
theorem d_La_through_4 : decode c_La_through 4 = .ok (.iload_n 2, 1) := by decide +kernel
theorem d_La_through_5 : decode c_La_through 5 = .ok (.invokevirtual 49, 3) := by decide +kernel
theorem d_La_through_8 : decode c_La_through 8 = .ok (.i2l, 1) := by decide +kernel
theorem d_La_through_9 : decode c_La_through 9 = .ok (.lastore, 1) := by decide +kernel
theorem d_La_through_10 : decode c_La_through 10 = .ok (.goto 7, 3) := by decide +kernel
theorem d_La_through_13 : decode c_La_through 13 = .ok (.astore 4, 2) := by decide +kernel
theorem d_La_through_15 : decode c_La_through 15 = .ok (.iconst 1, 1) := by decide +kernel
theorem d_La_through_16 : decode c_La_through 16 = .ok (.ireturn, 1) := by decide +kernel
theorem d_La_through_17 : decode c_La_through 17 = .ok (.iconst 0, 1) := by decide +kernel
theorem d_La_through_18 : decode c_La_through 18 = .ok (.ireturn, 1) := by decide +kernel
theorem d_La_distance_0 : decode c_La_distance 0 = .ok (.aload_n 3, 1) := by decide +kernel
theorem d_La_distance_1 : decode c_La_distance 1 = .ok (.iconst 0, 1) := by decide +kernel
theorem d_La_distance_2 : decode c_La_distance 2 = .ok (.aload_n 0, 1) := by decide +kernel
theorem d_La_distance_3 : decode c_La_distance 3 = .ok (.iload_n 1, 1) := by decide +kernel
theorem d_La_distance_4 : decode c_La_distance 4 = .ok (.iload_n 2, 1) := by decide +kernel
theorem d_La_distance_5 : decode c_La_distance 5 = .ok (.invokevirtual 53, 3) := by decide +kernel
theorem d_La_distance_8 : decode c_La_distance 8 = .ok (.i2l, 1) := by decide +kernel
theorem d_La_distance_9 : decode c_La_distance 9 = .ok (.lastore, 1) := by decide +kernel
theorem d_La_distance_10 : decode c_La_distance 10 = .ok (.goto 7, 3) := by decide +kernel
theorem d_La_distance_13 : decode c_La_distance 13 = .ok (.astore 4, 2) := by decide +kernel
theorem d_La_distance_15 : decode c_La_distance 15 = .ok (.iconst 1, 1) := by decide +kernel
theorem d_La_distance_16 : decode c_La_distance 16 = .ok (.ireturn, 1) := by decide +kernel
