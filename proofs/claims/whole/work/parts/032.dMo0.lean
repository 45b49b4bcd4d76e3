theorem d_Mo_init_0 : decode c_Mo_init 0 = .ok (.aload_n 0, 1) := by decide +kernel
theorem d_Mo_init_1 : decode c_Mo_init 1 = .ok (.invokespecial 1, 3) := by decide +kernel
theorem d_Mo_init_4 : decode c_Mo_init 4 = .ok (.aload_n 0, 1) := by decide +kernel
theorem d_Mo_init_5 : decode c_Mo_init 5 = .ok (.bipush 12, 2) := by decide +kernel
theorem d_Mo_init_7 : decode c_Mo_init 7 = .ok (.newarray .int, 2) := by decide +kernel
theorem d_Mo_init_9 : decode c_Mo_init 9 = .ok (.putfield 7, 3) := by decide +kernel
theorem d_Mo_init_12 : decode c_Mo_init 12 = .ok (.aload_n 0, 1) := by decide +kernel
theorem d_Mo_init_13 : decode c_Mo_init 13 = .ok (.bipush 12, 2) := by decide +kernel
theorem d_Mo_init_15 : decode c_Mo_init 15 = .ok (.newarray .int, 2) := by decide +kernel
theorem d_Mo_init_17 : decode c_Mo_init 17 = .ok (.putfield 13, 3) := by decide +kernel
theorem d_Mo_init_20 : decode c_Mo_init 20 = .ok (.aload_n 0, 1) := by decide +kernel
theorem d_Mo_init_21 : decode c_Mo_init 21 = .ok (.bipush 12, 2) := by decide +kernel
theorem d_Mo_init_23 : decode c_Mo_init 23 = .ok (.newarray .int, 2) := by decide +kernel
theorem d_Mo_init_25 : decode c_Mo_init 25 = .ok (.putfield 16, 3) := by decide +kernel
theorem d_Mo_init_28 : decode c_Mo_init 28 = .ok (.aload_n 0, 1) := by decide +kernel
theorem d_Mo_init_29 : decode c_Mo_init 29 = .ok (.bipush 12, 2) := by decide +kernel
theorem d_Mo_init_31 : decode c_Mo_init 31 = .ok (.newarray .int, 2) := by decide +kernel
theorem d_Mo_init_33 : decode c_Mo_init 33 = .ok (.putfield 19, 3) := by decide +kernel
theorem d_Mo_init_36 : decode c_Mo_init 36 = .ok (.aload_n 0, 1) := by decide +kernel
theorem d_Mo_init_37 : decode c_Mo_init 37 = .ok (.sipush 144, 3) := by decide +kernel
theorem d_Mo_init_40 : decode c_Mo_init 40 = .ok (.newarray .int, 2) := by decide +kernel
theorem d_Mo_init_42 : decode c_Mo_init 42 = .ok (.putfield 22, 3) := by decide +kernel
theorem d_Mo_init_45 : decode c_Mo_init 45 = .ok (.aload_n 0, 1) := by decide +kernel
theorem d_Mo_init_46 : decode c_Mo_init 46 = .ok (.bipush 16, 2) := by decide +kernel
theorem d_Mo_init_48 : decode c_Mo_init 48 = .ok (.newarray .int, 2) := by decide +kernel
theorem d_Mo_init_50 : decode c_Mo_init 50 = .ok (.putfield 25, 3) := by decide +kernel
theorem d_Mo_init_53 : decode c_Mo_init 53 = .ok (.aload_n 0, 1) := by decide +kernel
theorem d_Mo_init_54 : decode c_Mo_init 54 = .ok (.bipush 16, 2) := by decide +kernel
theorem d_Mo_init_56 : decode c_Mo_init 56 = .ok (.newarray .int, 2) := by decide +kernel
theorem d_Mo_init_58 : decode c_Mo_init 58 = .ok (.putfield 28, 3) := by decide +kernel
theorem d_Mo_init_61 : decode c_Mo_init 61 = .ok (.aload_n 0, 1) := by decide +kernel
theorem d_Mo_init_62 : decode c_Mo_init 62 = .ok (.bipush 16, 2) := by decide +kernel
theorem d_Mo_init_64 : decode c_Mo_init 64 = .ok (.newarray .int, 2) := by decide +kernel
theorem d_Mo_init_66 : decode c_Mo_init 66 = .ok (.putfield 31, 3) := by decide +kernel
theorem d_Mo_init_69 : decode c_Mo_init 69 = .ok (.aload_n 0, 1) := by decide +kernel
theorem d_Mo_init_70 : decode c_Mo_init 70 = .ok (.bipush 16, 2) := by decide +kernel
theorem d_Mo_init_72 : decode c_Mo_init 72 = .ok (.newarray .int, 2) := by decide +kernel
theorem d_Mo_init_74 : decode c_Mo_init 74 = .ok (.putfield 34, 3) := by decide +kernel
theorem d_Mo_init_77 : decode c_Mo_init 77 = .ok (.aload_n 0, 1) := by decide +kernel
theorem d_Mo_init_78 : decode c_Mo_init 78 = .ok (.bipush 16, 2) := by decide +kernel
theorem d_Mo_init_80 : decode c_Mo_init 80 = .ok (.newarray .int, 2) := by decide +kernel
theorem d_Mo_init_82 : decode c_Mo_init 82 = .ok (.putfield 37, 3) := by decide +kernel
theorem d_Mo_init_85 : decode c_Mo_init 85 = .ok (.aload_n 0, 1) := by decide +kernel
theorem d_Mo_init_86 : decode c_Mo_init 86 = .ok (.bipush 16, 2) := by decide +kernel
theorem d_Mo_init_88 : decode c_Mo_init 88 = .ok (.newarray .int, 2) := by decide +kernel
theorem d_Mo_init_90 : decode c_Mo_init 90 = .ok (.putfield 40, 3) := by decide +kernel
theorem d_Mo_init_93 : decode c_Mo_init 93 = .ok (.aload_n 0, 1) := by decide +kernel
theorem d_Mo_init_94 : decode c_Mo_init 94 = .ok (.bipush 60, 2) := by decide +kernel
theorem d_Mo_init_96 : decode c_Mo_init 96 = .ok (.newarray .int, 2) := by decide +kernel
theorem d_Mo_init_98 : decode c_Mo_init 98 = .ok (.putfield 43, 3) := by decide +kernel
theorem d_Mo_init_101 : decode c_Mo_init 101 = .ok (.aload_n 0, 1) := by decide +kernel
theorem d_Mo_init_102 : decode c_Mo_init 102 = .ok (.bipush 60, 2) := by decide +kernel
theorem d_Mo_init_104 : decode c_Mo_init 104 = .ok (.newarray .int, 2) := by decide +kernel
theorem d_Mo_init_106 : decode c_Mo_init 106 = .ok (.putfield 46, 3) := by decide +kernel
theorem d_Mo_init_109 : decode c_Mo_init 109 = .ok (.aload_n 0, 1) := by decide +kernel
theorem d_Mo_init_110 : decode c_Mo_init 110 = .ok (.bipush 60, 2) := by decide +kernel
theorem d_Mo_init_112 : decode c_Mo_init 112 = .ok (.newarray .int, 2) := by decide +kernel
theorem d_Mo_init_114 : decode c_Mo_init 114 = .ok (.putfield 49, 3) := by decide +kernel
theorem d_Mo_init_117 : decode c_Mo_init 117 = .ok (.aload_n 0, 1) := by decide +kernel
theorem d_Mo_init_118 : decode c_Mo_init 118 = .ok (.ldc 52, 2) := by decide +kernel
theorem d_Mo_init_120 : decode c_Mo_init 120 = .ok (.newarray .byte, 2) := by decide +kernel
theorem d_Mo_init_122 : decode c_Mo_init 122 = .ok (.putfield 53, 3) := by decide +kernel
theorem d_Mo_init_125 : decode c_Mo_init 125 = .ok (.aload_n 0, 1) := by decide +kernel
theorem d_Mo_init_126 : decode c_Mo_init 126 = .ok (.lload_n 1, 1) := by decide +kernel
theorem d_Mo_init_127 : decode c_Mo_init 127 = .ok (.putfield 57, 3) := by decide +kernel
theorem d_Mo_init_130 : decode c_Mo_init 130 = .ok (.iconst 0, 1) := by decide +kernel
theorem d_Mo_init_131 : decode c_Mo_init 131 = .ok (.istore_n 3, 1) := by decide +kernel
theorem d_Mo_init_132 : decode c_Mo_init 132 = .ok (.iload_n 3, 1) := by decide +kernel
theorem d_Mo_init_133 : decode c_Mo_init 133 = .ok (.sipush 144, 3) := by decide +kernel
theorem d_Mo_init_136 : decode c_Mo_init 136 = .ok (.if_icmp .ge 31, 3) := by decide +kernel
theorem d_Mo_init_139 : decode c_Mo_init 139 = .ok (.aload_n 0, 1) := by decide +kernel
theorem d_Mo_init_140 : decode c_Mo_init 140 = .ok (.getfield 22, 3) := by decide +kernel
theorem d_Mo_init_143 : decode c_Mo_init 143 = .ok (.iload_n 3, 1) := by decide +kernel
theorem d_Mo_init_144 : decode c_Mo_init 144 = .ok (.iload_n 3, 1) := by decide +kernel
theorem d_Mo_init_145 : decode c_Mo_init 145 = .ok (.bipush 12, 2) := by decide +kernel
theorem d_Mo_init_147 : decode c_Mo_init 147 = .ok (.idiv, 1) := by decide +kernel
theorem d_Mo_init_148 : decode c_Mo_init 148 = .ok (.iload_n 3, 1) := by decide +kernel
theorem d_Mo_init_149 : decode c_Mo_init 149 = .ok (.bipush 12, 2) := by decide +kernel
theorem d_Mo_init_151 : decode c_Mo_init 151 = .ok (.irem, 1) := by decide +kernel
theorem d_Mo_init_152 : decode c_Mo_init 152 = .ok (.if_icmp .ne 7, 3) := by decide +kernel
theorem d_Mo_init_155 : decode c_Mo_init 155 = .ok (.iconst 0, 1) := by decide +kernel
theorem d_Mo_init_156 : decode c_Mo_init 156 = .ok (.goto 4, 3) := by decide +kernel
theorem d_Mo_init_159 : decode c_Mo_init 159 = .ok (.iconst (-1), 1) := by decide +kernel
theorem d_Mo_init_160 : decode c_Mo_init 160 = .ok (.iastore, 1) := by decide +kernel
theorem d_Mo_init_161 : decode c_Mo_init 161 = .ok (.iinc 3 1, 3) := by decide +kernel
theorem d_Mo_init_164 : decode c_Mo_init 164 = .ok (.goto (-32), 3) := by decide +kernel
theorem d_Mo_init_167 : decode c_Mo_init 167 = .ok (.iconst 0, 1) := by decide +kernel
theorem d_Mo_init_168 : decode c_Mo_init 168 = .ok (.istore_n 3, 1) := by decide +kernel
theorem d_Mo_init_169 : decode c_Mo_init 169 = .ok (.iload_n 3, 1) := by decide +kernel
theorem d_Mo_init_170 : decode c_Mo_init 170 = .ok (.bipush 60, 2) := by decide +kernel
theorem d_Mo_init_172 : decode c_Mo_init 172 = .ok (.if_icmp .ge 16, 3) := by decide +kernel
theorem d_Mo_init_175 : decode c_Mo_init 175 = .ok (.aload_n 0, 1) := by decide +kernel
theorem d_Mo_init_176 : decode c_Mo_init 176 = .ok (.getfield 46, 3) := by decide +kernel
theorem d_Mo_init_179 : decode c_Mo_init 179 = .ok (.iload_n 3, 1) := by decide +kernel
theorem d_Mo_init_180 : decode c_Mo_init 180 = .ok (.iconst (-1), 1) := by decide +kernel
theorem d_Mo_init_181 : decode c_Mo_init 181 = .ok (.iastore, 1) := by decide +kernel
theorem d_Mo_init_182 : decode c_Mo_init 182 = .ok (.iinc 3 1, 3) := by decide +kernel
theorem d_Mo_init_185 : decode c_Mo_init 185 = .ok (.goto (-16), 3) := by decide +kernel
theorem d_Mo_init_188 : decode c_Mo_init 188 = .ok (.return_, 1) := by decide +kernel
theorem d_Mo_thrown_0 : decode c_Mo_thrown 0 = .ok (.aload_n 0, 1) := by decide +kernel
theorem d_Mo_thrown_1 : decode c_Mo_thrown 1 = .ok (.getfield 61, 3) := by decide +kernel
theorem d_Mo_thrown_4 : decode c_Mo_thrown 4 = .ok (.ireturn, 1) := by decide +kernel
theorem d_Mo_may_0 : decode c_Mo_may 0 = .ok (.aload_n 0, 1) := by decide +kernel
theorem d_Mo_may_1 : decode c_Mo_may 1 = .ok (.iload_n 1, 1) := by decide +kernel
theorem d_Mo_may_2 : decode c_Mo_may 2 = .ok (.ifCond .ne 7, 3) := by decide +kernel
theorem d_Mo_may_5 : decode c_Mo_may 5 = .ok (.iconst 1, 1) := by decide +kernel
theorem d_Mo_may_6 : decode c_Mo_may 6 = .ok (.goto 12, 3) := by decide +kernel
theorem d_Mo_may_9 : decode c_Mo_may 9 = .ok (.iload_n 2, 1) := by decide +kernel
theorem d_Mo_may_10 : decode c_Mo_may 10 = .ok (.ifCond .ne 7, 3) := by decide +kernel
theorem d_Mo_may_13 : decode c_Mo_may 13 = .ok (.iconst 2, 1) := by decide +kernel
theorem d_Mo_may_14 : decode c_Mo_may 14 = .ok (.goto 4, 3) := by decide +kernel
theorem d_Mo_may_17 : decode c_Mo_may 17 = .ok (.iconst 0, 1) := by decide +kernel
theorem d_Mo_may_18 : decode c_Mo_may 18 = .ok (.putfield 61, 3) := by decide +kernel
theorem d_Mo_may_21 : decode c_Mo_may 21 = .ok (.aload_n 0, 1) := by decide +kernel
theorem d_Mo_may_22 : decode c_Mo_may 22 = .ok (.getfield 61, 3) := by decide +kernel
theorem d_Mo_may_25 : decode c_Mo_may 25 = .ok (.ifCond .ne 7, 3) := by decide +kernel
theorem d_Mo_may_28 : decode c_Mo_may 28 = .ok (.iconst 1, 1) := by decide +kernel
theorem d_Mo_may_29 : decode c_Mo_may 29 = .ok (.goto 4, 3) := by decide +kernel
theorem d_Mo_may_32 : decode c_Mo_may 32 = .ok (.iconst 0, 1) := by decide +kernel
theorem d_Mo_may_33 : decode c_Mo_may 33 = .ok (.ireturn, 1) := by decide +kernel
theorem d_Mo_within_0 : decode c_Mo_within 0 = .ok (.lload_n 0, 1) := by decide +kernel
theorem d_Mo_within_1 : decode c_Mo_within 1 = .ok (.lload_n 2, 1) := by decide +kernel
theorem d_Mo_within_2 : decode c_Mo_within 2 = .ok (.lcmp, 1) := by decide +kernel
theorem d_Mo_within_3 : decode c_Mo_within 3 = .ok (.ifCond .lt 14, 3) := by decide +kernel
theorem d_Mo_within_6 : decode c_Mo_within 6 = .ok (.lload_n 0, 1) := by decide +kernel
theorem d_Mo_within_7 : decode c_Mo_within 7 = .ok (.lload 4, 2) := by decide +kernel
theorem d_Mo_within_9 : decode c_Mo_within 9 = .ok (.lcmp, 1) := by decide +kernel
theorem d_Mo_within_10 : decode c_Mo_within 10 = .ok (.ifCond .gt 7, 3) := by decide +kernel
theorem d_Mo_within_13 : decode c_Mo_within 13 = .ok (.iconst 1, 1) := by decide +kernel
theorem d_Mo_within_14 : decode c_Mo_within 14 = .ok (.goto 4, 3) := by decide +kernel
theorem d_Mo_within_17 : decode c_Mo_within 17 = .ok (.iconst 0, 1) := by decide +kernel
theorem d_Mo_within_18 : decode c_Mo_within 18 = .ok (.ireturn, 1) := by decide +kernel
theorem d_Mo_isRoom_0 : decode c_Mo_isRoom 0 = .ok (.iload_n 1, 1) := by decide +kernel
theorem d_Mo_isRoom_1 : decode c_Mo_isRoom 1 = .ok (.ifCond .lt 15, 3) := by decide +kernel
theorem d_Mo_isRoom_4 : decode c_Mo_isRoom 4 = .ok (.iload_n 1, 1) := by decide +kernel
theorem d_Mo_isRoom_5 : decode c_Mo_isRoom 5 = .ok (.aload_n 0, 1) := by decide +kernel
theorem d_Mo_isRoom_6 : decode c_Mo_isRoom 6 = .ok (.getfield 65, 3) := by decide +kernel
theorem d_Mo_isRoom_9 : decode c_Mo_isRoom 9 = .ok (.if_icmp .ge 7, 3) := by decide +kernel
theorem d_Mo_isRoom_12 : decode c_Mo_isRoom 12 = .ok (.iconst 1, 1) := by decide +kernel
theorem d_Mo_isRoom_13 : decode c_Mo_isRoom 13 = .ok (.goto 4, 3) := by decide +kernel
theorem d_Mo_isRoom_16 : decode c_Mo_isRoom 16 = .ok (.iconst 0, 1) := by decide +kernel
theorem d_Mo_isRoom_17 : decode c_Mo_isRoom 17 = .ok (.ireturn, 1) := by decide +kernel
theorem d_Mo_isPerson_0 : decode c_Mo_isPerson 0 = .ok (.iload_n 1, 1) := by decide +kernel
theorem d_Mo_isPerson_1 : decode c_Mo_isPerson 1 = .ok (.ifCond .lt 15, 3) := by decide +kernel
theorem d_Mo_isPerson_4 : decode c_Mo_isPerson 4 = .ok (.iload_n 1, 1) := by decide +kernel
theorem d_Mo_isPerson_5 : decode c_Mo_isPerson 5 = .ok (.aload_n 0, 1) := by decide +kernel
theorem d_Mo_isPerson_6 : decode c_Mo_isPerson 6 = .ok (.getfield 68, 3) := by decide +kernel
theorem d_Mo_isPerson_9 : decode c_Mo_isPerson 9 = .ok (.if_icmp .ge 7, 3) := by decide +kernel
theorem d_Mo_isPerson_12 : decode c_Mo_isPerson 12 = .ok (.iconst 1, 1) := by decide +kernel
theorem d_Mo_isPerson_13 : decode c_Mo_isPerson 13 = .ok (.goto 4, 3) := by decide +kernel
theorem d_Mo_isPerson_16 : decode c_Mo_isPerson 16 = .ok (.iconst 0, 1) := by decide +kernel
theorem d_Mo_isPerson_17 : decode c_Mo_isPerson 17 = .ok (.ireturn, 1) := by decide +kernel
theorem d_Mo_room_0 : decode c_Mo_room 0 = .ok (.aload_n 0, 1) := by decide +kernel
theorem d_Mo_room_1 : decode c_Mo_room 1 = .ok (.iload_n 1, 1) := by decide +kernel
theorem d_Mo_room_2 : decode c_Mo_room 2 = .ok (.i2l, 1) := by decide +kernel
theorem d_Mo_room_3 : decode c_Mo_room 3 = .ok (.lconst 1, 1) := by decide +kernel
theorem d_Mo_room_4 : decode c_Mo_room 4 = .ok (.ldc2_w 71, 3) := by decide +kernel
theorem d_Mo_room_7 : decode c_Mo_room 7 = .ok (.invokestatic 73, 3) := by decide +kernel
theorem d_Mo_room_10 : decode c_Mo_room 10 = .ok (.aload_n 0, 1) := by decide +kernel
theorem d_Mo_room_11 : decode c_Mo_room 11 = .ok (.getfield 77, 3) := by decide +kernel
theorem d_Mo_room_14 : decode c_Mo_room 14 = .ok (.ifCond .ne 16, 3) := by decide +kernel
theorem d_Mo_room_17 : decode c_Mo_room 17 = .ok (.aload_n 0, 1) := by decide +kernel
theorem d_Mo_room_18 : decode c_Mo_room 18 = .ok (.getfield 65, 3) := by decide +kernel
theorem d_Mo_room_21 : decode c_Mo_room 21 = .ok (.bipush 12, 2) := by decide +kernel
theorem d_Mo_room_23 : decode c_Mo_room 23 = .ok (.if_icmp .ge 7, 3) := by decide +kernel
theorem d_Mo_room_26 : decode c_Mo_room 26 = .ok (.iconst 1, 1) := by decide +kernel
theorem d_Mo_room_27 : decode c_Mo_room 27 = .ok (.goto 4, 3) := by decide +kernel
theorem d_Mo_room_30 : decode c_Mo_room 30 = .ok (.iconst 0, 1) := by decide +kernel
theorem d_Mo_room_31 : decode c_Mo_room 31 = .ok (.invokevirtual 80, 3) := by decide +kernel
theorem d_Mo_room_34 : decode c_Mo_room 34 = .ok (.ifCond .ne 5, 3) := by decide +kernel
theorem d_Mo_room_37 : decode c_Mo_room 37 = .ok (.iconst 0, 1) := by decide +kernel
theorem d_Mo_room_38 : decode c_Mo_room 38 = .ok (.ireturn, 1) := by decide +kernel
theorem d_Mo_room_39 : decode c_Mo_room 39 = .ok (.aload_n 0, 1) := by decide +kernel
theorem d_Mo_room_40 : decode c_Mo_room 40 = .ok (.getfield 7, 3) := by decide +kernel
theorem d_Mo_room_43 : decode c_Mo_room 43 = .ok (.aload_n 0, 1) := by decide +kernel
theorem d_Mo_room_44 : decode c_Mo_room 44 = .ok (.getfield 65, 3) := by decide +kernel
theorem d_Mo_room_47 : decode c_Mo_room 47 = .ok (.iload_n 1, 1) := by decide +kernel
theorem d_Mo_room_48 : decode c_Mo_room 48 = .ok (.iastore, 1) := by decide +kernel
theorem d_Mo_room_49 : decode c_Mo_room 49 = .ok (.aload_n 0, 1) := by decide +kernel
theorem d_Mo_room_50 : decode c_Mo_room 50 = .ok (.dup, 1) := by decide +kernel
theorem d_Mo_room_51 : decode c_Mo_room 51 = .ok (.getfield 65, 3) := by decide +kernel
theorem d_Mo_room_54 : decode c_Mo_room 54 = .ok (.iconst 1, 1) := by decide +kernel
theorem d_Mo_room_55 : decode c_Mo_room 55 = .ok (.iadd, 1) := by decide +kernel
theorem d_Mo_room_56 : decode c_Mo_room 56 = .ok (.putfield 65, 3) := by decide +kernel
theorem d_Mo_room_59 : decode c_Mo_room 59 = .ok (.aload_n 0, 1) := by decide +kernel
theorem d_Mo_room_60 : decode c_Mo_room 60 = .ok (.getfield 65, 3) := by decide +kernel
theorem d_Mo_room_63 : decode c_Mo_room 63 = .ok (.iconst 1, 1) := by decide +kernel
theorem d_Mo_room_64 : decode c_Mo_room 64 = .ok (.isub, 1) := by decide +kernel
theorem d_Mo_room_65 : decode c_Mo_room 65 = .ok (.ireturn, 1) := by decide +kernel
theorem d_Mo_door_0 : decode c_Mo_door 0 = .ok (.aload_n 0, 1) := by decide +kernel
theorem d_Mo_door_1 : decode c_Mo_door 1 = .ok (.aload_n 0, 1) := by decide +kernel
theorem d_Mo_door_2 : decode c_Mo_door 2 = .ok (.iload_n 1, 1) := by decide +kernel
theorem d_Mo_door_3 : decode c_Mo_door 3 = .ok (.invokevirtual 84, 3) := by decide +kernel
theorem d_Mo_door_6 : decode c_Mo_door 6 = .ok (.ifCond .eq 32, 3) := by decide +kernel
theorem d_Mo_door_9 : decode c_Mo_door 9 = .ok (.aload_n 0, 1) := by decide +kernel
theorem d_Mo_door_10 : decode c_Mo_door 10 = .ok (.iload_n 2, 1) := by decide +kernel
theorem d_Mo_door_11 : decode c_Mo_door 11 = .ok (.invokevirtual 84, 3) := by decide +kernel
theorem d_Mo_door_14 : decode c_Mo_door 14 = .ok (.ifCond .eq 24, 3) := by decide +kernel
theorem d_Mo_door_17 : decode c_Mo_door 17 = .ok (.iload_n 1, 1) := by decide +kernel
theorem d_Mo_door_18 : decode c_Mo_door 18 = .ok (.iload_n 2, 1) := by decide +kernel
theorem d_Mo_door_19 : decode c_Mo_door 19 = .ok (.if_icmp .eq 19, 3) := by decide +kernel
theorem d_Mo_door_22 : decode c_Mo_door 22 = .ok (.iload_n 3, 1) := by decide +kernel
theorem d_Mo_door_23 : decode c_Mo_door 23 = .ok (.i2l, 1) := by decide +kernel
theorem d_Mo_door_24 : decode c_Mo_door 24 = .ok (.lconst 1, 1) := by decide +kernel
theorem d_Mo_door_25 : decode c_Mo_door 25 = .ok (.ldc2_w 88, 3) := by decide +kernel
theorem d_Mo_door_28 : decode c_Mo_door 28 = .ok (.invokestatic 73, 3) := by decide +kernel
theorem d_Mo_door_31 : decode c_Mo_door 31 = .ok (.ifCond .eq 7, 3) := by decide +kernel
theorem d_Mo_door_34 : decode c_Mo_door 34 = .ok (.iconst 1, 1) := by decide +kernel
theorem d_Mo_door_35 : decode c_Mo_door 35 = .ok (.goto 4, 3) := by decide +kernel
theorem d_Mo_door_38 : decode c_Mo_door 38 = .ok (.iconst 0, 1) := by decide +kernel
theorem d_Mo_door_39 : decode c_Mo_door 39 = .ok (.aload_n 0, 1) := by decide +kernel
theorem d_Mo_door_40 : decode c_Mo_door 40 = .ok (.getfield 77, 3) := by decide +kernel
theorem d_Mo_door_43 : decode c_Mo_door 43 = .ok (.ifCond .ne 16, 3) := by decide +kernel
theorem d_Mo_door_46 : decode c_Mo_door 46 = .ok (.aload_n 0, 1) := by decide +kernel
theorem d_Mo_door_47 : decode c_Mo_door 47 = .ok (.getfield 90, 3) := by decide +kernel
theorem d_Mo_door_50 : decode c_Mo_door 50 = .ok (.bipush 16, 2) := by decide +kernel
theorem d_Mo_door_52 : decode c_Mo_door 52 = .ok (.if_icmp .ge 7, 3) := by decide +kernel
theorem d_Mo_door_55 : decode c_Mo_door 55 = .ok (.iconst 1, 1) := by decide +kernel
theorem d_Mo_door_56 : decode c_Mo_door 56 = .ok (.goto 4, 3) := by decide +kernel
theorem d_Mo_door_59 : decode c_Mo_door 59 = .ok (.iconst 0, 1) := by decide +kernel
theorem d_Mo_door_60 : decode c_Mo_door 60 = .ok (.invokevirtual 80, 3) := by decide +kernel
theorem d_Mo_door_63 : decode c_Mo_door 63 = .ok (.ifCond .ne 5, 3) := by decide +kernel
theorem d_Mo_door_66 : decode c_Mo_door 66 = .ok (.iconst 0, 1) := by decide +kernel
theorem d_Mo_door_67 : decode c_Mo_door 67 = .ok (.ireturn, 1) := by decide +kernel
theorem d_Mo_door_68 : decode c_Mo_door 68 = .ok (.aload_n 0, 1) := by decide +kernel
theorem d_Mo_door_69 : decode c_Mo_door 69 = .ok (.getfield 25, 3) := by decide +kernel
theorem d_Mo_door_72 : decode c_Mo_door 72 = .ok (.aload_n 0, 1) := by decide +kernel
theorem d_Mo_door_73 : decode c_Mo_door 73 = .ok (.getfield 90, 3) := by decide +kernel
theorem d_Mo_door_76 : decode c_Mo_door 76 = .ok (.iload_n 1, 1) := by decide +kernel
theorem d_Mo_door_77 : decode c_Mo_door 77 = .ok (.iastore, 1) := by decide +kernel
theorem d_Mo_door_78 : decode c_Mo_door 78 = .ok (.aload_n 0, 1) := by decide +kernel
theorem d_Mo_door_79 : decode c_Mo_door 79 = .ok (.getfield 28, 3) := by decide +kernel
theorem d_Mo_door_82 : decode c_Mo_door 82 = .ok (.aload_n 0, 1) := by decide +kernel
theorem d_Mo_door_83 : decode c_Mo_door 83 = .ok (.getfield 90, 3) := by decide +kernel
theorem d_Mo_door_86 : decode c_Mo_door 86 = .ok (.iload_n 2, 1) := by decide +kernel
theorem d_Mo_door_87 : decode c_Mo_door 87 = .ok (.iastore, 1) := by decide +kernel
theorem d_Mo_door_88 : decode c_Mo_door 88 = .ok (.aload_n 0, 1) := by decide +kernel
theorem d_Mo_door_89 : decode c_Mo_door 89 = .ok (.getfield 31, 3) := by decide +kernel
theorem d_Mo_door_92 : decode c_Mo_door 92 = .ok (.aload_n 0, 1) := by decide +kernel
theorem d_Mo_door_93 : decode c_Mo_door 93 = .ok (.getfield 90, 3) := by decide +kernel
theorem d_Mo_door_96 : decode c_Mo_door 96 = .ok (.iload_n 3, 1) := by decide +kernel
theorem d_Mo_door_97 : decode c_Mo_door 97 = .ok (.iastore, 1) := by decide +kernel
theorem d_Mo_door_98 : decode c_Mo_door 98 = .ok (.aload_n 0, 1) := by decide +kernel
theorem d_Mo_door_99 : decode c_Mo_door 99 = .ok (.dup, 1) := by decide +kernel
theorem d_Mo_door_100 : decode c_Mo_door 100 = .ok (.getfield 90, 3) := by decide +kernel
theorem d_Mo_door_103 : decode c_Mo_door 103 = .ok (.iconst 1, 1) := by decide +kernel
theorem d_Mo_door_104 : decode c_Mo_door 104 = .ok (.iadd, 1) := by decide +kernel
theorem d_Mo_door_105 : decode c_Mo_door 105 = .ok (.putfield 90, 3) := by decide +kernel
theorem d_Mo_door_108 : decode c_Mo_door 108 = .ok (.aload_n 0, 1) := by decide +kernel
theorem d_Mo_door_109 : decode c_Mo_door 109 = .ok (.iload_n 1, 1) := by decide +kernel
theorem d_Mo_door_110 : decode c_Mo_door 110 = .ok (.iload_n 2, 1) := by decide +kernel
theorem d_Mo_door_111 : decode c_Mo_door 111 = .ok (.invokevirtual 93, 3) := by decide +kernel
theorem d_Mo_door_114 : decode c_Mo_door 114 = .ok (.aload_n 0, 1) := by decide +kernel
theorem d_Mo_door_115 : decode c_Mo_door 115 = .ok (.iload_n 2, 1) := by decide +kernel
theorem d_Mo_door_116 : decode c_Mo_door 116 = .ok (.iload_n 1, 1) := by decide +kernel
theorem d_Mo_door_117 : decode c_Mo_door 117 = .ok (.invokevirtual 93, 3) := by decide +kernel
theorem d_Mo_door_120 : decode c_Mo_door 120 = .ok (.aload_n 0, 1) := by decide +kernel
theorem d_Mo_door_121 : decode c_Mo_door 121 = .ok (.getfield 90, 3) := by decide +kernel
theorem d_Mo_door_124 : decode c_Mo_door 124 = .ok (.iconst 1, 1) := by decide +kernel
theorem d_Mo_door_125 : decode c_Mo_door 125 = .ok (.isub, 1) := by decide +kernel
theorem d_Mo_door_126 : decode c_Mo_door 126 = .ok (.ireturn, 1) := by decide +kernel
theorem d_Mo_shorten_0 : decode c_Mo_shorten 0 = .ok (.iconst 0, 1) := by decide +kernel
theorem d_Mo_shorten_1 : decode c_Mo_shorten 1 = .ok (.istore_n 3, 1) := by decide +kernel
theorem d_Mo_shorten_2 : decode c_Mo_shorten 2 = .ok (.iload_n 3, 1) := by decide +kernel
theorem d_Mo_shorten_3 : decode c_Mo_shorten 3 = .ok (.bipush 12, 2) := by decide +kernel
theorem d_Mo_shorten_5 : decode c_Mo_shorten 5 = .ok (.if_icmp .ge 129, 3) := by decide +kernel
theorem d_Mo_shorten_8 : decode c_Mo_shorten 8 = .ok (.iconst 0, 1) := by decide +kernel
theorem d_Mo_shorten_9 : decode c_Mo_shorten 9 = .ok (.istore 4, 2) := by decide +kernel
theorem d_Mo_shorten_11 : decode c_Mo_shorten 11 = .ok (.iload 4, 2) := by decide +kernel
theorem d_Mo_shorten_13 : decode c_Mo_shorten 13 = .ok (.bipush 12, 2) := by decide +kernel
theorem d_Mo_shorten_15 : decode c_Mo_shorten 15 = .ok (.if_icmp .ge 113, 3) := by decide +kernel
theorem d_Mo_shorten_18 : decode c_Mo_shorten 18 = .ok (.aload_n 0, 1) := by decide +kernel
theorem d_Mo_shorten_19 : decode c_Mo_shorten 19 = .ok (.getfield 22, 3) := by decide +kernel
theorem d_Mo_shorten_22 : decode c_Mo_shorten 22 = .ok (.bipush 12, 2) := by decide +kernel
theorem d_Mo_shorten_24 : decode c_Mo_shorten 24 = .ok (.iload_n 3, 1) := by decide +kernel
theorem d_Mo_shorten_25 : decode c_Mo_shorten 25 = .ok (.imul, 1) := by decide +kernel
theorem d_Mo_shorten_26 : decode c_Mo_shorten 26 = .ok (.iload_n 1, 1) := by decide +kernel
theorem d_Mo_shorten_27 : decode c_Mo_shorten 27 = .ok (.iadd, 1) := by decide +kernel
theorem d_Mo_shorten_28 : decode c_Mo_shorten 28 = .ok (.iaload, 1) := by decide +kernel
theorem d_Mo_shorten_29 : decode c_Mo_shorten 29 = .ok (.istore 5, 2) := by decide +kernel
theorem d_Mo_shorten_31 : decode c_Mo_shorten 31 = .ok (.aload_n 0, 1) := by decide +kernel
theorem d_Mo_shorten_32 : decode c_Mo_shorten 32 = .ok (.getfield 22, 3) := by decide +kernel
theorem d_Mo_shorten_35 : decode c_Mo_shorten 35 = .ok (.bipush 12, 2) := by decide +kernel
theorem d_Mo_shorten_37 : decode c_Mo_shorten 37 = .ok (.iload_n 2, 1) := by decide +kernel
theorem d_Mo_shorten_38 : decode c_Mo_shorten 38 = .ok (.imul, 1) := by decide +kernel
theorem d_Mo_shorten_39 : decode c_Mo_shorten 39 = .ok (.iload 4, 2) := by decide +kernel
theorem d_Mo_shorten_41 : decode c_Mo_shorten 41 = .ok (.iadd, 1) := by decide +kernel
theorem d_Mo_shorten_42 : decode c_Mo_shorten 42 = .ok (.iaload, 1) := by decide +kernel
theorem d_Mo_shorten_43 : decode c_Mo_shorten 43 = .ok (.istore 6, 2) := by decide +kernel
theorem d_Mo_shorten_45 : decode c_Mo_shorten 45 = .ok (.aload_n 0, 1) := by decide +kernel
theorem d_Mo_shorten_46 : decode c_Mo_shorten 46 = .ok (.getfield 22, 3) := by decide +kernel
theorem d_Mo_shorten_49 : decode c_Mo_shorten 49 = .ok (.bipush 12, 2) := by decide +kernel
theorem d_Mo_shorten_51 : decode c_Mo_shorten 51 = .ok (.iload_n 3, 1) := by decide +kernel
theorem d_Mo_shorten_52 : decode c_Mo_shorten 52 = .ok (.imul, 1) := by decide +kernel
theorem d_Mo_shorten_53 : decode c_Mo_shorten 53 = .ok (.iload 4, 2) := by decide +kernel
theorem d_Mo_shorten_55 : decode c_Mo_shorten 55 = .ok (.iadd, 1) := by decide +kernel
theorem d_Mo_shorten_56 : decode c_Mo_shorten 56 = .ok (.iaload, 1) := by decide +kernel
theorem d_Mo_shorten_57 : decode c_Mo_shorten 57 = .ok (.istore 7, 2) := by decide +kernel
theorem d_Mo_shorten_59 : decode c_Mo_shorten 59 = .ok (.iload 5, 2) := by decide +kernel
theorem d_Mo_shorten_61 : decode c_Mo_shorten 61 = .ok (.ifCond .lt 12, 3) := by decide +kernel
theorem d_Mo_shorten_64 : decode c_Mo_shorten 64 = .ok (.iload 6, 2) := by decide +kernel
theorem d_Mo_shorten_66 : decode c_Mo_shorten 66 = .ok (.ifCond .lt 7, 3) := by decide +kernel
theorem d_Mo_shorten_69 : decode c_Mo_shorten 69 = .ok (.iconst 1, 1) := by decide +kernel
theorem d_Mo_shorten_70 : decode c_Mo_shorten 70 = .ok (.goto 4, 3) := by decide +kernel
theorem d_Mo_shorten_73 : decode c_Mo_shorten 73 = .ok (.iconst 0, 1) := by decide +kernel
theorem d_Mo_shorten_74 : decode c_Mo_shorten 74 = .ok (.istore 8, 2) := by decide +kernel
theorem d_Mo_shorten_76 : decode c_Mo_shorten 76 = .ok (.aload_n 0, 1) := by decide +kernel
theorem d_Mo_shorten_77 : decode c_Mo_shorten 77 = .ok (.getfield 22, 3) := by decide +kernel
theorem d_Mo_shorten_80 : decode c_Mo_shorten 80 = .ok (.bipush 12, 2) := by decide +kernel
theorem d_Mo_shorten_82 : decode c_Mo_shorten 82 = .ok (.iload_n 3, 1) := by decide +kernel
theorem d_Mo_shorten_83 : decode c_Mo_shorten 83 = .ok (.imul, 1) := by decide +kernel
theorem d_Mo_shorten_84 : decode c_Mo_shorten 84 = .ok (.iload 4, 2) := by decide +kernel
theorem d_Mo_shorten_86 : decode c_Mo_shorten 86 = .ok (.iadd, 1) := by decide +kernel
theorem d_Mo_shorten_87 : decode c_Mo_shorten 87 = .ok (.iload 8, 2) := by decide +kernel
theorem d_Mo_shorten_89 : decode c_Mo_shorten 89 = .ok (.ifCond .eq 30, 3) := by decide +kernel
theorem d_Mo_shorten_92 : decode c_Mo_shorten 92 = .ok (.iload 7, 2) := by decide +kernel
theorem d_Mo_shorten_94 : decode c_Mo_shorten 94 = .ok (.ifCond .lt 15, 3) := by decide +kernel
theorem d_Mo_shorten_97 : decode c_Mo_shorten 97 = .ok (.iload 5, 2) := by decide +kernel
theorem d_Mo_shorten_99 : decode c_Mo_shorten 99 = .ok (.iload 6, 2) := by decide +kernel
theorem d_Mo_shorten_101 : decode c_Mo_shorten 101 = .ok (.iadd, 1) := by decide +kernel
theorem d_Mo_shorten_102 : decode c_Mo_shorten 102 = .ok (.iconst 1, 1) := by decide +kernel
theorem d_Mo_shorten_103 : decode c_Mo_shorten 103 = .ok (.iadd, 1) := by decide +kernel
theorem d_Mo_shorten_104 : decode c_Mo_shorten 104 = .ok (.iload 7, 2) := by decide +kernel
theorem d_Mo_shorten_106 : decode c_Mo_shorten 106 = .ok (.if_icmp .ge 13, 3) := by decide +kernel
theorem d_Mo_shorten_109 : decode c_Mo_shorten 109 = .ok (.iload 5, 2) := by decide +kernel
theorem d_Mo_shorten_111 : decode c_Mo_shorten 111 = .ok (.iload 6, 2) := by decide +kernel
theorem d_Mo_shorten_113 : decode c_Mo_shorten 113 = .ok (.iadd, 1) := by decide +kernel
theorem d_Mo_shorten_114 : decode c_Mo_shorten 114 = .ok (.iconst 1, 1) := by decide +kernel
theorem d_Mo_shorten_115 : decode c_Mo_shorten 115 = .ok (.iadd, 1) := by decide +kernel
theorem d_Mo_shorten_116 : decode c_Mo_shorten 116 = .ok (.goto 5, 3) := by decide +kernel
theorem d_Mo_shorten_119 : decode c_Mo_shorten 119 = .ok (.iload 7, 2) := by decide +kernel
theorem d_Mo_shorten_121 : decode c_Mo_shorten 121 = .ok (.iastore, 1) := by decide +kernel
theorem d_Mo_shorten_122 : decode c_Mo_shorten 122 = .ok (.iinc 4 1, 3) := by decide +kernel
theorem d_Mo_shorten_125 : decode c_Mo_shorten 125 = .ok (.goto (-114), 3) := by decide +kernel
theorem d_Mo_shorten_128 : decode c_Mo_shorten 128 = .ok (.iinc 3 1, 3) := by decide +kernel
theorem d_Mo_shorten_131 : decode c_Mo_shorten 131 = .ok (.goto (-129), 3) := by decide +kernel
theorem d_Mo_shorten_134 : decode c_Mo_shorten 134 = .ok (.return_, 1) := by decide +kernel
theorem d_Mo_arrives_0 : decode c_Mo_arrives 0 = .ok (.aload_n 0, 1) := by decide +kernel
theorem d_Mo_arrives_1 : decode c_Mo_arrives 1 = .ok (.iload_n 1, 1) := by decide +kernel
theorem d_Mo_arrives_2 : decode c_Mo_arrives 2 = .ok (.i2l, 1) := by decide +kernel
theorem d_Mo_arrives_3 : decode c_Mo_arrives 3 = .ok (.lconst 0, 1) := by decide +kernel
theorem d_Mo_arrives_4 : decode c_Mo_arrives 4 = .ok (.ldc2_w 97, 3) := by decide +kernel
theorem d_Mo_arrives_7 : decode c_Mo_arrives 7 = .ok (.invokestatic 73, 3) := by decide +kernel
theorem d_Mo_arrives_10 : decode c_Mo_arrives 10 = .ok (.ifCond .eq 19, 3) := by decide +kernel
theorem d_Mo_arrives_13 : decode c_Mo_arrives 13 = .ok (.iload_n 2, 1) := by decide +kernel
theorem d_Mo_arrives_14 : decode c_Mo_arrives 14 = .ok (.i2l, 1) := by decide +kernel
theorem d_Mo_arrives_15 : decode c_Mo_arrives 15 = .ok (.lconst 1, 1) := by decide +kernel
theorem d_Mo_arrives_16 : decode c_Mo_arrives 16 = .ok (.ldc2_w 88, 3) := by decide +kernel
theorem d_Mo_arrives_19 : decode c_Mo_arrives 19 = .ok (.invokestatic 73, 3) := by decide +kernel
theorem d_Mo_arrives_22 : decode c_Mo_arrives 22 = .ok (.ifCond .eq 7, 3) := by decide +kernel
theorem d_Mo_arrives_25 : decode c_Mo_arrives 25 = .ok (.iconst 1, 1) := by decide +kernel
theorem d_Mo_arrives_26 : decode c_Mo_arrives 26 = .ok (.goto 4, 3) := by decide +kernel
theorem d_Mo_arrives_29 : decode c_Mo_arrives 29 = .ok (.iconst 0, 1) := by decide +kernel
theorem d_Mo_arrives_30 : decode c_Mo_arrives 30 = .ok (.aload_n 0, 1) := by decide +kernel
theorem d_Mo_arrives_31 : decode c_Mo_arrives 31 = .ok (.getfield 77, 3) := by decide +kernel
theorem d_Mo_arrives_34 : decode c_Mo_arrives 34 = .ok (.ifCond .ne 25, 3) := by decide +kernel
theorem d_Mo_arrives_37 : decode c_Mo_arrives 37 = .ok (.aload_n 0, 1) := by decide +kernel
theorem d_Mo_arrives_38 : decode c_Mo_arrives 38 = .ok (.getfield 65, 3) := by decide +kernel
theorem d_Mo_arrives_41 : decode c_Mo_arrives 41 = .ok (.ifCond .le 18, 3) := by decide +kernel
theorem d_Mo_arrives_44 : decode c_Mo_arrives 44 = .ok (.aload_n 0, 1) := by decide +kernel
theorem d_Mo_arrives_45 : decode c_Mo_arrives 45 = .ok (.getfield 68, 3) := by decide +kernel
theorem d_Mo_arrives_48 : decode c_Mo_arrives 48 = .ok (.iload_n 2, 1) := by decide +kernel
theorem d_Mo_arrives_49 : decode c_Mo_arrives 49 = .ok (.iadd, 1) := by decide +kernel
theorem d_Mo_arrives_50 : decode c_Mo_arrives 50 = .ok (.bipush 60, 2) := by decide +kernel
theorem d_Mo_arrives_52 : decode c_Mo_arrives 52 = .ok (.if_icmp .gt 7, 3) := by decide +kernel
theorem d_Mo_arrives_55 : decode c_Mo_arrives 55 = .ok (.iconst 1, 1) := by decide +kernel
theorem d_Mo_arrives_56 : decode c_Mo_arrives 56 = .ok (.goto 4, 3) := by decide +kernel
theorem d_Mo_arrives_59 : decode c_Mo_arrives 59 = .ok (.iconst 0, 1) := by decide +kernel
theorem d_Mo_arrives_60 : decode c_Mo_arrives 60 = .ok (.invokevirtual 80, 3) := by decide +kernel
theorem d_Mo_arrives_63 : decode c_Mo_arrives 63 = .ok (.ifCond .ne 5, 3) := by decide +kernel
theorem d_Mo_arrives_66 : decode c_Mo_arrives 66 = .ok (.iconst 0, 1) := by decide +kernel
theorem d_Mo_arrives_67 : decode c_Mo_arrives 67 = .ok (.ireturn, 1) := by decide +kernel
theorem d_Mo_arrives_68 : decode c_Mo_arrives 68 = .ok (.aload_n 0, 1) := by decide +kernel
theorem d_Mo_arrives_69 : decode c_Mo_arrives 69 = .ok (.getfield 68, 3) := by decide +kernel
theorem d_Mo_arrives_72 : decode c_Mo_arrives 72 = .ok (.istore_n 3, 1) := by decide +kernel
theorem d_Mo_arrives_73 : decode c_Mo_arrives 73 = .ok (.iload_n 3, 1) := by decide +kernel
theorem d_Mo_arrives_74 : decode c_Mo_arrives 74 = .ok (.ifCond .le 21, 3) := by decide +kernel
theorem d_Mo_arrives_77 : decode c_Mo_arrives 77 = .ok (.aload_n 0, 1) := by decide +kernel
theorem d_Mo_arrives_78 : decode c_Mo_arrives 78 = .ok (.getfield 43, 3) := by decide +kernel
theorem d_Mo_arrives_81 : decode c_Mo_arrives 81 = .ok (.iload_n 3, 1) := by decide +kernel
theorem d_Mo_arrives_82 : decode c_Mo_arrives 82 = .ok (.iconst 1, 1) := by decide +kernel
theorem d_Mo_arrives_83 : decode c_Mo_arrives 83 = .ok (.isub, 1) := by decide +kernel
theorem d_Mo_arrives_84 : decode c_Mo_arrives 84 = .ok (.iaload, 1) := by decide +kernel
theorem d_Mo_arrives_85 : decode c_Mo_arrives 85 = .ok (.iload_n 1, 1) := by decide +kernel
theorem d_Mo_arrives_86 : decode c_Mo_arrives 86 = .ok (.if_icmp .le 9, 3) := by decide +kernel
theorem d_Mo_arrives_89 : decode c_Mo_arrives 89 = .ok (.iinc 3 (-1), 3) := by decide +kernel
theorem d_Mo_arrives_92 : decode c_Mo_arrives 92 = .ok (.goto (-19), 3) := by decide +kernel
theorem d_Mo_arrives_95 : decode c_Mo_arrives 95 = .ok (.aload_n 0, 1) := by decide +kernel
theorem d_Mo_arrives_96 : decode c_Mo_arrives 96 = .ok (.getfield 68, 3) := by decide +kernel
theorem d_Mo_arrives_99 : decode c_Mo_arrives 99 = .ok (.iconst 1, 1) := by decide +kernel
theorem d_Mo_arrives_100 : decode c_Mo_arrives 100 = .ok (.isub, 1) := by decide +kernel
theorem d_Mo_arrives_101 : decode c_Mo_arrives 101 = .ok (.istore 4, 2) := by decide +kernel
theorem d_Mo_arrives_103 : decode c_Mo_arrives 103 = .ok (.iload 4, 2) := by decide +kernel
theorem d_Mo_arrives_105 : decode c_Mo_arrives 105 = .ok (.iload_n 3, 1) := by decide +kernel
theorem d_Mo_arrives_106 : decode c_Mo_arrives 106 = .ok (.if_icmp .lt 25, 3) := by decide +kernel
theorem d_Mo_arrives_109 : decode c_Mo_arrives 109 = .ok (.aload_n 0, 1) := by decide +kernel
theorem d_Mo_arrives_110 : decode c_Mo_arrives 110 = .ok (.getfield 43, 3) := by decide +kernel
theorem d_Mo_arrives_113 : decode c_Mo_arrives 113 = .ok (.iload 4, 2) := by decide +kernel
theorem d_Mo_arrives_115 : decode c_Mo_arrives 115 = .ok (.iload_n 2, 1) := by decide +kernel
theorem d_Mo_arrives_116 : decode c_Mo_arrives 116 = .ok (.iadd, 1) := by decide +kernel
