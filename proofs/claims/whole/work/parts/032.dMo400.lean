theorem d_Mo_arrives_117 : decode c_Mo_arrives 117 = .ok (.aload_n 0, 1) := by decide +kernel
theorem d_Mo_arrives_118 : decode c_Mo_arrives 118 = .ok (.getfield 43, 3) := by decide +kernel
theorem d_Mo_arrives_121 : decode c_Mo_arrives 121 = .ok (.iload 4, 2) := by decide +kernel
theorem d_Mo_arrives_123 : decode c_Mo_arrives 123 = .ok (.iaload, 1) := by decide +kernel
theorem d_Mo_arrives_124 : decode c_Mo_arrives 124 = .ok (.iastore, 1) := by decide +kernel
theorem d_Mo_arrives_125 : decode c_Mo_arrives 125 = .ok (.iinc 4 (-1), 3) := by decide +kernel
theorem d_Mo_arrives_128 : decode c_Mo_arrives 128 = .ok (.goto (-25), 3) := by decide +kernel
theorem d_Mo_arrives_131 : decode c_Mo_arrives 131 = .ok (.iload_n 3, 1) := by decide +kernel
theorem d_Mo_arrives_132 : decode c_Mo_arrives 132 = .ok (.istore 4, 2) := by decide +kernel
theorem d_Mo_arrives_134 : decode c_Mo_arrives 134 = .ok (.iload 4, 2) := by decide +kernel
theorem d_Mo_arrives_136 : decode c_Mo_arrives 136 = .ok (.iload_n 3, 1) := by decide +kernel
theorem d_Mo_arrives_137 : decode c_Mo_arrives 137 = .ok (.iload_n 2, 1) := by decide +kernel
theorem d_Mo_arrives_138 : decode c_Mo_arrives 138 = .ok (.iadd, 1) := by decide +kernel
theorem d_Mo_arrives_139 : decode c_Mo_arrives 139 = .ok (.if_icmp .ge 17, 3) := by decide +kernel
theorem d_Mo_arrives_142 : decode c_Mo_arrives 142 = .ok (.aload_n 0, 1) := by decide +kernel
theorem d_Mo_arrives_143 : decode c_Mo_arrives 143 = .ok (.getfield 43, 3) := by decide +kernel
theorem d_Mo_arrives_146 : decode c_Mo_arrives 146 = .ok (.iload 4, 2) := by decide +kernel
theorem d_Mo_arrives_148 : decode c_Mo_arrives 148 = .ok (.iload_n 1, 1) := by decide +kernel
theorem d_Mo_arrives_149 : decode c_Mo_arrives 149 = .ok (.iastore, 1) := by decide +kernel
theorem d_Mo_arrives_150 : decode c_Mo_arrives 150 = .ok (.iinc 4 1, 3) := by decide +kernel
theorem d_Mo_arrives_153 : decode c_Mo_arrives 153 = .ok (.goto (-19), 3) := by decide +kernel
theorem d_Mo_arrives_156 : decode c_Mo_arrives 156 = .ok (.aload_n 0, 1) := by decide +kernel
theorem d_Mo_arrives_157 : decode c_Mo_arrives 157 = .ok (.dup, 1) := by decide +kernel
theorem d_Mo_arrives_158 : decode c_Mo_arrives 158 = .ok (.getfield 68, 3) := by decide +kernel
theorem d_Mo_arrives_161 : decode c_Mo_arrives 161 = .ok (.iload_n 2, 1) := by decide +kernel
theorem d_Mo_arrives_162 : decode c_Mo_arrives 162 = .ok (.iadd, 1) := by decide +kernel
theorem d_Mo_arrives_163 : decode c_Mo_arrives 163 = .ok (.putfield 68, 3) := by decide +kernel
theorem d_Mo_arrives_166 : decode c_Mo_arrives 166 = .ok (.aload_n 0, 1) := by decide +kernel
theorem d_Mo_arrives_167 : decode c_Mo_arrives 167 = .ok (.getfield 68, 3) := by decide +kernel
theorem d_Mo_arrives_170 : decode c_Mo_arrives 170 = .ok (.ireturn, 1) := by decide +kernel
theorem d_Mo_drawn_0 : decode c_Mo_drawn 0 = .ok (.aload_n 0, 1) := by decide +kernel
theorem d_Mo_drawn_1 : decode c_Mo_drawn 1 = .ok (.getfield 57, 3) := by decide +kernel
theorem d_Mo_drawn_4 : decode c_Mo_drawn 4 = .ok (.ldc2_w 99, 3) := by decide +kernel
theorem d_Mo_drawn_7 : decode c_Mo_drawn 7 = .ok (.ldc2_w 101, 3) := by decide +kernel
theorem d_Mo_drawn_10 : decode c_Mo_drawn 10 = .ok (.iload_n 1, 1) := by decide +kernel
theorem d_Mo_drawn_11 : decode c_Mo_drawn 11 = .ok (.i2l, 1) := by decide +kernel
theorem d_Mo_drawn_12 : decode c_Mo_drawn 12 = .ok (.lmul, 1) := by decide +kernel
theorem d_Mo_drawn_13 : decode c_Mo_drawn 13 = .ok (.iload_n 2, 1) := by decide +kernel
theorem d_Mo_drawn_14 : decode c_Mo_drawn 14 = .ok (.i2l, 1) := by decide +kernel
theorem d_Mo_drawn_15 : decode c_Mo_drawn 15 = .ok (.ladd, 1) := by decide +kernel
theorem d_Mo_drawn_16 : decode c_Mo_drawn 16 = .ok (.lconst 1, 1) := by decide +kernel
theorem d_Mo_drawn_17 : decode c_Mo_drawn 17 = .ok (.ladd, 1) := by decide +kernel
theorem d_Mo_drawn_18 : decode c_Mo_drawn 18 = .ok (.lmul, 1) := by decide +kernel
theorem d_Mo_drawn_19 : decode c_Mo_drawn 19 = .ok (.ladd, 1) := by decide +kernel
theorem d_Mo_drawn_20 : decode c_Mo_drawn 20 = .ok (.lstore 4, 2) := by decide +kernel
theorem d_Mo_drawn_22 : decode c_Mo_drawn 22 = .ok (.lload 4, 2) := by decide +kernel
theorem d_Mo_drawn_24 : decode c_Mo_drawn 24 = .ok (.lload 4, 2) := by decide +kernel
theorem d_Mo_drawn_26 : decode c_Mo_drawn 26 = .ok (.bipush 30, 2) := by decide +kernel
theorem d_Mo_drawn_28 : decode c_Mo_drawn 28 = .ok (.lushr, 1) := by decide +kernel
theorem d_Mo_drawn_29 : decode c_Mo_drawn 29 = .ok (.lxor, 1) := by decide +kernel
theorem d_Mo_drawn_30 : decode c_Mo_drawn 30 = .ok (.ldc2_w 103, 3) := by decide +kernel
theorem d_Mo_drawn_33 : decode c_Mo_drawn 33 = .ok (.lmul, 1) := by decide +kernel
theorem d_Mo_drawn_34 : decode c_Mo_drawn 34 = .ok (.lstore 4, 2) := by decide +kernel
theorem d_Mo_drawn_36 : decode c_Mo_drawn 36 = .ok (.lload 4, 2) := by decide +kernel
theorem d_Mo_drawn_38 : decode c_Mo_drawn 38 = .ok (.lload 4, 2) := by decide +kernel
theorem d_Mo_drawn_40 : decode c_Mo_drawn 40 = .ok (.bipush 27, 2) := by decide +kernel
theorem d_Mo_drawn_42 : decode c_Mo_drawn 42 = .ok (.lushr, 1) := by decide +kernel
theorem d_Mo_drawn_43 : decode c_Mo_drawn 43 = .ok (.lxor, 1) := by decide +kernel
theorem d_Mo_drawn_44 : decode c_Mo_drawn 44 = .ok (.ldc2_w 105, 3) := by decide +kernel
theorem d_Mo_drawn_47 : decode c_Mo_drawn 47 = .ok (.lmul, 1) := by decide +kernel
theorem d_Mo_drawn_48 : decode c_Mo_drawn 48 = .ok (.lstore 4, 2) := by decide +kernel
theorem d_Mo_drawn_50 : decode c_Mo_drawn 50 = .ok (.lload 4, 2) := by decide +kernel
theorem d_Mo_drawn_52 : decode c_Mo_drawn 52 = .ok (.lload 4, 2) := by decide +kernel
theorem d_Mo_drawn_54 : decode c_Mo_drawn 54 = .ok (.bipush 31, 2) := by decide +kernel
theorem d_Mo_drawn_56 : decode c_Mo_drawn 56 = .ok (.lushr, 1) := by decide +kernel
theorem d_Mo_drawn_57 : decode c_Mo_drawn 57 = .ok (.lxor, 1) := by decide +kernel
theorem d_Mo_drawn_58 : decode c_Mo_drawn 58 = .ok (.lstore 4, 2) := by decide +kernel
theorem d_Mo_drawn_60 : decode c_Mo_drawn 60 = .ok (.lload 4, 2) := by decide +kernel
theorem d_Mo_drawn_62 : decode c_Mo_drawn 62 = .ok (.iconst 1, 1) := by decide +kernel
theorem d_Mo_drawn_63 : decode c_Mo_drawn 63 = .ok (.lushr, 1) := by decide +kernel
theorem d_Mo_drawn_64 : decode c_Mo_drawn 64 = .ok (.iload_n 3, 1) := by decide +kernel
theorem d_Mo_drawn_65 : decode c_Mo_drawn 65 = .ok (.i2l, 1) := by decide +kernel
theorem d_Mo_drawn_66 : decode c_Mo_drawn 66 = .ok (.lrem, 1) := by decide +kernel
theorem d_Mo_drawn_67 : decode c_Mo_drawn 67 = .ok (.l2i, 1) := by decide +kernel
theorem d_Mo_drawn_68 : decode c_Mo_drawn 68 = .ok (.ireturn, 1) := by decide +kernel
theorem d_Mo_draw_0 : decode c_Mo_draw 0 = .ok (.aload_n 0, 1) := by decide +kernel
theorem d_Mo_draw_1 : decode c_Mo_draw 1 = .ok (.iload_n 1, 1) := by decide +kernel
theorem d_Mo_draw_2 : decode c_Mo_draw 2 = .ok (.i2l, 1) := by decide +kernel
theorem d_Mo_draw_3 : decode c_Mo_draw 3 = .ok (.lconst 0, 1) := by decide +kernel
theorem d_Mo_draw_4 : decode c_Mo_draw 4 = .ok (.ldc2_w 107, 3) := by decide +kernel
theorem d_Mo_draw_7 : decode c_Mo_draw 7 = .ok (.invokestatic 73, 3) := by decide +kernel
theorem d_Mo_draw_10 : decode c_Mo_draw 10 = .ok (.ifCond .eq 31, 3) := by decide +kernel
theorem d_Mo_draw_13 : decode c_Mo_draw 13 = .ok (.iload_n 2, 1) := by decide +kernel
theorem d_Mo_draw_14 : decode c_Mo_draw 14 = .ok (.i2l, 1) := by decide +kernel
theorem d_Mo_draw_15 : decode c_Mo_draw 15 = .ok (.lconst 0, 1) := by decide +kernel
theorem d_Mo_draw_16 : decode c_Mo_draw 16 = .ok (.ldc2_w 109, 3) := by decide +kernel
theorem d_Mo_draw_19 : decode c_Mo_draw 19 = .ok (.invokestatic 73, 3) := by decide +kernel
theorem d_Mo_draw_22 : decode c_Mo_draw 22 = .ok (.ifCond .eq 19, 3) := by decide +kernel
theorem d_Mo_draw_25 : decode c_Mo_draw 25 = .ok (.iload_n 3, 1) := by decide +kernel
theorem d_Mo_draw_26 : decode c_Mo_draw 26 = .ok (.i2l, 1) := by decide +kernel
theorem d_Mo_draw_27 : decode c_Mo_draw 27 = .ok (.lconst 1, 1) := by decide +kernel
theorem d_Mo_draw_28 : decode c_Mo_draw 28 = .ok (.ldc2_w 111, 3) := by decide +kernel
theorem d_Mo_draw_31 : decode c_Mo_draw 31 = .ok (.invokestatic 73, 3) := by decide +kernel
theorem d_Mo_draw_34 : decode c_Mo_draw 34 = .ok (.ifCond .eq 7, 3) := by decide +kernel
theorem d_Mo_draw_37 : decode c_Mo_draw 37 = .ok (.iconst 1, 1) := by decide +kernel
theorem d_Mo_draw_38 : decode c_Mo_draw 38 = .ok (.goto 4, 3) := by decide +kernel
theorem d_Mo_draw_41 : decode c_Mo_draw 41 = .ok (.iconst 0, 1) := by decide +kernel
theorem d_Mo_draw_42 : decode c_Mo_draw 42 = .ok (.iconst 1, 1) := by decide +kernel
theorem d_Mo_draw_43 : decode c_Mo_draw 43 = .ok (.invokevirtual 80, 3) := by decide +kernel
theorem d_Mo_draw_46 : decode c_Mo_draw 46 = .ok (.ifCond .eq 13, 3) := by decide +kernel
theorem d_Mo_draw_49 : decode c_Mo_draw 49 = .ok (.aload_n 0, 1) := by decide +kernel
theorem d_Mo_draw_50 : decode c_Mo_draw 50 = .ok (.iload_n 1, 1) := by decide +kernel
theorem d_Mo_draw_51 : decode c_Mo_draw 51 = .ok (.iload_n 2, 1) := by decide +kernel
theorem d_Mo_draw_52 : decode c_Mo_draw 52 = .ok (.iload_n 3, 1) := by decide +kernel
theorem d_Mo_draw_53 : decode c_Mo_draw 53 = .ok (.invokevirtual 113, 3) := by decide +kernel
theorem d_Mo_draw_56 : decode c_Mo_draw 56 = .ok (.goto 4, 3) := by decide +kernel
theorem d_Mo_draw_59 : decode c_Mo_draw 59 = .ok (.iconst 0, 1) := by decide +kernel
theorem d_Mo_draw_60 : decode c_Mo_draw 60 = .ok (.ireturn, 1) := by decide +kernel
theorem d_Mo_tell_0 : decode c_Mo_tell 0 = .ok (.aload_n 0, 1) := by decide +kernel
theorem d_Mo_tell_1 : decode c_Mo_tell 1 = .ok (.getfield 43, 3) := by decide +kernel
theorem d_Mo_tell_4 : decode c_Mo_tell 4 = .ok (.iload_n 1, 1) := by decide +kernel
theorem d_Mo_tell_5 : decode c_Mo_tell 5 = .ok (.iaload, 1) := by decide +kernel
theorem d_Mo_tell_6 : decode c_Mo_tell 6 = .ok (.bipush 30, 2) := by decide +kernel
theorem d_Mo_tell_8 : decode c_Mo_tell 8 = .ok (.iadd, 1) := by decide +kernel
theorem d_Mo_tell_9 : decode c_Mo_tell 9 = .ok (.aload_n 0, 1) := by decide +kernel
theorem d_Mo_tell_10 : decode c_Mo_tell 10 = .ok (.iload_n 1, 1) := by decide +kernel
theorem d_Mo_tell_11 : decode c_Mo_tell 11 = .ok (.iconst 1, 1) := by decide +kernel
theorem d_Mo_tell_12 : decode c_Mo_tell 12 = .ok (.bipush 90, 2) := by decide +kernel
theorem d_Mo_tell_14 : decode c_Mo_tell 14 = .ok (.invokevirtual 113, 3) := by decide +kernel
theorem d_Mo_tell_17 : decode c_Mo_tell 17 = .ok (.iadd, 1) := by decide +kernel
theorem d_Mo_tell_18 : decode c_Mo_tell 18 = .ok (.istore_n 3, 1) := by decide +kernel
theorem d_Mo_tell_19 : decode c_Mo_tell 19 = .ok (.iload_n 2, 1) := by decide +kernel
theorem d_Mo_tell_20 : decode c_Mo_tell 20 = .ok (.tableswitch 81 0 4 #[36, 43, 54, 56, 70], 36) := by decide +kernel
theorem d_Mo_tell_56 : decode c_Mo_tell 56 = .ok (.aload_n 0, 1) := by decide +kernel
theorem d_Mo_tell_57 : decode c_Mo_tell 57 = .ok (.getfield 43, 3) := by decide +kernel
theorem d_Mo_tell_60 : decode c_Mo_tell 60 = .ok (.iload_n 1, 1) := by decide +kernel
theorem d_Mo_tell_61 : decode c_Mo_tell 61 = .ok (.iaload, 1) := by decide +kernel
theorem d_Mo_tell_62 : decode c_Mo_tell 62 = .ok (.ireturn, 1) := by decide +kernel
theorem d_Mo_tell_63 : decode c_Mo_tell 63 = .ok (.aload_n 0, 1) := by decide +kernel
theorem d_Mo_tell_64 : decode c_Mo_tell 64 = .ok (.iload_n 1, 1) := by decide +kernel
theorem d_Mo_tell_65 : decode c_Mo_tell 65 = .ok (.iconst 0, 1) := by decide +kernel
theorem d_Mo_tell_66 : decode c_Mo_tell 66 = .ok (.aload_n 0, 1) := by decide +kernel
theorem d_Mo_tell_67 : decode c_Mo_tell 67 = .ok (.getfield 65, 3) := by decide +kernel
theorem d_Mo_tell_70 : decode c_Mo_tell 70 = .ok (.invokevirtual 113, 3) := by decide +kernel
theorem d_Mo_tell_73 : decode c_Mo_tell 73 = .ok (.ireturn, 1) := by decide +kernel
theorem d_Mo_tell_74 : decode c_Mo_tell 74 = .ok (.iload_n 3, 1) := by decide +kernel
theorem d_Mo_tell_75 : decode c_Mo_tell 75 = .ok (.ireturn, 1) := by decide +kernel
theorem d_Mo_tell_76 : decode c_Mo_tell 76 = .ok (.iload_n 3, 1) := by decide +kernel
theorem d_Mo_tell_77 : decode c_Mo_tell 77 = .ok (.bipush 20, 2) := by decide +kernel
theorem d_Mo_tell_79 : decode c_Mo_tell 79 = .ok (.iadd, 1) := by decide +kernel
theorem d_Mo_tell_80 : decode c_Mo_tell 80 = .ok (.aload_n 0, 1) := by decide +kernel
theorem d_Mo_tell_81 : decode c_Mo_tell 81 = .ok (.iload_n 1, 1) := by decide +kernel
theorem d_Mo_tell_82 : decode c_Mo_tell 82 = .ok (.iconst 2, 1) := by decide +kernel
theorem d_Mo_tell_83 : decode c_Mo_tell 83 = .ok (.bipush 20, 2) := by decide +kernel
theorem d_Mo_tell_85 : decode c_Mo_tell 85 = .ok (.invokevirtual 113, 3) := by decide +kernel
theorem d_Mo_tell_88 : decode c_Mo_tell 88 = .ok (.iadd, 1) := by decide +kernel
theorem d_Mo_tell_89 : decode c_Mo_tell 89 = .ok (.ireturn, 1) := by decide +kernel
theorem d_Mo_tell_90 : decode c_Mo_tell 90 = .ok (.aload_n 0, 1) := by decide +kernel
theorem d_Mo_tell_91 : decode c_Mo_tell 91 = .ok (.iload_n 1, 1) := by decide +kernel
theorem d_Mo_tell_92 : decode c_Mo_tell 92 = .ok (.iconst 3, 1) := by decide +kernel
theorem d_Mo_tell_93 : decode c_Mo_tell 93 = .ok (.aload_n 0, 1) := by decide +kernel
theorem d_Mo_tell_94 : decode c_Mo_tell 94 = .ok (.getfield 65, 3) := by decide +kernel
theorem d_Mo_tell_97 : decode c_Mo_tell 97 = .ok (.invokevirtual 113, 3) := by decide +kernel
theorem d_Mo_tell_100 : decode c_Mo_tell 100 = .ok (.ireturn, 1) := by decide +kernel
theorem d_Mo_tell_101 : decode c_Mo_tell 101 = .ok (.aload_n 0, 1) := by decide +kernel
theorem d_Mo_tell_102 : decode c_Mo_tell 102 = .ok (.getfield 43, 3) := by decide +kernel
theorem d_Mo_tell_105 : decode c_Mo_tell 105 = .ok (.iload_n 1, 1) := by decide +kernel
theorem d_Mo_tell_106 : decode c_Mo_tell 106 = .ok (.iaload, 1) := by decide +kernel
theorem d_Mo_tell_107 : decode c_Mo_tell 107 = .ok (.sipush 200, 3) := by decide +kernel
theorem d_Mo_tell_110 : decode c_Mo_tell 110 = .ok (.iadd, 1) := by decide +kernel
theorem d_Mo_tell_111 : decode c_Mo_tell 111 = .ok (.aload_n 0, 1) := by decide +kernel
theorem d_Mo_tell_112 : decode c_Mo_tell 112 = .ok (.iload_n 1, 1) := by decide +kernel
theorem d_Mo_tell_113 : decode c_Mo_tell 113 = .ok (.iconst 4, 1) := by decide +kernel
theorem d_Mo_tell_114 : decode c_Mo_tell 114 = .ok (.sipush 200, 3) := by decide +kernel
theorem d_Mo_tell_117 : decode c_Mo_tell 117 = .ok (.invokevirtual 113, 3) := by decide +kernel
theorem d_Mo_tell_120 : decode c_Mo_tell 120 = .ok (.iadd, 1) := by decide +kernel
theorem d_Mo_tell_121 : decode c_Mo_tell 121 = .ok (.ireturn, 1) := by decide +kernel
theorem d_Mo_wants_0 : decode c_Mo_wants 0 = .ok (.aload_n 0, 1) := by decide +kernel
theorem d_Mo_wants_1 : decode c_Mo_wants 1 = .ok (.getfield 77, 3) := by decide +kernel
theorem d_Mo_wants_4 : decode c_Mo_wants 4 = .ok (.aload_n 0, 1) := by decide +kernel
theorem d_Mo_wants_5 : decode c_Mo_wants 5 = .ok (.iload_n 1, 1) := by decide +kernel
theorem d_Mo_wants_6 : decode c_Mo_wants 6 = .ok (.iconst 5, 1) := by decide +kernel
theorem d_Mo_wants_7 : decode c_Mo_wants 7 = .ok (.invokevirtual 117, 3) := by decide +kernel
theorem d_Mo_wants_10 : decode c_Mo_wants 10 = .ok (.if_icmp .lt 5, 3) := by decide +kernel
theorem d_Mo_wants_13 : decode c_Mo_wants 13 = .ok (.iconst (-1), 1) := by decide +kernel
theorem d_Mo_wants_14 : decode c_Mo_wants 14 = .ok (.ireturn, 1) := by decide +kernel
theorem d_Mo_wants_15 : decode c_Mo_wants 15 = .ok (.aload_n 0, 1) := by decide +kernel
theorem d_Mo_wants_16 : decode c_Mo_wants 16 = .ok (.getfield 77, 3) := by decide +kernel
theorem d_Mo_wants_19 : decode c_Mo_wants 19 = .ok (.aload_n 0, 1) := by decide +kernel
theorem d_Mo_wants_20 : decode c_Mo_wants 20 = .ok (.iload_n 1, 1) := by decide +kernel
theorem d_Mo_wants_21 : decode c_Mo_wants 21 = .ok (.iconst 2, 1) := by decide +kernel
theorem d_Mo_wants_22 : decode c_Mo_wants 22 = .ok (.invokevirtual 117, 3) := by decide +kernel
theorem d_Mo_wants_25 : decode c_Mo_wants 25 = .ok (.if_icmp .lt 25, 3) := by decide +kernel
theorem d_Mo_wants_28 : decode c_Mo_wants 28 = .ok (.aload_n 0, 1) := by decide +kernel
theorem d_Mo_wants_29 : decode c_Mo_wants 29 = .ok (.getfield 77, 3) := by decide +kernel
theorem d_Mo_wants_32 : decode c_Mo_wants 32 = .ok (.aload_n 0, 1) := by decide +kernel
theorem d_Mo_wants_33 : decode c_Mo_wants 33 = .ok (.iload_n 1, 1) := by decide +kernel
theorem d_Mo_wants_34 : decode c_Mo_wants 34 = .ok (.iconst 3, 1) := by decide +kernel
theorem d_Mo_wants_35 : decode c_Mo_wants 35 = .ok (.invokevirtual 117, 3) := by decide +kernel
theorem d_Mo_wants_38 : decode c_Mo_wants 38 = .ok (.if_icmp .ge 12, 3) := by decide +kernel
theorem d_Mo_wants_41 : decode c_Mo_wants 41 = .ok (.aload_n 0, 1) := by decide +kernel
theorem d_Mo_wants_42 : decode c_Mo_wants 42 = .ok (.iload_n 1, 1) := by decide +kernel
theorem d_Mo_wants_43 : decode c_Mo_wants 43 = .ok (.iconst 4, 1) := by decide +kernel
theorem d_Mo_wants_44 : decode c_Mo_wants 44 = .ok (.invokevirtual 117, 3) := by decide +kernel
theorem d_Mo_wants_47 : decode c_Mo_wants 47 = .ok (.goto 9, 3) := by decide +kernel
theorem d_Mo_wants_50 : decode c_Mo_wants 50 = .ok (.aload_n 0, 1) := by decide +kernel
theorem d_Mo_wants_51 : decode c_Mo_wants 51 = .ok (.iload_n 1, 1) := by decide +kernel
theorem d_Mo_wants_52 : decode c_Mo_wants 52 = .ok (.iconst 1, 1) := by decide +kernel
theorem d_Mo_wants_53 : decode c_Mo_wants 53 = .ok (.invokevirtual 117, 3) := by decide +kernel
theorem d_Mo_wants_56 : decode c_Mo_wants 56 = .ok (.ireturn, 1) := by decide +kernel
theorem d_Mo_goes_0 : decode c_Mo_goes 0 = .ok (.iload_n 2, 1) := by decide +kernel
theorem d_Mo_goes_1 : decode c_Mo_goes 1 = .ok (.iconst (-1), 1) := by decide +kernel
theorem d_Mo_goes_2 : decode c_Mo_goes 2 = .ok (.if_icmp .eq 20, 3) := by decide +kernel
theorem d_Mo_goes_5 : decode c_Mo_goes 5 = .ok (.aload_n 0, 1) := by decide +kernel
theorem d_Mo_goes_6 : decode c_Mo_goes 6 = .ok (.getfield 13, 3) := by decide +kernel
theorem d_Mo_goes_9 : decode c_Mo_goes 9 = .ok (.iload_n 2, 1) := by decide +kernel
theorem d_Mo_goes_10 : decode c_Mo_goes 10 = .ok (.iaload, 1) := by decide +kernel
theorem d_Mo_goes_11 : decode c_Mo_goes 11 = .ok (.aload_n 0, 1) := by decide +kernel
theorem d_Mo_goes_12 : decode c_Mo_goes 12 = .ok (.getfield 7, 3) := by decide +kernel
theorem d_Mo_goes_15 : decode c_Mo_goes 15 = .ok (.iload_n 2, 1) := by decide +kernel
theorem d_Mo_goes_16 : decode c_Mo_goes 16 = .ok (.iaload, 1) := by decide +kernel
theorem d_Mo_goes_17 : decode c_Mo_goes 17 = .ok (.if_icmp .lt 5, 3) := by decide +kernel
theorem d_Mo_goes_20 : decode c_Mo_goes 20 = .ok (.iconst 0, 1) := by decide +kernel
theorem d_Mo_goes_21 : decode c_Mo_goes 21 = .ok (.ireturn, 1) := by decide +kernel
theorem d_Mo_goes_22 : decode c_Mo_goes 22 = .ok (.aload_n 0, 1) := by decide +kernel
theorem d_Mo_goes_23 : decode c_Mo_goes 23 = .ok (.getfield 46, 3) := by decide +kernel
theorem d_Mo_goes_26 : decode c_Mo_goes 26 = .ok (.iload_n 1, 1) := by decide +kernel
theorem d_Mo_goes_27 : decode c_Mo_goes 27 = .ok (.iaload, 1) := by decide +kernel
theorem d_Mo_goes_28 : decode c_Mo_goes 28 = .ok (.iconst (-1), 1) := by decide +kernel
theorem d_Mo_goes_29 : decode c_Mo_goes 29 = .ok (.if_icmp .eq 18, 3) := by decide +kernel
theorem d_Mo_goes_32 : decode c_Mo_goes 32 = .ok (.aload_n 0, 1) := by decide +kernel
theorem d_Mo_goes_33 : decode c_Mo_goes 33 = .ok (.getfield 13, 3) := by decide +kernel
theorem d_Mo_goes_36 : decode c_Mo_goes 36 = .ok (.aload_n 0, 1) := by decide +kernel
theorem d_Mo_goes_37 : decode c_Mo_goes 37 = .ok (.getfield 46, 3) := by decide +kernel
theorem d_Mo_goes_40 : decode c_Mo_goes 40 = .ok (.iload_n 1, 1) := by decide +kernel
theorem d_Mo_goes_41 : decode c_Mo_goes 41 = .ok (.iaload, 1) := by decide +kernel
theorem d_Mo_goes_42 : decode c_Mo_goes 42 = .ok (.dup2, 1) := by decide +kernel
theorem d_Mo_goes_43 : decode c_Mo_goes 43 = .ok (.iaload, 1) := by decide +kernel
theorem d_Mo_goes_44 : decode c_Mo_goes 44 = .ok (.iconst 1, 1) := by decide +kernel
theorem d_Mo_goes_45 : decode c_Mo_goes 45 = .ok (.isub, 1) := by decide +kernel
theorem d_Mo_goes_46 : decode c_Mo_goes 46 = .ok (.iastore, 1) := by decide +kernel
theorem d_Mo_goes_47 : decode c_Mo_goes 47 = .ok (.iload_n 2, 1) := by decide +kernel
theorem d_Mo_goes_48 : decode c_Mo_goes 48 = .ok (.iconst (-1), 1) := by decide +kernel
theorem d_Mo_goes_49 : decode c_Mo_goes 49 = .ok (.if_icmp .eq 13, 3) := by decide +kernel
theorem d_Mo_goes_52 : decode c_Mo_goes 52 = .ok (.aload_n 0, 1) := by decide +kernel
theorem d_Mo_goes_53 : decode c_Mo_goes 53 = .ok (.getfield 13, 3) := by decide +kernel
theorem d_Mo_goes_56 : decode c_Mo_goes 56 = .ok (.iload_n 2, 1) := by decide +kernel
theorem d_Mo_goes_57 : decode c_Mo_goes 57 = .ok (.dup2, 1) := by decide +kernel
theorem d_Mo_goes_58 : decode c_Mo_goes 58 = .ok (.iaload, 1) := by decide +kernel
theorem d_Mo_goes_59 : decode c_Mo_goes 59 = .ok (.iconst 1, 1) := by decide +kernel
theorem d_Mo_goes_60 : decode c_Mo_goes 60 = .ok (.iadd, 1) := by decide +kernel
theorem d_Mo_goes_61 : decode c_Mo_goes 61 = .ok (.iastore, 1) := by decide +kernel
theorem d_Mo_goes_62 : decode c_Mo_goes 62 = .ok (.aload_n 0, 1) := by decide +kernel
theorem d_Mo_goes_63 : decode c_Mo_goes 63 = .ok (.getfield 46, 3) := by decide +kernel
theorem d_Mo_goes_66 : decode c_Mo_goes 66 = .ok (.iload_n 1, 1) := by decide +kernel
theorem d_Mo_goes_67 : decode c_Mo_goes 67 = .ok (.iload_n 2, 1) := by decide +kernel
theorem d_Mo_goes_68 : decode c_Mo_goes 68 = .ok (.iastore, 1) := by decide +kernel
theorem d_Mo_goes_69 : decode c_Mo_goes 69 = .ok (.iconst 1, 1) := by decide +kernel
theorem d_Mo_goes_70 : decode c_Mo_goes 70 = .ok (.ireturn, 1) := by decide +kernel
theorem d_Mo_doorOf_0 : decode c_Mo_doorOf 0 = .ok (.aload_n 0, 1) := by decide +kernel
theorem d_Mo_doorOf_1 : decode c_Mo_doorOf 1 = .ok (.getfield 22, 3) := by decide +kernel
theorem d_Mo_doorOf_4 : decode c_Mo_doorOf 4 = .ok (.bipush 12, 2) := by decide +kernel
theorem d_Mo_doorOf_6 : decode c_Mo_doorOf 6 = .ok (.iload_n 1, 1) := by decide +kernel
theorem d_Mo_doorOf_7 : decode c_Mo_doorOf 7 = .ok (.imul, 1) := by decide +kernel
theorem d_Mo_doorOf_8 : decode c_Mo_doorOf 8 = .ok (.iload_n 2, 1) := by decide +kernel
theorem d_Mo_doorOf_9 : decode c_Mo_doorOf 9 = .ok (.iadd, 1) := by decide +kernel
theorem d_Mo_doorOf_10 : decode c_Mo_doorOf 10 = .ok (.iaload, 1) := by decide +kernel
theorem d_Mo_doorOf_11 : decode c_Mo_doorOf 11 = .ok (.istore_n 3, 1) := by decide +kernel
theorem d_Mo_doorOf_12 : decode c_Mo_doorOf 12 = .ok (.iconst 0, 1) := by decide +kernel
theorem d_Mo_doorOf_13 : decode c_Mo_doorOf 13 = .ok (.istore 4, 2) := by decide +kernel
theorem d_Mo_doorOf_15 : decode c_Mo_doorOf 15 = .ok (.iload 4, 2) := by decide +kernel
theorem d_Mo_doorOf_17 : decode c_Mo_doorOf 17 = .ok (.aload_n 0, 1) := by decide +kernel
theorem d_Mo_doorOf_18 : decode c_Mo_doorOf 18 = .ok (.getfield 90, 3) := by decide +kernel
theorem d_Mo_doorOf_21 : decode c_Mo_doorOf 21 = .ok (.if_icmp .ge 98, 3) := by decide +kernel
theorem d_Mo_doorOf_24 : decode c_Mo_doorOf 24 = .ok (.iload_n 3, 1) := by decide +kernel
theorem d_Mo_doorOf_25 : decode c_Mo_doorOf 25 = .ok (.ifCond .le 94, 3) := by decide +kernel
theorem d_Mo_doorOf_28 : decode c_Mo_doorOf 28 = .ok (.aload_n 0, 1) := by decide +kernel
theorem d_Mo_doorOf_29 : decode c_Mo_doorOf 29 = .ok (.getfield 25, 3) := by decide +kernel
theorem d_Mo_doorOf_32 : decode c_Mo_doorOf 32 = .ok (.iload 4, 2) := by decide +kernel
theorem d_Mo_doorOf_34 : decode c_Mo_doorOf 34 = .ok (.iaload, 1) := by decide +kernel
theorem d_Mo_doorOf_35 : decode c_Mo_doorOf 35 = .ok (.iload_n 1, 1) := by decide +kernel
theorem d_Mo_doorOf_36 : decode c_Mo_doorOf 36 = .ok (.if_icmp .ne 13, 3) := by decide +kernel
theorem d_Mo_doorOf_39 : decode c_Mo_doorOf 39 = .ok (.aload_n 0, 1) := by decide +kernel
theorem d_Mo_doorOf_40 : decode c_Mo_doorOf 40 = .ok (.getfield 28, 3) := by decide +kernel
theorem d_Mo_doorOf_43 : decode c_Mo_doorOf 43 = .ok (.iload 4, 2) := by decide +kernel
theorem d_Mo_doorOf_45 : decode c_Mo_doorOf 45 = .ok (.iaload, 1) := by decide +kernel
theorem d_Mo_doorOf_46 : decode c_Mo_doorOf 46 = .ok (.goto 25, 3) := by decide +kernel
theorem d_Mo_doorOf_49 : decode c_Mo_doorOf 49 = .ok (.aload_n 0, 1) := by decide +kernel
theorem d_Mo_doorOf_50 : decode c_Mo_doorOf 50 = .ok (.getfield 28, 3) := by decide +kernel
theorem d_Mo_doorOf_53 : decode c_Mo_doorOf 53 = .ok (.iload 4, 2) := by decide +kernel
theorem d_Mo_doorOf_55 : decode c_Mo_doorOf 55 = .ok (.iaload, 1) := by decide +kernel
theorem d_Mo_doorOf_56 : decode c_Mo_doorOf 56 = .ok (.iload_n 1, 1) := by decide +kernel
theorem d_Mo_doorOf_57 : decode c_Mo_doorOf 57 = .ok (.if_icmp .ne 13, 3) := by decide +kernel
theorem d_Mo_doorOf_60 : decode c_Mo_doorOf 60 = .ok (.aload_n 0, 1) := by decide +kernel
theorem d_Mo_doorOf_61 : decode c_Mo_doorOf 61 = .ok (.getfield 25, 3) := by decide +kernel
theorem d_Mo_doorOf_64 : decode c_Mo_doorOf 64 = .ok (.iload 4, 2) := by decide +kernel
theorem d_Mo_doorOf_66 : decode c_Mo_doorOf 66 = .ok (.iaload, 1) := by decide +kernel
theorem d_Mo_doorOf_67 : decode c_Mo_doorOf 67 = .ok (.goto 4, 3) := by decide +kernel
theorem d_Mo_doorOf_70 : decode c_Mo_doorOf 70 = .ok (.iconst (-1), 1) := by decide +kernel
theorem d_Mo_doorOf_71 : decode c_Mo_doorOf 71 = .ok (.istore 5, 2) := by decide +kernel
theorem d_Mo_doorOf_73 : decode c_Mo_doorOf 73 = .ok (.iload 5, 2) := by decide +kernel
theorem d_Mo_doorOf_75 : decode c_Mo_doorOf 75 = .ok (.iconst (-1), 1) := by decide +kernel
theorem d_Mo_doorOf_76 : decode c_Mo_doorOf 76 = .ok (.if_icmp .eq 37, 3) := by decide +kernel
theorem d_Mo_doorOf_79 : decode c_Mo_doorOf 79 = .ok (.aload_n 0, 1) := by decide +kernel
theorem d_Mo_doorOf_80 : decode c_Mo_doorOf 80 = .ok (.getfield 22, 3) := by decide +kernel
theorem d_Mo_doorOf_83 : decode c_Mo_doorOf 83 = .ok (.bipush 12, 2) := by decide +kernel
theorem d_Mo_doorOf_85 : decode c_Mo_doorOf 85 = .ok (.iload 5, 2) := by decide +kernel
theorem d_Mo_doorOf_87 : decode c_Mo_doorOf 87 = .ok (.imul, 1) := by decide +kernel
theorem d_Mo_doorOf_88 : decode c_Mo_doorOf 88 = .ok (.iload_n 2, 1) := by decide +kernel
theorem d_Mo_doorOf_89 : decode c_Mo_doorOf 89 = .ok (.iadd, 1) := by decide +kernel
theorem d_Mo_doorOf_90 : decode c_Mo_doorOf 90 = .ok (.iaload, 1) := by decide +kernel
theorem d_Mo_doorOf_91 : decode c_Mo_doorOf 91 = .ok (.ifCond .lt 22, 3) := by decide +kernel
theorem d_Mo_doorOf_94 : decode c_Mo_doorOf 94 = .ok (.aload_n 0, 1) := by decide +kernel
theorem d_Mo_doorOf_95 : decode c_Mo_doorOf 95 = .ok (.getfield 22, 3) := by decide +kernel
theorem d_Mo_doorOf_98 : decode c_Mo_doorOf 98 = .ok (.bipush 12, 2) := by decide +kernel
theorem d_Mo_doorOf_100 : decode c_Mo_doorOf 100 = .ok (.iload 5, 2) := by decide +kernel
theorem d_Mo_doorOf_102 : decode c_Mo_doorOf 102 = .ok (.imul, 1) := by decide +kernel
theorem d_Mo_doorOf_103 : decode c_Mo_doorOf 103 = .ok (.iload_n 2, 1) := by decide +kernel
theorem d_Mo_doorOf_104 : decode c_Mo_doorOf 104 = .ok (.iadd, 1) := by decide +kernel
theorem d_Mo_doorOf_105 : decode c_Mo_doorOf 105 = .ok (.iaload, 1) := by decide +kernel
theorem d_Mo_doorOf_106 : decode c_Mo_doorOf 106 = .ok (.iload_n 3, 1) := by decide +kernel
theorem d_Mo_doorOf_107 : decode c_Mo_doorOf 107 = .ok (.if_icmp .ge 6, 3) := by decide +kernel
theorem d_Mo_doorOf_110 : decode c_Mo_doorOf 110 = .ok (.iload 4, 2) := by decide +kernel
theorem d_Mo_doorOf_112 : decode c_Mo_doorOf 112 = .ok (.ireturn, 1) := by decide +kernel
theorem d_Mo_doorOf_113 : decode c_Mo_doorOf 113 = .ok (.iinc 4 1, 3) := by decide +kernel
theorem d_Mo_doorOf_116 : decode c_Mo_doorOf 116 = .ok (.goto (-101), 3) := by decide +kernel
theorem d_Mo_doorOf_119 : decode c_Mo_doorOf 119 = .ok (.iconst (-1), 1) := by decide +kernel
theorem d_Mo_doorOf_120 : decode c_Mo_doorOf 120 = .ok (.ireturn, 1) := by decide +kernel
theorem d_Mo_throughDoor_0 : decode c_Mo_throughDoor 0 = .ok (.aload_n 0, 1) := by decide +kernel
theorem d_Mo_throughDoor_1 : decode c_Mo_throughDoor 1 = .ok (.aload_n 0, 1) := by decide +kernel
theorem d_Mo_throughDoor_2 : decode c_Mo_throughDoor 2 = .ok (.getfield 46, 3) := by decide +kernel
theorem d_Mo_throughDoor_5 : decode c_Mo_throughDoor 5 = .ok (.iload_n 1, 1) := by decide +kernel
theorem d_Mo_throughDoor_6 : decode c_Mo_throughDoor 6 = .ok (.iaload, 1) := by decide +kernel
theorem d_Mo_throughDoor_7 : decode c_Mo_throughDoor 7 = .ok (.iload_n 2, 1) := by decide +kernel
theorem d_Mo_throughDoor_8 : decode c_Mo_throughDoor 8 = .ok (.invokevirtual 121, 3) := by decide +kernel
theorem d_Mo_throughDoor_11 : decode c_Mo_throughDoor 11 = .ok (.istore_n 3, 1) := by decide +kernel
theorem d_Mo_throughDoor_12 : decode c_Mo_throughDoor 12 = .ok (.iload_n 3, 1) := by decide +kernel
theorem d_Mo_throughDoor_13 : decode c_Mo_throughDoor 13 = .ok (.iconst (-1), 1) := by decide +kernel
theorem d_Mo_throughDoor_14 : decode c_Mo_throughDoor 14 = .ok (.if_icmp .ne 4, 3) := by decide +kernel
theorem d_Mo_throughDoor_17 : decode c_Mo_throughDoor 17 = .ok (.return_, 1) := by decide +kernel
theorem d_Mo_throughDoor_18 : decode c_Mo_throughDoor 18 = .ok (.aload_n 0, 1) := by decide +kernel
theorem d_Mo_throughDoor_19 : decode c_Mo_throughDoor 19 = .ok (.getfield 25, 3) := by decide +kernel
theorem d_Mo_throughDoor_22 : decode c_Mo_throughDoor 22 = .ok (.iload_n 3, 1) := by decide +kernel
theorem d_Mo_throughDoor_23 : decode c_Mo_throughDoor 23 = .ok (.iaload, 1) := by decide +kernel
theorem d_Mo_throughDoor_24 : decode c_Mo_throughDoor 24 = .ok (.aload_n 0, 1) := by decide +kernel
theorem d_Mo_throughDoor_25 : decode c_Mo_throughDoor 25 = .ok (.getfield 46, 3) := by decide +kernel
theorem d_Mo_throughDoor_28 : decode c_Mo_throughDoor 28 = .ok (.iload_n 1, 1) := by decide +kernel
theorem d_Mo_throughDoor_29 : decode c_Mo_throughDoor 29 = .ok (.iaload, 1) := by decide +kernel
theorem d_Mo_throughDoor_30 : decode c_Mo_throughDoor 30 = .ok (.if_icmp .ne 7, 3) := by decide +kernel
theorem d_Mo_throughDoor_33 : decode c_Mo_throughDoor 33 = .ok (.iconst 1, 1) := by decide +kernel
theorem d_Mo_throughDoor_34 : decode c_Mo_throughDoor 34 = .ok (.goto 4, 3) := by decide +kernel
theorem d_Mo_throughDoor_37 : decode c_Mo_throughDoor 37 = .ok (.iconst 0, 1) := by decide +kernel
theorem d_Mo_throughDoor_38 : decode c_Mo_throughDoor 38 = .ok (.istore 4, 2) := by decide +kernel
theorem d_Mo_throughDoor_40 : decode c_Mo_throughDoor 40 = .ok (.aload_n 0, 1) := by decide +kernel
theorem d_Mo_throughDoor_41 : decode c_Mo_throughDoor 41 = .ok (.getfield 34, 3) := by decide +kernel
theorem d_Mo_throughDoor_44 : decode c_Mo_throughDoor 44 = .ok (.iload_n 3, 1) := by decide +kernel
theorem d_Mo_throughDoor_45 : decode c_Mo_throughDoor 45 = .ok (.iaload, 1) := by decide +kernel
theorem d_Mo_throughDoor_46 : decode c_Mo_throughDoor 46 = .ok (.aload_n 0, 1) := by decide +kernel
theorem d_Mo_throughDoor_47 : decode c_Mo_throughDoor 47 = .ok (.getfield 31, 3) := by decide +kernel
theorem d_Mo_throughDoor_50 : decode c_Mo_throughDoor 50 = .ok (.iload_n 3, 1) := by decide +kernel
theorem d_Mo_throughDoor_51 : decode c_Mo_throughDoor 51 = .ok (.iaload, 1) := by decide +kernel
theorem d_Mo_throughDoor_52 : decode c_Mo_throughDoor 52 = .ok (.if_icmp .ge 31, 3) := by decide +kernel
theorem d_Mo_throughDoor_55 : decode c_Mo_throughDoor 55 = .ok (.aload_n 0, 1) := by decide +kernel
theorem d_Mo_throughDoor_56 : decode c_Mo_throughDoor 56 = .ok (.iload_n 1, 1) := by decide +kernel
theorem d_Mo_throughDoor_57 : decode c_Mo_throughDoor 57 = .ok (.iload 4, 2) := by decide +kernel
theorem d_Mo_throughDoor_59 : decode c_Mo_throughDoor 59 = .ok (.ifCond .eq 12, 3) := by decide +kernel
theorem d_Mo_throughDoor_62 : decode c_Mo_throughDoor 62 = .ok (.aload_n 0, 1) := by decide +kernel
theorem d_Mo_throughDoor_63 : decode c_Mo_throughDoor 63 = .ok (.getfield 28, 3) := by decide +kernel
theorem d_Mo_throughDoor_66 : decode c_Mo_throughDoor 66 = .ok (.iload_n 3, 1) := by decide +kernel
theorem d_Mo_throughDoor_67 : decode c_Mo_throughDoor 67 = .ok (.iaload, 1) := by decide +kernel
theorem d_Mo_throughDoor_68 : decode c_Mo_throughDoor 68 = .ok (.goto 9, 3) := by decide +kernel
theorem d_Mo_throughDoor_71 : decode c_Mo_throughDoor 71 = .ok (.aload_n 0, 1) := by decide +kernel
theorem d_Mo_throughDoor_72 : decode c_Mo_throughDoor 72 = .ok (.getfield 25, 3) := by decide +kernel
theorem d_Mo_throughDoor_75 : decode c_Mo_throughDoor 75 = .ok (.iload_n 3, 1) := by decide +kernel
theorem d_Mo_throughDoor_76 : decode c_Mo_throughDoor 76 = .ok (.iaload, 1) := by decide +kernel
theorem d_Mo_throughDoor_77 : decode c_Mo_throughDoor 77 = .ok (.invokevirtual 124, 3) := by decide +kernel
theorem d_Mo_throughDoor_80 : decode c_Mo_throughDoor 80 = .ok (.ifCond .ne 14, 3) := by decide +kernel
theorem d_Mo_throughDoor_83 : decode c_Mo_throughDoor 83 = .ok (.aload_n 0, 1) := by decide +kernel
theorem d_Mo_throughDoor_84 : decode c_Mo_throughDoor 84 = .ok (.getfield 49, 3) := by decide +kernel
theorem d_Mo_throughDoor_87 : decode c_Mo_throughDoor 87 = .ok (.iload_n 1, 1) := by decide +kernel
theorem d_Mo_throughDoor_88 : decode c_Mo_throughDoor 88 = .ok (.dup2, 1) := by decide +kernel
theorem d_Mo_throughDoor_89 : decode c_Mo_throughDoor 89 = .ok (.iaload, 1) := by decide +kernel
theorem d_Mo_throughDoor_90 : decode c_Mo_throughDoor 90 = .ok (.iconst 1, 1) := by decide +kernel
theorem d_Mo_throughDoor_91 : decode c_Mo_throughDoor 91 = .ok (.iadd, 1) := by decide +kernel
theorem d_Mo_throughDoor_92 : decode c_Mo_throughDoor 92 = .ok (.iastore, 1) := by decide +kernel
theorem d_Mo_throughDoor_93 : decode c_Mo_throughDoor 93 = .ok (.return_, 1) := by decide +kernel
theorem d_Mo_throughDoor_94 : decode c_Mo_throughDoor 94 = .ok (.aload_n 0, 1) := by decide +kernel
theorem d_Mo_throughDoor_95 : decode c_Mo_throughDoor 95 = .ok (.getfield 34, 3) := by decide +kernel
theorem d_Mo_throughDoor_98 : decode c_Mo_throughDoor 98 = .ok (.iload_n 3, 1) := by decide +kernel
theorem d_Mo_throughDoor_99 : decode c_Mo_throughDoor 99 = .ok (.dup2, 1) := by decide +kernel
theorem d_Mo_throughDoor_100 : decode c_Mo_throughDoor 100 = .ok (.iaload, 1) := by decide +kernel
theorem d_Mo_throughDoor_101 : decode c_Mo_throughDoor 101 = .ok (.iconst 1, 1) := by decide +kernel
theorem d_Mo_throughDoor_102 : decode c_Mo_throughDoor 102 = .ok (.iadd, 1) := by decide +kernel
theorem d_Mo_throughDoor_103 : decode c_Mo_throughDoor 103 = .ok (.iastore, 1) := by decide +kernel
theorem d_Mo_throughDoor_104 : decode c_Mo_throughDoor 104 = .ok (.aload_n 0, 1) := by decide +kernel
theorem d_Mo_throughDoor_105 : decode c_Mo_throughDoor 105 = .ok (.getfield 37, 3) := by decide +kernel
theorem d_Mo_throughDoor_108 : decode c_Mo_throughDoor 108 = .ok (.iload_n 3, 1) := by decide +kernel
theorem d_Mo_throughDoor_109 : decode c_Mo_throughDoor 109 = .ok (.dup2, 1) := by decide +kernel
theorem d_Mo_throughDoor_110 : decode c_Mo_throughDoor 110 = .ok (.iaload, 1) := by decide +kernel
theorem d_Mo_throughDoor_111 : decode c_Mo_throughDoor 111 = .ok (.iload 4, 2) := by decide +kernel
theorem d_Mo_throughDoor_113 : decode c_Mo_throughDoor 113 = .ok (.ifCond .eq 7, 3) := by decide +kernel
theorem d_Mo_throughDoor_116 : decode c_Mo_throughDoor 116 = .ok (.iconst 1, 1) := by decide +kernel
theorem d_Mo_throughDoor_117 : decode c_Mo_throughDoor 117 = .ok (.goto 4, 3) := by decide +kernel
theorem d_Mo_throughDoor_120 : decode c_Mo_throughDoor 120 = .ok (.iconst 0, 1) := by decide +kernel
theorem d_Mo_throughDoor_121 : decode c_Mo_throughDoor 121 = .ok (.iadd, 1) := by decide +kernel
theorem d_Mo_throughDoor_122 : decode c_Mo_throughDoor 122 = .ok (.iastore, 1) := by decide +kernel
theorem d_Mo_throughDoor_123 : decode c_Mo_throughDoor 123 = .ok (.aload_n 0, 1) := by decide +kernel
theorem d_Mo_throughDoor_124 : decode c_Mo_throughDoor 124 = .ok (.getfield 40, 3) := by decide +kernel
theorem d_Mo_throughDoor_127 : decode c_Mo_throughDoor 127 = .ok (.iload_n 3, 1) := by decide +kernel
theorem d_Mo_throughDoor_128 : decode c_Mo_throughDoor 128 = .ok (.dup2, 1) := by decide +kernel
