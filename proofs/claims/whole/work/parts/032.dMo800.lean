theorem d_Mo_throughDoor_129 : decode c_Mo_throughDoor 129 = .ok (.iaload, 1) := by decide +kernel
theorem d_Mo_throughDoor_130 : decode c_Mo_throughDoor 130 = .ok (.iload 4, 2) := by decide +kernel
theorem d_Mo_throughDoor_132 : decode c_Mo_throughDoor 132 = .ok (.ifCond .eq 7, 3) := by decide +kernel
theorem d_Mo_throughDoor_135 : decode c_Mo_throughDoor 135 = .ok (.iconst 0, 1) := by decide +kernel
theorem d_Mo_throughDoor_136 : decode c_Mo_throughDoor 136 = .ok (.goto 4, 3) := by decide +kernel
theorem d_Mo_throughDoor_139 : decode c_Mo_throughDoor 139 = .ok (.iconst 1, 1) := by decide +kernel
theorem d_Mo_throughDoor_140 : decode c_Mo_throughDoor 140 = .ok (.iadd, 1) := by decide +kernel
theorem d_Mo_throughDoor_141 : decode c_Mo_throughDoor 141 = .ok (.iastore, 1) := by decide +kernel
theorem d_Mo_throughDoor_142 : decode c_Mo_throughDoor 142 = .ok (.return_, 1) := by decide +kernel
theorem d_Mo_step_0 : decode c_Mo_step 0 = .ok (.aload_n 0, 1) := by decide +kernel
theorem d_Mo_step_1 : decode c_Mo_step 1 = .ok (.iload_n 1, 1) := by decide +kernel
theorem d_Mo_step_2 : decode c_Mo_step 2 = .ok (.invokevirtual 128, 3) := by decide +kernel
theorem d_Mo_step_5 : decode c_Mo_step 5 = .ok (.istore_n 2, 1) := by decide +kernel
theorem d_Mo_step_6 : decode c_Mo_step 6 = .ok (.iload_n 2, 1) := by decide +kernel
theorem d_Mo_step_7 : decode c_Mo_step 7 = .ok (.aload_n 0, 1) := by decide +kernel
theorem d_Mo_step_8 : decode c_Mo_step 8 = .ok (.getfield 46, 3) := by decide +kernel
theorem d_Mo_step_11 : decode c_Mo_step 11 = .ok (.iload_n 1, 1) := by decide +kernel
theorem d_Mo_step_12 : decode c_Mo_step 12 = .ok (.iaload, 1) := by decide +kernel
theorem d_Mo_step_13 : decode c_Mo_step 13 = .ok (.if_icmp .ne 4, 3) := by decide +kernel
theorem d_Mo_step_16 : decode c_Mo_step 16 = .ok (.return_, 1) := by decide +kernel
theorem d_Mo_step_17 : decode c_Mo_step 17 = .ok (.aload_n 0, 1) := by decide +kernel
theorem d_Mo_step_18 : decode c_Mo_step 18 = .ok (.getfield 46, 3) := by decide +kernel
theorem d_Mo_step_21 : decode c_Mo_step 21 = .ok (.iload_n 1, 1) := by decide +kernel
theorem d_Mo_step_22 : decode c_Mo_step 22 = .ok (.iaload, 1) := by decide +kernel
theorem d_Mo_step_23 : decode c_Mo_step 23 = .ok (.iconst (-1), 1) := by decide +kernel
theorem d_Mo_step_24 : decode c_Mo_step 24 = .ok (.if_icmp .ne 38, 3) := by decide +kernel
theorem d_Mo_step_27 : decode c_Mo_step 27 = .ok (.aload_n 0, 1) := by decide +kernel
theorem d_Mo_step_28 : decode c_Mo_step 28 = .ok (.iload_n 1, 1) := by decide +kernel
theorem d_Mo_step_29 : decode c_Mo_step 29 = .ok (.iconst 0, 1) := by decide +kernel
theorem d_Mo_step_30 : decode c_Mo_step 30 = .ok (.invokevirtual 124, 3) := by decide +kernel
theorem d_Mo_step_33 : decode c_Mo_step 33 = .ok (.ifCond .eq 16, 3) := by decide +kernel
theorem d_Mo_step_36 : decode c_Mo_step 36 = .ok (.aload_n 0, 1) := by decide +kernel
theorem d_Mo_step_37 : decode c_Mo_step 37 = .ok (.dup, 1) := by decide +kernel
theorem d_Mo_step_38 : decode c_Mo_step 38 = .ok (.getfield 132, 3) := by decide +kernel
theorem d_Mo_step_41 : decode c_Mo_step 41 = .ok (.iconst 1, 1) := by decide +kernel
theorem d_Mo_step_42 : decode c_Mo_step 42 = .ok (.iadd, 1) := by decide +kernel
theorem d_Mo_step_43 : decode c_Mo_step 43 = .ok (.putfield 132, 3) := by decide +kernel
theorem d_Mo_step_46 : decode c_Mo_step 46 = .ok (.goto 65, 3) := by decide +kernel
theorem d_Mo_step_49 : decode c_Mo_step 49 = .ok (.aload_n 0, 1) := by decide +kernel
theorem d_Mo_step_50 : decode c_Mo_step 50 = .ok (.getfield 49, 3) := by decide +kernel
theorem d_Mo_step_53 : decode c_Mo_step 53 = .ok (.iload_n 1, 1) := by decide +kernel
theorem d_Mo_step_54 : decode c_Mo_step 54 = .ok (.dup2, 1) := by decide +kernel
theorem d_Mo_step_55 : decode c_Mo_step 55 = .ok (.iaload, 1) := by decide +kernel
theorem d_Mo_step_56 : decode c_Mo_step 56 = .ok (.iconst 1, 1) := by decide +kernel
theorem d_Mo_step_57 : decode c_Mo_step 57 = .ok (.iadd, 1) := by decide +kernel
theorem d_Mo_step_58 : decode c_Mo_step 58 = .ok (.iastore, 1) := by decide +kernel
theorem d_Mo_step_59 : decode c_Mo_step 59 = .ok (.goto 52, 3) := by decide +kernel
theorem d_Mo_step_62 : decode c_Mo_step 62 = .ok (.aload_n 0, 1) := by decide +kernel
theorem d_Mo_step_63 : decode c_Mo_step 63 = .ok (.getfield 46, 3) := by decide +kernel
theorem d_Mo_step_66 : decode c_Mo_step 66 = .ok (.iload_n 1, 1) := by decide +kernel
theorem d_Mo_step_67 : decode c_Mo_step 67 = .ok (.iaload, 1) := by decide +kernel
theorem d_Mo_step_68 : decode c_Mo_step 68 = .ok (.ifCond .ne 28, 3) := by decide +kernel
theorem d_Mo_step_71 : decode c_Mo_step 71 = .ok (.iload_n 2, 1) := by decide +kernel
theorem d_Mo_step_72 : decode c_Mo_step 72 = .ok (.iconst (-1), 1) := by decide +kernel
theorem d_Mo_step_73 : decode c_Mo_step 73 = .ok (.if_icmp .ne 23, 3) := by decide +kernel
theorem d_Mo_step_76 : decode c_Mo_step 76 = .ok (.aload_n 0, 1) := by decide +kernel
theorem d_Mo_step_77 : decode c_Mo_step 77 = .ok (.iload_n 1, 1) := by decide +kernel
theorem d_Mo_step_78 : decode c_Mo_step 78 = .ok (.iconst (-1), 1) := by decide +kernel
theorem d_Mo_step_79 : decode c_Mo_step 79 = .ok (.invokevirtual 124, 3) := by decide +kernel
theorem d_Mo_step_82 : decode c_Mo_step 82 = .ok (.pop, 1) := by decide +kernel
theorem d_Mo_step_83 : decode c_Mo_step 83 = .ok (.aload_n 0, 1) := by decide +kernel
theorem d_Mo_step_84 : decode c_Mo_step 84 = .ok (.dup, 1) := by decide +kernel
theorem d_Mo_step_85 : decode c_Mo_step 85 = .ok (.getfield 135, 3) := by decide +kernel
theorem d_Mo_step_88 : decode c_Mo_step 88 = .ok (.iconst 1, 1) := by decide +kernel
theorem d_Mo_step_89 : decode c_Mo_step 89 = .ok (.iadd, 1) := by decide +kernel
theorem d_Mo_step_90 : decode c_Mo_step 90 = .ok (.putfield 135, 3) := by decide +kernel
theorem d_Mo_step_93 : decode c_Mo_step 93 = .ok (.goto 18, 3) := by decide +kernel
theorem d_Mo_step_96 : decode c_Mo_step 96 = .ok (.aload_n 0, 1) := by decide +kernel
theorem d_Mo_step_97 : decode c_Mo_step 97 = .ok (.iload_n 1, 1) := by decide +kernel
theorem d_Mo_step_98 : decode c_Mo_step 98 = .ok (.iload_n 2, 1) := by decide +kernel
theorem d_Mo_step_99 : decode c_Mo_step 99 = .ok (.iconst (-1), 1) := by decide +kernel
theorem d_Mo_step_100 : decode c_Mo_step 100 = .ok (.if_icmp .ne 7, 3) := by decide +kernel
theorem d_Mo_step_103 : decode c_Mo_step 103 = .ok (.iconst 0, 1) := by decide +kernel
theorem d_Mo_step_104 : decode c_Mo_step 104 = .ok (.goto 4, 3) := by decide +kernel
theorem d_Mo_step_107 : decode c_Mo_step 107 = .ok (.iload_n 2, 1) := by decide +kernel
theorem d_Mo_step_108 : decode c_Mo_step 108 = .ok (.invokevirtual 138, 3) := by decide +kernel
theorem d_Mo_step_111 : decode c_Mo_step 111 = .ok (.return_, 1) := by decide +kernel
theorem d_Mo_oneMinute_0 : decode c_Mo_oneMinute 0 = .ok (.iconst 0, 1) := by decide +kernel
theorem d_Mo_oneMinute_1 : decode c_Mo_oneMinute 1 = .ok (.istore_n 1, 1) := by decide +kernel
theorem d_Mo_oneMinute_2 : decode c_Mo_oneMinute 2 = .ok (.iload_n 1, 1) := by decide +kernel
theorem d_Mo_oneMinute_3 : decode c_Mo_oneMinute 3 = .ok (.aload_n 0, 1) := by decide +kernel
theorem d_Mo_oneMinute_4 : decode c_Mo_oneMinute 4 = .ok (.getfield 90, 3) := by decide +kernel
theorem d_Mo_oneMinute_7 : decode c_Mo_oneMinute 7 = .ok (.if_icmp .ge 16, 3) := by decide +kernel
theorem d_Mo_oneMinute_10 : decode c_Mo_oneMinute 10 = .ok (.aload_n 0, 1) := by decide +kernel
theorem d_Mo_oneMinute_11 : decode c_Mo_oneMinute 11 = .ok (.getfield 34, 3) := by decide +kernel
theorem d_Mo_oneMinute_14 : decode c_Mo_oneMinute 14 = .ok (.iload_n 1, 1) := by decide +kernel
theorem d_Mo_oneMinute_15 : decode c_Mo_oneMinute 15 = .ok (.iconst 0, 1) := by decide +kernel
theorem d_Mo_oneMinute_16 : decode c_Mo_oneMinute 16 = .ok (.iastore, 1) := by decide +kernel
theorem d_Mo_oneMinute_17 : decode c_Mo_oneMinute 17 = .ok (.iinc 1 1, 3) := by decide +kernel
theorem d_Mo_oneMinute_20 : decode c_Mo_oneMinute 20 = .ok (.goto (-18), 3) := by decide +kernel
theorem d_Mo_oneMinute_23 : decode c_Mo_oneMinute 23 = .ok (.iconst 0, 1) := by decide +kernel
theorem d_Mo_oneMinute_24 : decode c_Mo_oneMinute 24 = .ok (.istore_n 1, 1) := by decide +kernel
theorem d_Mo_oneMinute_25 : decode c_Mo_oneMinute 25 = .ok (.iload_n 1, 1) := by decide +kernel
theorem d_Mo_oneMinute_26 : decode c_Mo_oneMinute 26 = .ok (.aload_n 0, 1) := by decide +kernel
theorem d_Mo_oneMinute_27 : decode c_Mo_oneMinute 27 = .ok (.getfield 68, 3) := by decide +kernel
theorem d_Mo_oneMinute_30 : decode c_Mo_oneMinute 30 = .ok (.if_icmp .ge 49, 3) := by decide +kernel
theorem d_Mo_oneMinute_33 : decode c_Mo_oneMinute 33 = .ok (.aload_n 0, 1) := by decide +kernel
theorem d_Mo_oneMinute_34 : decode c_Mo_oneMinute 34 = .ok (.getfield 43, 3) := by decide +kernel
theorem d_Mo_oneMinute_37 : decode c_Mo_oneMinute 37 = .ok (.iload_n 1, 1) := by decide +kernel
theorem d_Mo_oneMinute_38 : decode c_Mo_oneMinute 38 = .ok (.iaload, 1) := by decide +kernel
theorem d_Mo_oneMinute_39 : decode c_Mo_oneMinute 39 = .ok (.aload_n 0, 1) := by decide +kernel
theorem d_Mo_oneMinute_40 : decode c_Mo_oneMinute 40 = .ok (.getfield 77, 3) := by decide +kernel
theorem d_Mo_oneMinute_43 : decode c_Mo_oneMinute 43 = .ok (.if_icmp .gt 8, 3) := by decide +kernel
theorem d_Mo_oneMinute_46 : decode c_Mo_oneMinute 46 = .ok (.aload_n 0, 1) := by decide +kernel
theorem d_Mo_oneMinute_47 : decode c_Mo_oneMinute 47 = .ok (.iload_n 1, 1) := by decide +kernel
theorem d_Mo_oneMinute_48 : decode c_Mo_oneMinute 48 = .ok (.invokevirtual 141, 3) := by decide +kernel
theorem d_Mo_oneMinute_51 : decode c_Mo_oneMinute 51 = .ok (.aload_n 0, 1) := by decide +kernel
theorem d_Mo_oneMinute_52 : decode c_Mo_oneMinute 52 = .ok (.getfield 53, 3) := by decide +kernel
theorem d_Mo_oneMinute_55 : decode c_Mo_oneMinute 55 = .ok (.sipush 2000, 3) := by decide +kernel
theorem d_Mo_oneMinute_58 : decode c_Mo_oneMinute 58 = .ok (.iload_n 1, 1) := by decide +kernel
theorem d_Mo_oneMinute_59 : decode c_Mo_oneMinute 59 = .ok (.imul, 1) := by decide +kernel
theorem d_Mo_oneMinute_60 : decode c_Mo_oneMinute 60 = .ok (.aload_n 0, 1) := by decide +kernel
theorem d_Mo_oneMinute_61 : decode c_Mo_oneMinute 61 = .ok (.getfield 77, 3) := by decide +kernel
theorem d_Mo_oneMinute_64 : decode c_Mo_oneMinute 64 = .ok (.iadd, 1) := by decide +kernel
theorem d_Mo_oneMinute_65 : decode c_Mo_oneMinute 65 = .ok (.aload_n 0, 1) := by decide +kernel
theorem d_Mo_oneMinute_66 : decode c_Mo_oneMinute 66 = .ok (.getfield 46, 3) := by decide +kernel
theorem d_Mo_oneMinute_69 : decode c_Mo_oneMinute 69 = .ok (.iload_n 1, 1) := by decide +kernel
theorem d_Mo_oneMinute_70 : decode c_Mo_oneMinute 70 = .ok (.iaload, 1) := by decide +kernel
theorem d_Mo_oneMinute_71 : decode c_Mo_oneMinute 71 = .ok (.i2b, 1) := by decide +kernel
theorem d_Mo_oneMinute_72 : decode c_Mo_oneMinute 72 = .ok (.bastore, 1) := by decide +kernel
theorem d_Mo_oneMinute_73 : decode c_Mo_oneMinute 73 = .ok (.iinc 1 1, 3) := by decide +kernel
theorem d_Mo_oneMinute_76 : decode c_Mo_oneMinute 76 = .ok (.goto (-51), 3) := by decide +kernel
theorem d_Mo_oneMinute_79 : decode c_Mo_oneMinute 79 = .ok (.iconst 0, 1) := by decide +kernel
theorem d_Mo_oneMinute_80 : decode c_Mo_oneMinute 80 = .ok (.istore_n 1, 1) := by decide +kernel
theorem d_Mo_oneMinute_81 : decode c_Mo_oneMinute 81 = .ok (.iload_n 1, 1) := by decide +kernel
theorem d_Mo_oneMinute_82 : decode c_Mo_oneMinute 82 = .ok (.aload_n 0, 1) := by decide +kernel
theorem d_Mo_oneMinute_83 : decode c_Mo_oneMinute 83 = .ok (.getfield 65, 3) := by decide +kernel
theorem d_Mo_oneMinute_86 : decode c_Mo_oneMinute 86 = .ok (.if_icmp .ge 83, 3) := by decide +kernel
theorem d_Mo_oneMinute_89 : decode c_Mo_oneMinute 89 = .ok (.aload_n 0, 1) := by decide +kernel
theorem d_Mo_oneMinute_90 : decode c_Mo_oneMinute 90 = .ok (.getfield 16, 3) := by decide +kernel
theorem d_Mo_oneMinute_93 : decode c_Mo_oneMinute 93 = .ok (.iload_n 1, 1) := by decide +kernel
theorem d_Mo_oneMinute_94 : decode c_Mo_oneMinute 94 = .ok (.aload_n 0, 1) := by decide +kernel
theorem d_Mo_oneMinute_95 : decode c_Mo_oneMinute 95 = .ok (.getfield 13, 3) := by decide +kernel
theorem d_Mo_oneMinute_98 : decode c_Mo_oneMinute 98 = .ok (.iload_n 1, 1) := by decide +kernel
theorem d_Mo_oneMinute_99 : decode c_Mo_oneMinute 99 = .ok (.iaload, 1) := by decide +kernel
theorem d_Mo_oneMinute_100 : decode c_Mo_oneMinute 100 = .ok (.aload_n 0, 1) := by decide +kernel
theorem d_Mo_oneMinute_101 : decode c_Mo_oneMinute 101 = .ok (.getfield 16, 3) := by decide +kernel
theorem d_Mo_oneMinute_104 : decode c_Mo_oneMinute 104 = .ok (.iload_n 1, 1) := by decide +kernel
theorem d_Mo_oneMinute_105 : decode c_Mo_oneMinute 105 = .ok (.iaload, 1) := by decide +kernel
theorem d_Mo_oneMinute_106 : decode c_Mo_oneMinute 106 = .ok (.if_icmp .le 12, 3) := by decide +kernel
theorem d_Mo_oneMinute_109 : decode c_Mo_oneMinute 109 = .ok (.aload_n 0, 1) := by decide +kernel
theorem d_Mo_oneMinute_110 : decode c_Mo_oneMinute 110 = .ok (.getfield 13, 3) := by decide +kernel
theorem d_Mo_oneMinute_113 : decode c_Mo_oneMinute 113 = .ok (.iload_n 1, 1) := by decide +kernel
theorem d_Mo_oneMinute_114 : decode c_Mo_oneMinute 114 = .ok (.iaload, 1) := by decide +kernel
theorem d_Mo_oneMinute_115 : decode c_Mo_oneMinute 115 = .ok (.goto 9, 3) := by decide +kernel
theorem d_Mo_oneMinute_118 : decode c_Mo_oneMinute 118 = .ok (.aload_n 0, 1) := by decide +kernel
theorem d_Mo_oneMinute_119 : decode c_Mo_oneMinute 119 = .ok (.getfield 16, 3) := by decide +kernel
theorem d_Mo_oneMinute_122 : decode c_Mo_oneMinute 122 = .ok (.iload_n 1, 1) := by decide +kernel
theorem d_Mo_oneMinute_123 : decode c_Mo_oneMinute 123 = .ok (.iaload, 1) := by decide +kernel
theorem d_Mo_oneMinute_124 : decode c_Mo_oneMinute 124 = .ok (.iastore, 1) := by decide +kernel
theorem d_Mo_oneMinute_125 : decode c_Mo_oneMinute 125 = .ok (.aload_n 0, 1) := by decide +kernel
theorem d_Mo_oneMinute_126 : decode c_Mo_oneMinute 126 = .ok (.getfield 19, 3) := by decide +kernel
theorem d_Mo_oneMinute_129 : decode c_Mo_oneMinute 129 = .ok (.iload_n 1, 1) := by decide +kernel
theorem d_Mo_oneMinute_130 : decode c_Mo_oneMinute 130 = .ok (.aload_n 0, 1) := by decide +kernel
theorem d_Mo_oneMinute_131 : decode c_Mo_oneMinute 131 = .ok (.getfield 13, 3) := by decide +kernel
theorem d_Mo_oneMinute_134 : decode c_Mo_oneMinute 134 = .ok (.iload_n 1, 1) := by decide +kernel
theorem d_Mo_oneMinute_135 : decode c_Mo_oneMinute 135 = .ok (.iaload, 1) := by decide +kernel
theorem d_Mo_oneMinute_136 : decode c_Mo_oneMinute 136 = .ok (.aload_n 0, 1) := by decide +kernel
theorem d_Mo_oneMinute_137 : decode c_Mo_oneMinute 137 = .ok (.getfield 7, 3) := by decide +kernel
theorem d_Mo_oneMinute_140 : decode c_Mo_oneMinute 140 = .ok (.iload_n 1, 1) := by decide +kernel
theorem d_Mo_oneMinute_141 : decode c_Mo_oneMinute 141 = .ok (.iaload, 1) := by decide +kernel
theorem d_Mo_oneMinute_142 : decode c_Mo_oneMinute 142 = .ok (.if_icmp .ne 14, 3) := by decide +kernel
theorem d_Mo_oneMinute_145 : decode c_Mo_oneMinute 145 = .ok (.aload_n 0, 1) := by decide +kernel
theorem d_Mo_oneMinute_146 : decode c_Mo_oneMinute 146 = .ok (.getfield 19, 3) := by decide +kernel
theorem d_Mo_oneMinute_149 : decode c_Mo_oneMinute 149 = .ok (.iload_n 1, 1) := by decide +kernel
theorem d_Mo_oneMinute_150 : decode c_Mo_oneMinute 150 = .ok (.iaload, 1) := by decide +kernel
theorem d_Mo_oneMinute_151 : decode c_Mo_oneMinute 151 = .ok (.iconst 1, 1) := by decide +kernel
theorem d_Mo_oneMinute_152 : decode c_Mo_oneMinute 152 = .ok (.iadd, 1) := by decide +kernel
theorem d_Mo_oneMinute_153 : decode c_Mo_oneMinute 153 = .ok (.goto 9, 3) := by decide +kernel
theorem d_Mo_oneMinute_156 : decode c_Mo_oneMinute 156 = .ok (.aload_n 0, 1) := by decide +kernel
theorem d_Mo_oneMinute_157 : decode c_Mo_oneMinute 157 = .ok (.getfield 19, 3) := by decide +kernel
theorem d_Mo_oneMinute_160 : decode c_Mo_oneMinute 160 = .ok (.iload_n 1, 1) := by decide +kernel
theorem d_Mo_oneMinute_161 : decode c_Mo_oneMinute 161 = .ok (.iaload, 1) := by decide +kernel
theorem d_Mo_oneMinute_162 : decode c_Mo_oneMinute 162 = .ok (.iastore, 1) := by decide +kernel
theorem d_Mo_oneMinute_163 : decode c_Mo_oneMinute 163 = .ok (.iinc 1 1, 3) := by decide +kernel
theorem d_Mo_oneMinute_166 : decode c_Mo_oneMinute 166 = .ok (.goto (-85), 3) := by decide +kernel
theorem d_Mo_oneMinute_169 : decode c_Mo_oneMinute 169 = .ok (.aload_n 0, 1) := by decide +kernel
theorem d_Mo_oneMinute_170 : decode c_Mo_oneMinute 170 = .ok (.dup, 1) := by decide +kernel
theorem d_Mo_oneMinute_171 : decode c_Mo_oneMinute 171 = .ok (.getfield 77, 3) := by decide +kernel
theorem d_Mo_oneMinute_174 : decode c_Mo_oneMinute 174 = .ok (.iconst 1, 1) := by decide +kernel
theorem d_Mo_oneMinute_175 : decode c_Mo_oneMinute 175 = .ok (.iadd, 1) := by decide +kernel
theorem d_Mo_oneMinute_176 : decode c_Mo_oneMinute 176 = .ok (.putfield 77, 3) := by decide +kernel
theorem d_Mo_oneMinute_179 : decode c_Mo_oneMinute 179 = .ok (.return_, 1) := by decide +kernel
theorem d_Mo_run_0 : decode c_Mo_run 0 = .ok (.aload_n 0, 1) := by decide +kernel
theorem d_Mo_run_1 : decode c_Mo_run 1 = .ok (.iload_n 1, 1) := by decide +kernel
theorem d_Mo_run_2 : decode c_Mo_run 2 = .ok (.i2l, 1) := by decide +kernel
theorem d_Mo_run_3 : decode c_Mo_run 3 = .ok (.lconst 1, 1) := by decide +kernel
theorem d_Mo_run_4 : decode c_Mo_run 4 = .ok (.ldc2_w 145, 3) := by decide +kernel
theorem d_Mo_run_7 : decode c_Mo_run 7 = .ok (.invokestatic 73, 3) := by decide +kernel
theorem d_Mo_run_10 : decode c_Mo_run 10 = .ok (.aload_n 0, 1) := by decide +kernel
theorem d_Mo_run_11 : decode c_Mo_run 11 = .ok (.getfield 65, 3) := by decide +kernel
theorem d_Mo_run_14 : decode c_Mo_run 14 = .ok (.ifCond .le 19, 3) := by decide +kernel
theorem d_Mo_run_17 : decode c_Mo_run 17 = .ok (.aload_n 0, 1) := by decide +kernel
theorem d_Mo_run_18 : decode c_Mo_run 18 = .ok (.getfield 77, 3) := by decide +kernel
theorem d_Mo_run_21 : decode c_Mo_run 21 = .ok (.iload_n 1, 1) := by decide +kernel
theorem d_Mo_run_22 : decode c_Mo_run 22 = .ok (.iadd, 1) := by decide +kernel
theorem d_Mo_run_23 : decode c_Mo_run 23 = .ok (.sipush 2000, 3) := by decide +kernel
theorem d_Mo_run_26 : decode c_Mo_run 26 = .ok (.if_icmp .gt 7, 3) := by decide +kernel
theorem d_Mo_run_29 : decode c_Mo_run 29 = .ok (.iconst 1, 1) := by decide +kernel
theorem d_Mo_run_30 : decode c_Mo_run 30 = .ok (.goto 4, 3) := by decide +kernel
theorem d_Mo_run_33 : decode c_Mo_run 33 = .ok (.iconst 0, 1) := by decide +kernel
theorem d_Mo_run_34 : decode c_Mo_run 34 = .ok (.invokevirtual 80, 3) := by decide +kernel
theorem d_Mo_run_37 : decode c_Mo_run 37 = .ok (.ifCond .ne 5, 3) := by decide +kernel
theorem d_Mo_run_40 : decode c_Mo_run 40 = .ok (.iconst 0, 1) := by decide +kernel
theorem d_Mo_run_41 : decode c_Mo_run 41 = .ok (.ireturn, 1) := by decide +kernel
theorem d_Mo_run_42 : decode c_Mo_run 42 = .ok (.iconst 0, 1) := by decide +kernel
theorem d_Mo_run_43 : decode c_Mo_run 43 = .ok (.istore_n 2, 1) := by decide +kernel
theorem d_Mo_run_44 : decode c_Mo_run 44 = .ok (.iload_n 2, 1) := by decide +kernel
theorem d_Mo_run_45 : decode c_Mo_run 45 = .ok (.iload_n 1, 1) := by decide +kernel
theorem d_Mo_run_46 : decode c_Mo_run 46 = .ok (.if_icmp .ge 13, 3) := by decide +kernel
theorem d_Mo_run_49 : decode c_Mo_run 49 = .ok (.aload_n 0, 1) := by decide +kernel
theorem d_Mo_run_50 : decode c_Mo_run 50 = .ok (.invokevirtual 147, 3) := by decide +kernel
theorem d_Mo_run_53 : decode c_Mo_run 53 = .ok (.iinc 2 1, 3) := by decide +kernel
theorem d_Mo_run_56 : decode c_Mo_run 56 = .ok (.goto (-12), 3) := by decide +kernel
theorem d_Mo_run_59 : decode c_Mo_run 59 = .ok (.iconst 0, 1) := by decide +kernel
theorem d_Mo_run_60 : decode c_Mo_run 60 = .ok (.istore_n 2, 1) := by decide +kernel
theorem d_Mo_run_61 : decode c_Mo_run 61 = .ok (.iconst 0, 1) := by decide +kernel
theorem d_Mo_run_62 : decode c_Mo_run 62 = .ok (.istore_n 3, 1) := by decide +kernel
theorem d_Mo_run_63 : decode c_Mo_run 63 = .ok (.iload_n 3, 1) := by decide +kernel
theorem d_Mo_run_64 : decode c_Mo_run 64 = .ok (.aload_n 0, 1) := by decide +kernel
theorem d_Mo_run_65 : decode c_Mo_run 65 = .ok (.getfield 65, 3) := by decide +kernel
theorem d_Mo_run_68 : decode c_Mo_run 68 = .ok (.if_icmp .ge 18, 3) := by decide +kernel
theorem d_Mo_run_71 : decode c_Mo_run 71 = .ok (.iload_n 2, 1) := by decide +kernel
theorem d_Mo_run_72 : decode c_Mo_run 72 = .ok (.aload_n 0, 1) := by decide +kernel
theorem d_Mo_run_73 : decode c_Mo_run 73 = .ok (.getfield 13, 3) := by decide +kernel
theorem d_Mo_run_76 : decode c_Mo_run 76 = .ok (.iload_n 3, 1) := by decide +kernel
theorem d_Mo_run_77 : decode c_Mo_run 77 = .ok (.iaload, 1) := by decide +kernel
theorem d_Mo_run_78 : decode c_Mo_run 78 = .ok (.iadd, 1) := by decide +kernel
theorem d_Mo_run_79 : decode c_Mo_run 79 = .ok (.istore_n 2, 1) := by decide +kernel
theorem d_Mo_run_80 : decode c_Mo_run 80 = .ok (.iinc 3 1, 3) := by decide +kernel
theorem d_Mo_run_83 : decode c_Mo_run 83 = .ok (.goto (-20), 3) := by decide +kernel
theorem d_Mo_run_86 : decode c_Mo_run 86 = .ok (.iload_n 2, 1) := by decide +kernel
theorem d_Mo_run_87 : decode c_Mo_run 87 = .ok (.ireturn, 1) := by decide +kernel
theorem d_Mo_person_0 : decode c_Mo_person 0 = .ok (.aload_n 0, 1) := by decide +kernel
theorem d_Mo_person_1 : decode c_Mo_person 1 = .ok (.aload_n 0, 1) := by decide +kernel
theorem d_Mo_person_2 : decode c_Mo_person 2 = .ok (.iload_n 1, 1) := by decide +kernel
theorem d_Mo_person_3 : decode c_Mo_person 3 = .ok (.invokevirtual 150, 3) := by decide +kernel
theorem d_Mo_person_6 : decode c_Mo_person 6 = .ok (.ifCond .eq 19, 3) := by decide +kernel
theorem d_Mo_person_9 : decode c_Mo_person 9 = .ok (.iload_n 2, 1) := by decide +kernel
theorem d_Mo_person_10 : decode c_Mo_person 10 = .ok (.i2l, 1) := by decide +kernel
theorem d_Mo_person_11 : decode c_Mo_person 11 = .ok (.lconst 0, 1) := by decide +kernel
theorem d_Mo_person_12 : decode c_Mo_person 12 = .ok (.ldc2_w 153, 3) := by decide +kernel
theorem d_Mo_person_15 : decode c_Mo_person 15 = .ok (.invokestatic 73, 3) := by decide +kernel
theorem d_Mo_person_18 : decode c_Mo_person 18 = .ok (.ifCond .eq 7, 3) := by decide +kernel
theorem d_Mo_person_21 : decode c_Mo_person 21 = .ok (.iconst 1, 1) := by decide +kernel
theorem d_Mo_person_22 : decode c_Mo_person 22 = .ok (.goto 4, 3) := by decide +kernel
theorem d_Mo_person_25 : decode c_Mo_person 25 = .ok (.iconst 0, 1) := by decide +kernel
theorem d_Mo_person_26 : decode c_Mo_person 26 = .ok (.iconst 1, 1) := by decide +kernel
theorem d_Mo_person_27 : decode c_Mo_person 27 = .ok (.invokevirtual 80, 3) := by decide +kernel
theorem d_Mo_person_30 : decode c_Mo_person 30 = .ok (.ifCond .eq 12, 3) := by decide +kernel
theorem d_Mo_person_33 : decode c_Mo_person 33 = .ok (.aload_n 0, 1) := by decide +kernel
theorem d_Mo_person_34 : decode c_Mo_person 34 = .ok (.iload_n 1, 1) := by decide +kernel
theorem d_Mo_person_35 : decode c_Mo_person 35 = .ok (.iload_n 2, 1) := by decide +kernel
theorem d_Mo_person_36 : decode c_Mo_person 36 = .ok (.invokevirtual 117, 3) := by decide +kernel
theorem d_Mo_person_39 : decode c_Mo_person 39 = .ok (.goto 4, 3) := by decide +kernel
theorem d_Mo_person_42 : decode c_Mo_person 42 = .ok (.iconst 0, 1) := by decide +kernel
theorem d_Mo_person_43 : decode c_Mo_person 43 = .ok (.ireturn, 1) := by decide +kernel
theorem d_Mo_at_0 : decode c_Mo_at 0 = .ok (.aload_n 0, 1) := by decide +kernel
theorem d_Mo_at_1 : decode c_Mo_at 1 = .ok (.aload_n 0, 1) := by decide +kernel
theorem d_Mo_at_2 : decode c_Mo_at 2 = .ok (.iload_n 1, 1) := by decide +kernel
theorem d_Mo_at_3 : decode c_Mo_at 3 = .ok (.invokevirtual 150, 3) := by decide +kernel
theorem d_Mo_at_6 : decode c_Mo_at 6 = .ok (.iconst 1, 1) := by decide +kernel
theorem d_Mo_at_7 : decode c_Mo_at 7 = .ok (.invokevirtual 80, 3) := by decide +kernel
theorem d_Mo_at_10 : decode c_Mo_at 10 = .ok (.ifCond .eq 12, 3) := by decide +kernel
theorem d_Mo_at_13 : decode c_Mo_at 13 = .ok (.aload_n 0, 1) := by decide +kernel
theorem d_Mo_at_14 : decode c_Mo_at 14 = .ok (.getfield 46, 3) := by decide +kernel
theorem d_Mo_at_17 : decode c_Mo_at 17 = .ok (.iload_n 1, 1) := by decide +kernel
theorem d_Mo_at_18 : decode c_Mo_at 18 = .ok (.iaload, 1) := by decide +kernel
theorem d_Mo_at_19 : decode c_Mo_at 19 = .ok (.goto 4, 3) := by decide +kernel
theorem d_Mo_at_22 : decode c_Mo_at 22 = .ok (.iconst 0, 1) := by decide +kernel
theorem d_Mo_at_23 : decode c_Mo_at 23 = .ok (.ireturn, 1) := by decide +kernel
theorem d_Mo_isOver_0 : decode c_Mo_isOver 0 = .ok (.iload_n 1, 1) := by decide +kernel
theorem d_Mo_isOver_1 : decode c_Mo_isOver 1 = .ok (.ifCond .lt 15, 3) := by decide +kernel
theorem d_Mo_isOver_4 : decode c_Mo_isOver 4 = .ok (.iload_n 1, 1) := by decide +kernel
theorem d_Mo_isOver_5 : decode c_Mo_isOver 5 = .ok (.aload_n 0, 1) := by decide +kernel
theorem d_Mo_isOver_6 : decode c_Mo_isOver 6 = .ok (.getfield 77, 3) := by decide +kernel
theorem d_Mo_isOver_9 : decode c_Mo_isOver 9 = .ok (.if_icmp .ge 7, 3) := by decide +kernel
theorem d_Mo_isOver_12 : decode c_Mo_isOver 12 = .ok (.iconst 1, 1) := by decide +kernel
theorem d_Mo_isOver_13 : decode c_Mo_isOver 13 = .ok (.goto 4, 3) := by decide +kernel
theorem d_Mo_isOver_16 : decode c_Mo_isOver 16 = .ok (.iconst 0, 1) := by decide +kernel
theorem d_Mo_isOver_17 : decode c_Mo_isOver 17 = .ok (.ireturn, 1) := by decide +kernel
theorem d_Mo_was_0 : decode c_Mo_was 0 = .ok (.aload_n 0, 1) := by decide +kernel
theorem d_Mo_was_1 : decode c_Mo_was 1 = .ok (.aload_n 0, 1) := by decide +kernel
theorem d_Mo_was_2 : decode c_Mo_was 2 = .ok (.iload_n 1, 1) := by decide +kernel
theorem d_Mo_was_3 : decode c_Mo_was 3 = .ok (.invokevirtual 150, 3) := by decide +kernel
theorem d_Mo_was_6 : decode c_Mo_was 6 = .ok (.ifCond .eq 15, 3) := by decide +kernel
theorem d_Mo_was_9 : decode c_Mo_was 9 = .ok (.aload_n 0, 1) := by decide +kernel
theorem d_Mo_was_10 : decode c_Mo_was 10 = .ok (.iload_n 2, 1) := by decide +kernel
theorem d_Mo_was_11 : decode c_Mo_was 11 = .ok (.invokevirtual 155, 3) := by decide +kernel
theorem d_Mo_was_14 : decode c_Mo_was 14 = .ok (.ifCond .eq 7, 3) := by decide +kernel
theorem d_Mo_was_17 : decode c_Mo_was 17 = .ok (.iconst 1, 1) := by decide +kernel
theorem d_Mo_was_18 : decode c_Mo_was 18 = .ok (.goto 4, 3) := by decide +kernel
theorem d_Mo_was_21 : decode c_Mo_was 21 = .ok (.iconst 0, 1) := by decide +kernel
theorem d_Mo_was_22 : decode c_Mo_was 22 = .ok (.iconst 1, 1) := by decide +kernel
theorem d_Mo_was_23 : decode c_Mo_was 23 = .ok (.invokevirtual 80, 3) := by decide +kernel
theorem d_Mo_was_26 : decode c_Mo_was 26 = .ok (.ifCond .eq 18, 3) := by decide +kernel
theorem d_Mo_was_29 : decode c_Mo_was 29 = .ok (.aload_n 0, 1) := by decide +kernel
theorem d_Mo_was_30 : decode c_Mo_was 30 = .ok (.getfield 53, 3) := by decide +kernel
theorem d_Mo_was_33 : decode c_Mo_was 33 = .ok (.sipush 2000, 3) := by decide +kernel
theorem d_Mo_was_36 : decode c_Mo_was 36 = .ok (.iload_n 1, 1) := by decide +kernel
theorem d_Mo_was_37 : decode c_Mo_was 37 = .ok (.imul, 1) := by decide +kernel
theorem d_Mo_was_38 : decode c_Mo_was 38 = .ok (.iload_n 2, 1) := by decide +kernel
theorem d_Mo_was_39 : decode c_Mo_was 39 = .ok (.iadd, 1) := by decide +kernel
theorem d_Mo_was_40 : decode c_Mo_was 40 = .ok (.baload, 1) := by decide +kernel
theorem d_Mo_was_41 : decode c_Mo_was 41 = .ok (.goto 4, 3) := by decide +kernel
theorem d_Mo_was_44 : decode c_Mo_was 44 = .ok (.iconst 0, 1) := by decide +kernel
theorem d_Mo_was_45 : decode c_Mo_was 45 = .ok (.ireturn, 1) := by decide +kernel
theorem d_Mo_waited_0 : decode c_Mo_waited 0 = .ok (.aload_n 0, 1) := by decide +kernel
theorem d_Mo_waited_1 : decode c_Mo_waited 1 = .ok (.aload_n 0, 1) := by decide +kernel
theorem d_Mo_waited_2 : decode c_Mo_waited 2 = .ok (.iload_n 1, 1) := by decide +kernel
theorem d_Mo_waited_3 : decode c_Mo_waited 3 = .ok (.invokevirtual 150, 3) := by decide +kernel
theorem d_Mo_waited_6 : decode c_Mo_waited 6 = .ok (.iconst 1, 1) := by decide +kernel
theorem d_Mo_waited_7 : decode c_Mo_waited 7 = .ok (.invokevirtual 80, 3) := by decide +kernel
theorem d_Mo_waited_10 : decode c_Mo_waited 10 = .ok (.ifCond .eq 12, 3) := by decide +kernel
theorem d_Mo_waited_13 : decode c_Mo_waited 13 = .ok (.aload_n 0, 1) := by decide +kernel
theorem d_Mo_waited_14 : decode c_Mo_waited 14 = .ok (.getfield 49, 3) := by decide +kernel
theorem d_Mo_waited_17 : decode c_Mo_waited 17 = .ok (.iload_n 1, 1) := by decide +kernel
theorem d_Mo_waited_18 : decode c_Mo_waited 18 = .ok (.iaload, 1) := by decide +kernel
theorem d_Mo_waited_19 : decode c_Mo_waited 19 = .ok (.goto 4, 3) := by decide +kernel
theorem d_Mo_waited_22 : decode c_Mo_waited 22 = .ok (.iconst 0, 1) := by decide +kernel
theorem d_Mo_waited_23 : decode c_Mo_waited 23 = .ok (.ireturn, 1) := by decide +kernel
theorem d_Mo_in_0 : decode c_Mo_in 0 = .ok (.aload_n 0, 1) := by decide +kernel
theorem d_Mo_in_1 : decode c_Mo_in 1 = .ok (.aload_n 0, 1) := by decide +kernel
theorem d_Mo_in_2 : decode c_Mo_in 2 = .ok (.iload_n 1, 1) := by decide +kernel
theorem d_Mo_in_3 : decode c_Mo_in 3 = .ok (.invokevirtual 84, 3) := by decide +kernel
theorem d_Mo_in_6 : decode c_Mo_in 6 = .ok (.ifCond .eq 19, 3) := by decide +kernel
theorem d_Mo_in_9 : decode c_Mo_in 9 = .ok (.iload_n 2, 1) := by decide +kernel
theorem d_Mo_in_10 : decode c_Mo_in 10 = .ok (.i2l, 1) := by decide +kernel
theorem d_Mo_in_11 : decode c_Mo_in 11 = .ok (.lconst 0, 1) := by decide +kernel
theorem d_Mo_in_12 : decode c_Mo_in 12 = .ok (.ldc2_w 158, 3) := by decide +kernel
theorem d_Mo_in_15 : decode c_Mo_in 15 = .ok (.invokestatic 73, 3) := by decide +kernel
theorem d_Mo_in_18 : decode c_Mo_in 18 = .ok (.ifCond .eq 7, 3) := by decide +kernel
theorem d_Mo_in_21 : decode c_Mo_in 21 = .ok (.iconst 1, 1) := by decide +kernel
theorem d_Mo_in_22 : decode c_Mo_in 22 = .ok (.goto 4, 3) := by decide +kernel
theorem d_Mo_in_25 : decode c_Mo_in 25 = .ok (.iconst 0, 1) := by decide +kernel
theorem d_Mo_in_26 : decode c_Mo_in 26 = .ok (.iconst 1, 1) := by decide +kernel
theorem d_Mo_in_27 : decode c_Mo_in 27 = .ok (.invokevirtual 80, 3) := by decide +kernel
theorem d_Mo_in_30 : decode c_Mo_in 30 = .ok (.ifCond .ne 5, 3) := by decide +kernel
theorem d_Mo_in_33 : decode c_Mo_in 33 = .ok (.iconst 0, 1) := by decide +kernel
theorem d_Mo_in_34 : decode c_Mo_in 34 = .ok (.ireturn, 1) := by decide +kernel
theorem d_Mo_in_35 : decode c_Mo_in 35 = .ok (.iload_n 2, 1) := by decide +kernel
theorem d_Mo_in_36 : decode c_Mo_in 36 = .ok (.ifCond .ne 12, 3) := by decide +kernel
theorem d_Mo_in_39 : decode c_Mo_in 39 = .ok (.aload_n 0, 1) := by decide +kernel
theorem d_Mo_in_40 : decode c_Mo_in 40 = .ok (.getfield 13, 3) := by decide +kernel
theorem d_Mo_in_43 : decode c_Mo_in 43 = .ok (.iload_n 1, 1) := by decide +kernel
theorem d_Mo_in_44 : decode c_Mo_in 44 = .ok (.iaload, 1) := by decide +kernel
theorem d_Mo_in_45 : decode c_Mo_in 45 = .ok (.goto 23, 3) := by decide +kernel
theorem d_Mo_in_48 : decode c_Mo_in 48 = .ok (.iload_n 2, 1) := by decide +kernel
theorem d_Mo_in_49 : decode c_Mo_in 49 = .ok (.iconst 1, 1) := by decide +kernel
theorem d_Mo_in_50 : decode c_Mo_in 50 = .ok (.if_icmp .ne 12, 3) := by decide +kernel
theorem d_Mo_in_53 : decode c_Mo_in 53 = .ok (.aload_n 0, 1) := by decide +kernel
theorem d_Mo_in_54 : decode c_Mo_in 54 = .ok (.getfield 16, 3) := by decide +kernel
theorem d_Mo_in_57 : decode c_Mo_in 57 = .ok (.iload_n 1, 1) := by decide +kernel
theorem d_Mo_in_58 : decode c_Mo_in 58 = .ok (.iaload, 1) := by decide +kernel
theorem d_Mo_in_59 : decode c_Mo_in 59 = .ok (.goto 9, 3) := by decide +kernel
theorem d_Mo_in_62 : decode c_Mo_in 62 = .ok (.aload_n 0, 1) := by decide +kernel
theorem d_Mo_in_63 : decode c_Mo_in 63 = .ok (.getfield 19, 3) := by decide +kernel
theorem d_Mo_in_66 : decode c_Mo_in 66 = .ok (.iload_n 1, 1) := by decide +kernel
theorem d_Mo_in_67 : decode c_Mo_in 67 = .ok (.iaload, 1) := by decide +kernel
theorem d_Mo_in_68 : decode c_Mo_in 68 = .ok (.ireturn, 1) := by decide +kernel
theorem d_Mo_inThen_0 : decode c_Mo_inThen 0 = .ok (.aload_n 0, 1) := by decide +kernel
theorem d_Mo_inThen_1 : decode c_Mo_inThen 1 = .ok (.aload_n 0, 1) := by decide +kernel
theorem d_Mo_inThen_2 : decode c_Mo_inThen 2 = .ok (.iload_n 1, 1) := by decide +kernel
theorem d_Mo_inThen_3 : decode c_Mo_inThen 3 = .ok (.invokevirtual 84, 3) := by decide +kernel
theorem d_Mo_inThen_6 : decode c_Mo_inThen 6 = .ok (.ifCond .eq 15, 3) := by decide +kernel
theorem d_Mo_inThen_9 : decode c_Mo_inThen 9 = .ok (.aload_n 0, 1) := by decide +kernel
theorem d_Mo_inThen_10 : decode c_Mo_inThen 10 = .ok (.iload_n 2, 1) := by decide +kernel
theorem d_Mo_inThen_11 : decode c_Mo_inThen 11 = .ok (.invokevirtual 155, 3) := by decide +kernel
theorem d_Mo_inThen_14 : decode c_Mo_inThen 14 = .ok (.ifCond .eq 7, 3) := by decide +kernel
theorem d_Mo_inThen_17 : decode c_Mo_inThen 17 = .ok (.iconst 1, 1) := by decide +kernel
theorem d_Mo_inThen_18 : decode c_Mo_inThen 18 = .ok (.goto 4, 3) := by decide +kernel
theorem d_Mo_inThen_21 : decode c_Mo_inThen 21 = .ok (.iconst 0, 1) := by decide +kernel
theorem d_Mo_inThen_22 : decode c_Mo_inThen 22 = .ok (.iconst 1, 1) := by decide +kernel
theorem d_Mo_inThen_23 : decode c_Mo_inThen 23 = .ok (.invokevirtual 80, 3) := by decide +kernel
theorem d_Mo_inThen_26 : decode c_Mo_inThen 26 = .ok (.ifCond .ne 5, 3) := by decide +kernel
theorem d_Mo_inThen_29 : decode c_Mo_inThen 29 = .ok (.iconst 0, 1) := by decide +kernel
theorem d_Mo_inThen_30 : decode c_Mo_inThen 30 = .ok (.ireturn, 1) := by decide +kernel
theorem d_Mo_inThen_31 : decode c_Mo_inThen 31 = .ok (.iconst 0, 1) := by decide +kernel
theorem d_Mo_inThen_32 : decode c_Mo_inThen 32 = .ok (.istore_n 3, 1) := by decide +kernel
theorem d_Mo_inThen_33 : decode c_Mo_inThen 33 = .ok (.iconst 0, 1) := by decide +kernel
theorem d_Mo_inThen_34 : decode c_Mo_inThen 34 = .ok (.istore 4, 2) := by decide +kernel
theorem d_Mo_inThen_36 : decode c_Mo_inThen 36 = .ok (.iload 4, 2) := by decide +kernel
theorem d_Mo_inThen_38 : decode c_Mo_inThen 38 = .ok (.aload_n 0, 1) := by decide +kernel
theorem d_Mo_inThen_39 : decode c_Mo_inThen 39 = .ok (.getfield 68, 3) := by decide +kernel
theorem d_Mo_inThen_42 : decode c_Mo_inThen 42 = .ok (.if_icmp .ge 34, 3) := by decide +kernel
theorem d_Mo_inThen_45 : decode c_Mo_inThen 45 = .ok (.aload_n 0, 1) := by decide +kernel
theorem d_Mo_inThen_46 : decode c_Mo_inThen 46 = .ok (.getfield 53, 3) := by decide +kernel
theorem d_Mo_inThen_49 : decode c_Mo_inThen 49 = .ok (.sipush 2000, 3) := by decide +kernel
theorem d_Mo_inThen_52 : decode c_Mo_inThen 52 = .ok (.iload 4, 2) := by decide +kernel
theorem d_Mo_inThen_54 : decode c_Mo_inThen 54 = .ok (.imul, 1) := by decide +kernel
theorem d_Mo_inThen_55 : decode c_Mo_inThen 55 = .ok (.iload_n 2, 1) := by decide +kernel
theorem d_Mo_inThen_56 : decode c_Mo_inThen 56 = .ok (.iadd, 1) := by decide +kernel
theorem d_Mo_inThen_57 : decode c_Mo_inThen 57 = .ok (.baload, 1) := by decide +kernel
theorem d_Mo_inThen_58 : decode c_Mo_inThen 58 = .ok (.iload_n 1, 1) := by decide +kernel
theorem d_Mo_inThen_59 : decode c_Mo_inThen 59 = .ok (.if_icmp .ne 9, 3) := by decide +kernel
theorem d_Mo_inThen_62 : decode c_Mo_inThen 62 = .ok (.iload_n 3, 1) := by decide +kernel
theorem d_Mo_inThen_63 : decode c_Mo_inThen 63 = .ok (.iconst 1, 1) := by decide +kernel
theorem d_Mo_inThen_64 : decode c_Mo_inThen 64 = .ok (.iadd, 1) := by decide +kernel
theorem d_Mo_inThen_65 : decode c_Mo_inThen 65 = .ok (.goto 4, 3) := by decide +kernel
theorem d_Mo_inThen_68 : decode c_Mo_inThen 68 = .ok (.iload_n 3, 1) := by decide +kernel
