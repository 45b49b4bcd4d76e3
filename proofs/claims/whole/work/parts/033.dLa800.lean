theorem d_La_law_962 : decode code 962 = .ok (.iadd, 1) := by decide +kernel
theorem d_La_law_963 : decode code 963 = .ok (.iaload, 1) := by decide +kernel
theorem d_La_law_964 : decode code 964 = .ok (.invokevirtual 117, 3) := by decide +kernel
theorem d_La_law_967 : decode code 967 = .ok (.istore 6, 2) := by decide +kernel
theorem d_La_law_969 : decode code 969 = .ok (.aload_n 2, 1) := by decide +kernel
theorem d_La_law_970 : decode code 970 = .ok (.invokevirtual 75, 3) := by decide +kernel
theorem d_La_law_973 : decode code 973 = .ok (.iload 5, 2) := by decide +kernel
theorem d_La_law_975 : decode code 975 = .ok (.if_icmp .eq 5, 3) := by decide +kernel
theorem d_La_law_978 : decode code 978 = .ok (.iconst 0, 1) := by decide +kernel
theorem d_La_law_979 : decode code 979 = .ok (.ireturn, 1) := by decide +kernel
theorem d_La_law_980 : decode code 980 = .ok (.iload 5, 2) := by decide +kernel
theorem d_La_law_982 : decode code 982 = .ok (.ifCond .ne 15, 3) := by decide +kernel
theorem d_La_law_985 : decode code 985 = .ok (.aload_n 3, 1) := by decide +kernel
theorem d_La_law_986 : decode code 986 = .ok (.iconst 0, 1) := by decide +kernel
theorem d_La_law_987 : decode code 987 = .ok (.laload, 1) := by decide +kernel
theorem d_La_law_988 : decode code 988 = .ok (.iload 6, 2) := by decide +kernel
theorem d_La_law_990 : decode code 990 = .ok (.i2l, 1) := by decide +kernel
theorem d_La_law_991 : decode code 991 = .ok (.lcmp, 1) := by decide +kernel
theorem d_La_law_992 : decode code 992 = .ok (.ifCond .eq 5, 3) := by decide +kernel
theorem d_La_law_995 : decode code 995 = .ok (.iconst 0, 1) := by decide +kernel
theorem d_La_law_996 : decode code 996 = .ok (.ireturn, 1) := by decide +kernel
theorem d_La_law_997 : decode code 997 = .ok (.goto 112, 3) := by decide +kernel
theorem d_La_law_1000 : decode code 1000 = .ok (.aload_n 1, 1) := by decide +kernel
theorem d_La_law_1001 : decode code 1001 = .ok (.aload_n 0, 1) := by decide +kernel
theorem d_La_law_1002 : decode code 1002 = .ok (.iload 4, 2) := by decide +kernel
theorem d_La_law_1004 : decode code 1004 = .ok (.iconst 1, 1) := by decide +kernel
theorem d_La_law_1005 : decode code 1005 = .ok (.iadd, 1) := by decide +kernel
theorem d_La_law_1006 : decode code 1006 = .ok (.iaload, 1) := by decide +kernel
theorem d_La_law_1007 : decode code 1007 = .ok (.aload_n 0, 1) := by decide +kernel
theorem d_La_law_1008 : decode code 1008 = .ok (.iload 4, 2) := by decide +kernel
theorem d_La_law_1010 : decode code 1010 = .ok (.iconst 2, 1) := by decide +kernel
theorem d_La_law_1011 : decode code 1011 = .ok (.iadd, 1) := by decide +kernel
theorem d_La_law_1012 : decode code 1012 = .ok (.iaload, 1) := by decide +kernel
theorem d_La_law_1013 : decode code 1013 = .ok (.aload_n 3, 1) := by decide +kernel
theorem d_La_law_1014 : decode code 1014 = .ok (.invokestatic 118, 3) := by decide +kernel
theorem d_La_law_1017 : decode code 1017 = .ok (.istore 5, 2) := by decide +kernel
theorem d_La_law_1019 : decode code 1019 = .ok (.aload_n 2, 1) := by decide +kernel
theorem d_La_law_1020 : decode code 1020 = .ok (.aload_n 0, 1) := by decide +kernel
theorem d_La_law_1021 : decode code 1021 = .ok (.iload 4, 2) := by decide +kernel
theorem d_La_law_1023 : decode code 1023 = .ok (.iconst 1, 1) := by decide +kernel
theorem d_La_law_1024 : decode code 1024 = .ok (.iadd, 1) := by decide +kernel
theorem d_La_law_1025 : decode code 1025 = .ok (.iaload, 1) := by decide +kernel
theorem d_La_law_1026 : decode code 1026 = .ok (.aload_n 0, 1) := by decide +kernel
theorem d_La_law_1027 : decode code 1027 = .ok (.iload 4, 2) := by decide +kernel
theorem d_La_law_1029 : decode code 1029 = .ok (.iconst 2, 1) := by decide +kernel
theorem d_La_law_1030 : decode code 1030 = .ok (.iadd, 1) := by decide +kernel
theorem d_La_law_1031 : decode code 1031 = .ok (.iaload, 1) := by decide +kernel
theorem d_La_law_1032 : decode code 1032 = .ok (.invokevirtual 120, 3) := by decide +kernel
theorem d_La_law_1035 : decode code 1035 = .ok (.istore 6, 2) := by decide +kernel
theorem d_La_law_1037 : decode code 1037 = .ok (.aload_n 2, 1) := by decide +kernel
theorem d_La_law_1038 : decode code 1038 = .ok (.invokevirtual 75, 3) := by decide +kernel
theorem d_La_law_1041 : decode code 1041 = .ok (.iload 5, 2) := by decide +kernel
theorem d_La_law_1043 : decode code 1043 = .ok (.if_icmp .eq 5, 3) := by decide +kernel
theorem d_La_law_1046 : decode code 1046 = .ok (.iconst 0, 1) := by decide +kernel
theorem d_La_law_1047 : decode code 1047 = .ok (.ireturn, 1) := by decide +kernel
theorem d_La_law_1048 : decode code 1048 = .ok (.iload 5, 2) := by decide +kernel
theorem d_La_law_1050 : decode code 1050 = .ok (.ifCond .ne 15, 3) := by decide +kernel
theorem d_La_law_1053 : decode code 1053 = .ok (.aload_n 3, 1) := by decide +kernel
theorem d_La_law_1054 : decode code 1054 = .ok (.iconst 0, 1) := by decide +kernel
theorem d_La_law_1055 : decode code 1055 = .ok (.laload, 1) := by decide +kernel
theorem d_La_law_1056 : decode code 1056 = .ok (.iload 6, 2) := by decide +kernel
theorem d_La_law_1058 : decode code 1058 = .ok (.i2l, 1) := by decide +kernel
theorem d_La_law_1059 : decode code 1059 = .ok (.lcmp, 1) := by decide +kernel
theorem d_La_law_1060 : decode code 1060 = .ok (.ifCond .eq 5, 3) := by decide +kernel
theorem d_La_law_1063 : decode code 1063 = .ok (.iconst 0, 1) := by decide +kernel
theorem d_La_law_1064 : decode code 1064 = .ok (.ireturn, 1) := by decide +kernel
theorem d_La_law_1065 : decode code 1065 = .ok (.goto 44, 3) := by decide +kernel
theorem d_La_law_1068 : decode code 1068 = .ok (.aload_n 1, 1) := by decide +kernel
theorem d_La_law_1069 : decode code 1069 = .ok (.aload_n 0, 1) := by decide +kernel
theorem d_La_law_1070 : decode code 1070 = .ok (.iload 4, 2) := by decide +kernel
theorem d_La_law_1072 : decode code 1072 = .ok (.iconst 1, 1) := by decide +kernel
theorem d_La_law_1073 : decode code 1073 = .ok (.iadd, 1) := by decide +kernel
theorem d_La_law_1074 : decode code 1074 = .ok (.iaload, 1) := by decide +kernel
theorem d_La_law_1075 : decode code 1075 = .ok (.ifCond .eq 7, 3) := by decide +kernel
theorem d_La_law_1078 : decode code 1078 = .ok (.iconst 1, 1) := by decide +kernel
theorem d_La_law_1079 : decode code 1079 = .ok (.goto 4, 3) := by decide +kernel
theorem d_La_law_1082 : decode code 1082 = .ok (.iconst 0, 1) := by decide +kernel
theorem d_La_law_1083 : decode code 1083 = .ok (.invokevirtual 121, 3) := by decide +kernel
theorem d_La_law_1086 : decode code 1086 = .ok (.aload_n 2, 1) := by decide +kernel
theorem d_La_law_1087 : decode code 1087 = .ok (.aload_n 0, 1) := by decide +kernel
theorem d_La_law_1088 : decode code 1088 = .ok (.iload 4, 2) := by decide +kernel
theorem d_La_law_1090 : decode code 1090 = .ok (.iconst 1, 1) := by decide +kernel
theorem d_La_law_1091 : decode code 1091 = .ok (.iadd, 1) := by decide +kernel
theorem d_La_law_1092 : decode code 1092 = .ok (.iaload, 1) := by decide +kernel
theorem d_La_law_1093 : decode code 1093 = .ok (.ifCond .eq 7, 3) := by decide +kernel
theorem d_La_law_1096 : decode code 1096 = .ok (.iconst 1, 1) := by decide +kernel
theorem d_La_law_1097 : decode code 1097 = .ok (.goto 4, 3) := by decide +kernel
theorem d_La_law_1100 : decode code 1100 = .ok (.iconst 0, 1) := by decide +kernel
theorem d_La_law_1101 : decode code 1101 = .ok (.invokevirtual 125, 3) := by decide +kernel
theorem d_La_law_1104 : decode code 1104 = .ok (.if_icmp .eq 5, 3) := by decide +kernel
theorem d_La_law_1107 : decode code 1107 = .ok (.iconst 0, 1) := by decide +kernel
theorem d_La_law_1108 : decode code 1108 = .ok (.ireturn, 1) := by decide +kernel
theorem d_La_law_1109 : decode code 1109 = .ok (.iinc 4 4, 3) := by decide +kernel
theorem d_La_law_1112 : decode code 1112 = .ok (.goto (-1077), 3) := by decide +kernel
theorem d_La_law_1115 : decode code 1115 = .ok (.iconst 1, 1) := by decide +kernel
theorem d_La_law_1116 : decode code 1116 = .ok (.ireturn, 1) := by decide +kernel
