/-! decode rows of the law (written by program) -/
theorem d_lw_956 : decode code 956 = .ok (.aload_n 2, 1) := by decide +kernel
theorem d_lw_957 : decode code 957 = .ok (.aload_n 0, 1) := by decide +kernel
theorem d_lw_958 : decode code 958 = .ok (.iload 4, 2) := by decide +kernel
theorem d_lw_960 : decode code 960 = .ok (.iconst 1, 1) := by decide +kernel
theorem d_lw_961 : decode code 961 = .ok (.iadd, 1) := by decide +kernel
theorem d_lw_962 : decode code 962 = .ok (.iaload, 1) := by decide +kernel
theorem d_lw_963 : decode code 963 = .ok (.aload_n 0, 1) := by decide +kernel
theorem d_lw_964 : decode code 964 = .ok (.iload 4, 2) := by decide +kernel
theorem d_lw_966 : decode code 966 = .ok (.iconst 2, 1) := by decide +kernel
theorem d_lw_967 : decode code 967 = .ok (.iadd, 1) := by decide +kernel
theorem d_lw_968 : decode code 968 = .ok (.iaload, 1) := by decide +kernel
theorem d_lw_969 : decode code 969 = .ok (.invokevirtual 134, 3) := by decide +kernel
theorem d_lw_972 : decode code 972 = .ok (.istore 6, 2) := by decide +kernel
theorem d_lw_974 : decode code 974 = .ok (.aload_n 2, 1) := by decide +kernel
theorem d_lw_975 : decode code 975 = .ok (.invokevirtual 85, 3) := by decide +kernel
theorem d_lw_978 : decode code 978 = .ok (.iload 5, 2) := by decide +kernel
theorem d_lw_980 : decode code 980 = .ok (.if_icmp .eq 5, 3) := by decide +kernel
theorem d_lw_983 : decode code 983 = .ok (.iconst 0, 1) := by decide +kernel
theorem d_lw_984 : decode code 984 = .ok (.ireturn, 1) := by decide +kernel
theorem d_lw_985 : decode code 985 = .ok (.iload 5, 2) := by decide +kernel
theorem d_lw_987 : decode code 987 = .ok (.ifCond .ne 15, 3) := by decide +kernel
theorem d_lw_990 : decode code 990 = .ok (.aload_n 3, 1) := by decide +kernel
theorem d_lw_991 : decode code 991 = .ok (.iconst 0, 1) := by decide +kernel
theorem d_lw_992 : decode code 992 = .ok (.laload, 1) := by decide +kernel
theorem d_lw_993 : decode code 993 = .ok (.iload 6, 2) := by decide +kernel
theorem d_lw_995 : decode code 995 = .ok (.i2l, 1) := by decide +kernel
theorem d_lw_996 : decode code 996 = .ok (.lcmp, 1) := by decide +kernel
theorem d_lw_997 : decode code 997 = .ok (.ifCond .eq 5, 3) := by decide +kernel
theorem d_lw_1000 : decode code 1000 = .ok (.iconst 0, 1) := by decide +kernel
theorem d_lw_1001 : decode code 1001 = .ok (.ireturn, 1) := by decide +kernel
theorem d_lw_1002 : decode code 1002 = .ok (.goto 151, 3) := by decide +kernel
theorem d_lw_1005 : decode code 1005 = .ok (.aload_n 1, 1) := by decide +kernel
theorem d_lw_1006 : decode code 1006 = .ok (.aload_n 0, 1) := by decide +kernel
theorem d_lw_1007 : decode code 1007 = .ok (.iload 4, 2) := by decide +kernel
theorem d_lw_1009 : decode code 1009 = .ok (.iconst 1, 1) := by decide +kernel
theorem d_lw_1010 : decode code 1010 = .ok (.iadd, 1) := by decide +kernel
theorem d_lw_1011 : decode code 1011 = .ok (.iaload, 1) := by decide +kernel
theorem d_lw_1012 : decode code 1012 = .ok (.aload_n 0, 1) := by decide +kernel
theorem d_lw_1013 : decode code 1013 = .ok (.iload 4, 2) := by decide +kernel
theorem d_lw_1015 : decode code 1015 = .ok (.iconst 2, 1) := by decide +kernel
theorem d_lw_1016 : decode code 1016 = .ok (.iadd, 1) := by decide +kernel
theorem d_lw_1017 : decode code 1017 = .ok (.iaload, 1) := by decide +kernel
theorem d_lw_1018 : decode code 1018 = .ok (.aload_n 3, 1) := by decide +kernel
theorem d_lw_1019 : decode code 1019 = .ok (.invokestatic 135, 3) := by decide +kernel
theorem d_lw_1022 : decode code 1022 = .ok (.istore 5, 2) := by decide +kernel
theorem d_lw_1024 : decode code 1024 = .ok (.aload_n 2, 1) := by decide +kernel
theorem d_lw_1025 : decode code 1025 = .ok (.aload_n 0, 1) := by decide +kernel
theorem d_lw_1026 : decode code 1026 = .ok (.iload 4, 2) := by decide +kernel
theorem d_lw_1028 : decode code 1028 = .ok (.iconst 1, 1) := by decide +kernel
theorem d_lw_1029 : decode code 1029 = .ok (.iadd, 1) := by decide +kernel
theorem d_lw_1030 : decode code 1030 = .ok (.iaload, 1) := by decide +kernel
theorem d_lw_1031 : decode code 1031 = .ok (.aload_n 0, 1) := by decide +kernel
theorem d_lw_1032 : decode code 1032 = .ok (.iload 4, 2) := by decide +kernel
theorem d_lw_1034 : decode code 1034 = .ok (.iconst 2, 1) := by decide +kernel
theorem d_lw_1035 : decode code 1035 = .ok (.iadd, 1) := by decide +kernel
theorem d_lw_1036 : decode code 1036 = .ok (.iaload, 1) := by decide +kernel
theorem d_lw_1037 : decode code 1037 = .ok (.invokevirtual 137, 3) := by decide +kernel
theorem d_lw_1040 : decode code 1040 = .ok (.istore 6, 2) := by decide +kernel
theorem d_lw_1042 : decode code 1042 = .ok (.aload_n 2, 1) := by decide +kernel
theorem d_lw_1043 : decode code 1043 = .ok (.invokevirtual 85, 3) := by decide +kernel
theorem d_lw_1046 : decode code 1046 = .ok (.iload 5, 2) := by decide +kernel
theorem d_lw_1048 : decode code 1048 = .ok (.if_icmp .eq 5, 3) := by decide +kernel
theorem d_lw_1051 : decode code 1051 = .ok (.iconst 0, 1) := by decide +kernel
theorem d_lw_1052 : decode code 1052 = .ok (.ireturn, 1) := by decide +kernel
theorem d_lw_1053 : decode code 1053 = .ok (.iload 5, 2) := by decide +kernel
theorem d_lw_1055 : decode code 1055 = .ok (.ifCond .ne 15, 3) := by decide +kernel
theorem d_lw_1058 : decode code 1058 = .ok (.aload_n 3, 1) := by decide +kernel
theorem d_lw_1059 : decode code 1059 = .ok (.iconst 0, 1) := by decide +kernel
theorem d_lw_1060 : decode code 1060 = .ok (.laload, 1) := by decide +kernel
theorem d_lw_1061 : decode code 1061 = .ok (.iload 6, 2) := by decide +kernel
theorem d_lw_1063 : decode code 1063 = .ok (.i2l, 1) := by decide +kernel
theorem d_lw_1064 : decode code 1064 = .ok (.lcmp, 1) := by decide +kernel
theorem d_lw_1065 : decode code 1065 = .ok (.ifCond .eq 5, 3) := by decide +kernel
theorem d_lw_1068 : decode code 1068 = .ok (.iconst 0, 1) := by decide +kernel
theorem d_lw_1069 : decode code 1069 = .ok (.ireturn, 1) := by decide +kernel
theorem d_lw_1070 : decode code 1070 = .ok (.goto 83, 3) := by decide +kernel
theorem d_lw_1073 : decode code 1073 = .ok (.aload_n 1, 1) := by decide +kernel
theorem d_lw_1074 : decode code 1074 = .ok (.aload_n 0, 1) := by decide +kernel
theorem d_lw_1075 : decode code 1075 = .ok (.iload 4, 2) := by decide +kernel
theorem d_lw_1077 : decode code 1077 = .ok (.iconst 1, 1) := by decide +kernel
theorem d_lw_1078 : decode code 1078 = .ok (.iadd, 1) := by decide +kernel
theorem d_lw_1079 : decode code 1079 = .ok (.iaload, 1) := by decide +kernel
theorem d_lw_1080 : decode code 1080 = .ok (.aload_n 0, 1) := by decide +kernel
theorem d_lw_1081 : decode code 1081 = .ok (.iload 4, 2) := by decide +kernel
theorem d_lw_1083 : decode code 1083 = .ok (.iconst 2, 1) := by decide +kernel
theorem d_lw_1084 : decode code 1084 = .ok (.iadd, 1) := by decide +kernel
theorem d_lw_1085 : decode code 1085 = .ok (.iaload, 1) := by decide +kernel
theorem d_lw_1086 : decode code 1086 = .ok (.aload_n 0, 1) := by decide +kernel
theorem d_lw_1087 : decode code 1087 = .ok (.iload 4, 2) := by decide +kernel
theorem d_lw_1089 : decode code 1089 = .ok (.iconst 3, 1) := by decide +kernel
theorem d_lw_1090 : decode code 1090 = .ok (.iadd, 1) := by decide +kernel
theorem d_lw_1091 : decode code 1091 = .ok (.iaload, 1) := by decide +kernel
theorem d_lw_1092 : decode code 1092 = .ok (.aload_n 3, 1) := by decide +kernel
theorem d_lw_1093 : decode code 1093 = .ok (.invokestatic 138, 3) := by decide +kernel
theorem d_lw_1096 : decode code 1096 = .ok (.istore 5, 2) := by decide +kernel
theorem d_lw_1098 : decode code 1098 = .ok (.aload_n 2, 1) := by decide +kernel
theorem d_lw_1099 : decode code 1099 = .ok (.aload_n 0, 1) := by decide +kernel
theorem d_lw_1100 : decode code 1100 = .ok (.iload 4, 2) := by decide +kernel
theorem d_lw_1102 : decode code 1102 = .ok (.iconst 1, 1) := by decide +kernel
theorem d_lw_1103 : decode code 1103 = .ok (.iadd, 1) := by decide +kernel
theorem d_lw_1104 : decode code 1104 = .ok (.iaload, 1) := by decide +kernel
theorem d_lw_1105 : decode code 1105 = .ok (.aload_n 0, 1) := by decide +kernel
theorem d_lw_1106 : decode code 1106 = .ok (.iload 4, 2) := by decide +kernel
theorem d_lw_1108 : decode code 1108 = .ok (.iconst 2, 1) := by decide +kernel
theorem d_lw_1109 : decode code 1109 = .ok (.iadd, 1) := by decide +kernel
theorem d_lw_1110 : decode code 1110 = .ok (.iaload, 1) := by decide +kernel
theorem d_lw_1111 : decode code 1111 = .ok (.aload_n 0, 1) := by decide +kernel
theorem d_lw_1112 : decode code 1112 = .ok (.iload 4, 2) := by decide +kernel
theorem d_lw_1114 : decode code 1114 = .ok (.iconst 3, 1) := by decide +kernel
theorem d_lw_1115 : decode code 1115 = .ok (.iadd, 1) := by decide +kernel
theorem d_lw_1116 : decode code 1116 = .ok (.iaload, 1) := by decide +kernel
theorem d_lw_1117 : decode code 1117 = .ok (.invokevirtual 141, 3) := by decide +kernel
theorem d_lw_1120 : decode code 1120 = .ok (.istore 6, 2) := by decide +kernel
theorem d_lw_1122 : decode code 1122 = .ok (.aload_n 2, 1) := by decide +kernel
theorem d_lw_1123 : decode code 1123 = .ok (.invokevirtual 85, 3) := by decide +kernel
theorem d_lw_1126 : decode code 1126 = .ok (.iload 5, 2) := by decide +kernel
theorem d_lw_1128 : decode code 1128 = .ok (.if_icmp .eq 5, 3) := by decide +kernel
theorem d_lw_1131 : decode code 1131 = .ok (.iconst 0, 1) := by decide +kernel
theorem d_lw_1132 : decode code 1132 = .ok (.ireturn, 1) := by decide +kernel
theorem d_lw_1133 : decode code 1133 = .ok (.iload 5, 2) := by decide +kernel
theorem d_lw_1135 : decode code 1135 = .ok (.ifCond .ne 15, 3) := by decide +kernel
theorem d_lw_1138 : decode code 1138 = .ok (.aload_n 3, 1) := by decide +kernel
theorem d_lw_1139 : decode code 1139 = .ok (.iconst 0, 1) := by decide +kernel
theorem d_lw_1140 : decode code 1140 = .ok (.laload, 1) := by decide +kernel
theorem d_lw_1141 : decode code 1141 = .ok (.iload 6, 2) := by decide +kernel
theorem d_lw_1143 : decode code 1143 = .ok (.i2l, 1) := by decide +kernel
theorem d_lw_1144 : decode code 1144 = .ok (.lcmp, 1) := by decide +kernel
theorem d_lw_1145 : decode code 1145 = .ok (.ifCond .eq 5, 3) := by decide +kernel
theorem d_lw_1148 : decode code 1148 = .ok (.iconst 0, 1) := by decide +kernel
theorem d_lw_1149 : decode code 1149 = .ok (.ireturn, 1) := by decide +kernel
theorem d_lw_1150 : decode code 1150 = .ok (.goto 3, 3) := by decide +kernel
theorem d_lw_1153 : decode code 1153 = .ok (.iinc 4 4, 3) := by decide +kernel
theorem d_lw_1156 : decode code 1156 = .ok (.goto (-1133), 3) := by decide +kernel
theorem d_lw_1159 : decode code 1159 = .ok (.iconst 1, 1) := by decide +kernel
theorem d_lw_1160 : decode code 1160 = .ok (.ireturn, 1) := by decide +kernel
