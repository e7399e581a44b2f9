theorem dL_refuses_919 : decode cL_refuses 919 = .ok (.iconst (-1), 1) := by decide +kernel
theorem dL_refuses_920 : decode cL_refuses 920 = .ok (.iconst (-1), 1) := by decide +kernel
theorem dL_refuses_921 : decode cL_refuses 921 = .ok (.iconst 0, 1) := by decide +kernel
theorem dL_refuses_922 : decode cL_refuses 922 = .ok (.iconst 0, 1) := by decide +kernel
theorem dL_refuses_923 : decode cL_refuses 923 = .ok (.invokestatic 86, 3) := by decide +kernel
theorem dL_refuses_926 : decode cL_refuses 926 = .ok (.ldc 75, 2) := by decide +kernel
theorem dL_refuses_928 : decode cL_refuses 928 = .ok (.if_icmp .ne 7, 3) := by decide +kernel
theorem dL_refuses_931 : decode cL_refuses 931 = .ok (.iconst 1, 1) := by decide +kernel
theorem dL_refuses_932 : decode cL_refuses 932 = .ok (.goto 4, 3) := by decide +kernel
theorem dL_refuses_935 : decode cL_refuses 935 = .ok (.iconst 0, 1) := by decide +kernel
theorem dL_refuses_936 : decode cL_refuses 936 = .ok (.istore 8, 2) := by decide +kernel
theorem dL_refuses_938 : decode cL_refuses 938 = .ok (.iconst 0, 1) := by decide +kernel
theorem dL_refuses_939 : decode cL_refuses 939 = .ok (.istore 9, 2) := by decide +kernel
theorem dL_refuses_941 : decode cL_refuses 941 = .ok (.iload 9, 2) := by decide +kernel
theorem dL_refuses_943 : decode cL_refuses 943 = .ok (.iconst 4, 1) := by decide +kernel
theorem dL_refuses_944 : decode cL_refuses 944 = .ok (.if_icmp .ge 247, 3) := by decide +kernel
theorem dL_refuses_947 : decode cL_refuses 947 = .ok (.iload 8, 2) := by decide +kernel
theorem dL_refuses_949 : decode cL_refuses 949 = .ok (.ifCond .eq 242, 3) := by decide +kernel
theorem dL_refuses_952 : decode cL_refuses 952 = .ok (.aload_n 0, 1) := by decide +kernel
theorem dL_refuses_953 : decode cL_refuses 953 = .ok (.iload 9, 2) := by decide +kernel
theorem dL_refuses_955 : decode cL_refuses 955 = .ok (.iconst 0, 1) := by decide +kernel
theorem dL_refuses_956 : decode cL_refuses 956 = .ok (.invokevirtual 46, 3) := by decide +kernel
theorem dL_refuses_959 : decode cL_refuses 959 = .ok (.istore 10, 2) := by decide +kernel
theorem dL_refuses_961 : decode cL_refuses 961 = .ok (.iload_n 3, 1) := by decide +kernel
theorem dL_refuses_962 : decode cL_refuses 962 = .ok (.iconst 1, 1) := by decide +kernel
theorem dL_refuses_963 : decode cL_refuses 963 = .ok (.if_icmp .ne 8, 3) := by decide +kernel
theorem dL_refuses_966 : decode cL_refuses 966 = .ok (.iload 10, 2) := by decide +kernel
theorem dL_refuses_968 : decode cL_refuses 968 = .ok (.goto 5, 3) := by decide +kernel
theorem dL_refuses_971 : decode cL_refuses 971 = .ok (.iload 4, 2) := by decide +kernel
theorem dL_refuses_973 : decode cL_refuses 973 = .ok (.istore 11, 2) := by decide +kernel
theorem dL_refuses_975 : decode cL_refuses 975 = .ok (.aload_n 0, 1) := by decide +kernel
theorem dL_refuses_976 : decode cL_refuses 976 = .ok (.iconst 1, 1) := by decide +kernel
theorem dL_refuses_977 : decode cL_refuses 977 = .ok (.iload 9, 2) := by decide +kernel
theorem dL_refuses_979 : decode cL_refuses 979 = .ok (.iconst 0, 1) := by decide +kernel
theorem dL_refuses_980 : decode cL_refuses 980 = .ok (.iload 11, 2) := by decide +kernel
theorem dL_refuses_982 : decode cL_refuses 982 = .ok (.iconst 0, 1) := by decide +kernel
theorem dL_refuses_983 : decode cL_refuses 983 = .ok (.invokestatic 86, 3) := by decide +kernel
theorem dL_refuses_986 : decode cL_refuses 986 = .ok (.ldc 75, 2) := by decide +kernel
theorem dL_refuses_988 : decode cL_refuses 988 = .ok (.if_icmp .ne 194, 3) := by decide +kernel
theorem dL_refuses_991 : decode cL_refuses 991 = .ok (.aload_n 0, 1) := by decide +kernel
theorem dL_refuses_992 : decode cL_refuses 992 = .ok (.iconst 1, 1) := by decide +kernel
theorem dL_refuses_993 : decode cL_refuses 993 = .ok (.iload 9, 2) := by decide +kernel
theorem dL_refuses_995 : decode cL_refuses 995 = .ok (.iconst 0, 1) := by decide +kernel
theorem dL_refuses_996 : decode cL_refuses 996 = .ok (.iconst 0, 1) := by decide +kernel
theorem dL_refuses_997 : decode cL_refuses 997 = .ok (.iload 11, 2) := by decide +kernel
theorem dL_refuses_999 : decode cL_refuses 999 = .ok (.invokestatic 86, 3) := by decide +kernel
theorem dL_refuses_1002 : decode cL_refuses 1002 = .ok (.ldc 75, 2) := by decide +kernel
theorem dL_refuses_1004 : decode cL_refuses 1004 = .ok (.if_icmp .ne 178, 3) := by decide +kernel
theorem dL_refuses_1007 : decode cL_refuses 1007 = .ok (.aload_n 0, 1) := by decide +kernel
theorem dL_refuses_1008 : decode cL_refuses 1008 = .ok (.iconst 1, 1) := by decide +kernel
theorem dL_refuses_1009 : decode cL_refuses 1009 = .ok (.iload 9, 2) := by decide +kernel
theorem dL_refuses_1011 : decode cL_refuses 1011 = .ok (.iconst 3, 1) := by decide +kernel
theorem dL_refuses_1012 : decode cL_refuses 1012 = .ok (.iload 11, 2) := by decide +kernel
theorem dL_refuses_1014 : decode cL_refuses 1014 = .ok (.iconst 0, 1) := by decide +kernel
theorem dL_refuses_1015 : decode cL_refuses 1015 = .ok (.invokestatic 86, 3) := by decide +kernel
theorem dL_refuses_1018 : decode cL_refuses 1018 = .ok (.ldc 75, 2) := by decide +kernel
theorem dL_refuses_1020 : decode cL_refuses 1020 = .ok (.if_icmp .ne 162, 3) := by decide +kernel
theorem dL_refuses_1023 : decode cL_refuses 1023 = .ok (.aload_n 0, 1) := by decide +kernel
theorem dL_refuses_1024 : decode cL_refuses 1024 = .ok (.iconst 2, 1) := by decide +kernel
theorem dL_refuses_1025 : decode cL_refuses 1025 = .ok (.iload 9, 2) := by decide +kernel
theorem dL_refuses_1027 : decode cL_refuses 1027 = .ok (.iload 11, 2) := by decide +kernel
theorem dL_refuses_1029 : decode cL_refuses 1029 = .ok (.iconst 0, 1) := by decide +kernel
theorem dL_refuses_1030 : decode cL_refuses 1030 = .ok (.iconst 0, 1) := by decide +kernel
theorem dL_refuses_1031 : decode cL_refuses 1031 = .ok (.invokestatic 86, 3) := by decide +kernel
theorem dL_refuses_1034 : decode cL_refuses 1034 = .ok (.ldc 75, 2) := by decide +kernel
theorem dL_refuses_1036 : decode cL_refuses 1036 = .ok (.if_icmp .ne 146, 3) := by decide +kernel
theorem dL_refuses_1039 : decode cL_refuses 1039 = .ok (.aload_n 0, 1) := by decide +kernel
theorem dL_refuses_1040 : decode cL_refuses 1040 = .ok (.bipush 7, 2) := by decide +kernel
theorem dL_refuses_1042 : decode cL_refuses 1042 = .ok (.iload 9, 2) := by decide +kernel
theorem dL_refuses_1044 : decode cL_refuses 1044 = .ok (.iload 11, 2) := by decide +kernel
theorem dL_refuses_1046 : decode cL_refuses 1046 = .ok (.bipush 9, 2) := by decide +kernel
theorem dL_refuses_1048 : decode cL_refuses 1048 = .ok (.iconst 0, 1) := by decide +kernel
theorem dL_refuses_1049 : decode cL_refuses 1049 = .ok (.invokestatic 86, 3) := by decide +kernel
theorem dL_refuses_1052 : decode cL_refuses 1052 = .ok (.ldc 75, 2) := by decide +kernel
theorem dL_refuses_1054 : decode cL_refuses 1054 = .ok (.if_icmp .ne 128, 3) := by decide +kernel
theorem dL_refuses_1057 : decode cL_refuses 1057 = .ok (.aload_n 0, 1) := by decide +kernel
theorem dL_refuses_1058 : decode cL_refuses 1058 = .ok (.bipush 8, 2) := by decide +kernel
theorem dL_refuses_1060 : decode cL_refuses 1060 = .ok (.iload 9, 2) := by decide +kernel
theorem dL_refuses_1062 : decode cL_refuses 1062 = .ok (.iload 11, 2) := by decide +kernel
theorem dL_refuses_1064 : decode cL_refuses 1064 = .ok (.iconst (-1), 1) := by decide +kernel
theorem dL_refuses_1065 : decode cL_refuses 1065 = .ok (.iconst 0, 1) := by decide +kernel
theorem dL_refuses_1066 : decode cL_refuses 1066 = .ok (.invokestatic 86, 3) := by decide +kernel
theorem dL_refuses_1069 : decode cL_refuses 1069 = .ok (.ldc 75, 2) := by decide +kernel
theorem dL_refuses_1071 : decode cL_refuses 1071 = .ok (.if_icmp .ne 111, 3) := by decide +kernel
theorem dL_refuses_1074 : decode cL_refuses 1074 = .ok (.aload_n 0, 1) := by decide +kernel
theorem dL_refuses_1075 : decode cL_refuses 1075 = .ok (.bipush 12, 2) := by decide +kernel
theorem dL_refuses_1077 : decode cL_refuses 1077 = .ok (.iload 9, 2) := by decide +kernel
theorem dL_refuses_1079 : decode cL_refuses 1079 = .ok (.iload 11, 2) := by decide +kernel
theorem dL_refuses_1081 : decode cL_refuses 1081 = .ok (.iconst 0, 1) := by decide +kernel
theorem dL_refuses_1082 : decode cL_refuses 1082 = .ok (.iconst 0, 1) := by decide +kernel
theorem dL_refuses_1083 : decode cL_refuses 1083 = .ok (.invokestatic 86, 3) := by decide +kernel
theorem dL_refuses_1086 : decode cL_refuses 1086 = .ok (.ldc 75, 2) := by decide +kernel
theorem dL_refuses_1088 : decode cL_refuses 1088 = .ok (.if_icmp .ne 94, 3) := by decide +kernel
theorem dL_refuses_1091 : decode cL_refuses 1091 = .ok (.iload 10, 2) := by decide +kernel
theorem dL_refuses_1093 : decode cL_refuses 1093 = .ok (.ifCond .eq 85, 3) := by decide +kernel
theorem dL_refuses_1096 : decode cL_refuses 1096 = .ok (.aload_n 0, 1) := by decide +kernel
theorem dL_refuses_1097 : decode cL_refuses 1097 = .ok (.bipush 7, 2) := by decide +kernel
theorem dL_refuses_1099 : decode cL_refuses 1099 = .ok (.iload 9, 2) := by decide +kernel
theorem dL_refuses_1101 : decode cL_refuses 1101 = .ok (.iconst 0, 1) := by decide +kernel
theorem dL_refuses_1102 : decode cL_refuses 1102 = .ok (.iload_n 3, 1) := by decide +kernel
theorem dL_refuses_1103 : decode cL_refuses 1103 = .ok (.ifCond .ne 8, 3) := by decide +kernel
theorem dL_refuses_1106 : decode cL_refuses 1106 = .ok (.bipush (-2), 2) := by decide +kernel
theorem dL_refuses_1108 : decode cL_refuses 1108 = .ok (.goto 14, 3) := by decide +kernel
theorem dL_refuses_1111 : decode cL_refuses 1111 = .ok (.iload_n 3, 1) := by decide +kernel
theorem dL_refuses_1112 : decode cL_refuses 1112 = .ok (.iconst 1, 1) := by decide +kernel
theorem dL_refuses_1113 : decode cL_refuses 1113 = .ok (.if_icmp .ne 7, 3) := by decide +kernel
theorem dL_refuses_1116 : decode cL_refuses 1116 = .ok (.iconst 2, 1) := by decide +kernel
theorem dL_refuses_1117 : decode cL_refuses 1117 = .ok (.goto 5, 3) := by decide +kernel
theorem dL_refuses_1120 : decode cL_refuses 1120 = .ok (.iload 4, 2) := by decide +kernel
theorem dL_refuses_1122 : decode cL_refuses 1122 = .ok (.iconst 0, 1) := by decide +kernel
theorem dL_refuses_1123 : decode cL_refuses 1123 = .ok (.invokestatic 86, 3) := by decide +kernel
theorem dL_refuses_1126 : decode cL_refuses 1126 = .ok (.ldc 78, 2) := by decide +kernel
theorem dL_refuses_1128 : decode cL_refuses 1128 = .ok (.if_icmp .ne 54, 3) := by decide +kernel
theorem dL_refuses_1131 : decode cL_refuses 1131 = .ok (.aload_n 0, 1) := by decide +kernel
theorem dL_refuses_1132 : decode cL_refuses 1132 = .ok (.bipush 8, 2) := by decide +kernel
theorem dL_refuses_1134 : decode cL_refuses 1134 = .ok (.iload 9, 2) := by decide +kernel
theorem dL_refuses_1136 : decode cL_refuses 1136 = .ok (.iconst 0, 1) := by decide +kernel
theorem dL_refuses_1137 : decode cL_refuses 1137 = .ok (.iload 6, 2) := by decide +kernel
theorem dL_refuses_1139 : decode cL_refuses 1139 = .ok (.iconst 0, 1) := by decide +kernel
theorem dL_refuses_1140 : decode cL_refuses 1140 = .ok (.invokestatic 86, 3) := by decide +kernel
theorem dL_refuses_1143 : decode cL_refuses 1143 = .ok (.ldc 78, 2) := by decide +kernel
theorem dL_refuses_1145 : decode cL_refuses 1145 = .ok (.if_icmp .ne 37, 3) := by decide +kernel
theorem dL_refuses_1148 : decode cL_refuses 1148 = .ok (.aload_n 0, 1) := by decide +kernel
theorem dL_refuses_1149 : decode cL_refuses 1149 = .ok (.iconst 3, 1) := by decide +kernel
theorem dL_refuses_1150 : decode cL_refuses 1150 = .ok (.iload 9, 2) := by decide +kernel
theorem dL_refuses_1152 : decode cL_refuses 1152 = .ok (.iconst 0, 1) := by decide +kernel
theorem dL_refuses_1153 : decode cL_refuses 1153 = .ok (.iconst 1, 1) := by decide +kernel
theorem dL_refuses_1154 : decode cL_refuses 1154 = .ok (.iconst 0, 1) := by decide +kernel
theorem dL_refuses_1155 : decode cL_refuses 1155 = .ok (.invokestatic 86, 3) := by decide +kernel
theorem dL_refuses_1158 : decode cL_refuses 1158 = .ok (.ldc 81, 2) := by decide +kernel
theorem dL_refuses_1160 : decode cL_refuses 1160 = .ok (.if_icmp .ne 22, 3) := by decide +kernel
theorem dL_refuses_1163 : decode cL_refuses 1163 = .ok (.aload_n 0, 1) := by decide +kernel
theorem dL_refuses_1164 : decode cL_refuses 1164 = .ok (.iconst 4, 1) := by decide +kernel
theorem dL_refuses_1165 : decode cL_refuses 1165 = .ok (.iload 9, 2) := by decide +kernel
theorem dL_refuses_1167 : decode cL_refuses 1167 = .ok (.iconst 1, 1) := by decide +kernel
theorem dL_refuses_1168 : decode cL_refuses 1168 = .ok (.iconst 0, 1) := by decide +kernel
theorem dL_refuses_1169 : decode cL_refuses 1169 = .ok (.iconst 0, 1) := by decide +kernel
theorem dL_refuses_1170 : decode cL_refuses 1170 = .ok (.invokestatic 86, 3) := by decide +kernel
theorem dL_refuses_1173 : decode cL_refuses 1173 = .ok (.ldc 81, 2) := by decide +kernel
theorem dL_refuses_1175 : decode cL_refuses 1175 = .ok (.if_icmp .ne 7, 3) := by decide +kernel
theorem dL_refuses_1178 : decode cL_refuses 1178 = .ok (.iconst 1, 1) := by decide +kernel
theorem dL_refuses_1179 : decode cL_refuses 1179 = .ok (.goto 4, 3) := by decide +kernel
theorem dL_refuses_1182 : decode cL_refuses 1182 = .ok (.iconst 0, 1) := by decide +kernel
theorem dL_refuses_1183 : decode cL_refuses 1183 = .ok (.istore 8, 2) := by decide +kernel
theorem dL_refuses_1185 : decode cL_refuses 1185 = .ok (.iinc 9 1, 3) := by decide +kernel
theorem dL_refuses_1188 : decode cL_refuses 1188 = .ok (.goto (-247), 3) := by decide +kernel
theorem dL_refuses_1191 : decode cL_refuses 1191 = .ok (.iload 8, 2) := by decide +kernel
theorem dL_refuses_1193 : decode cL_refuses 1193 = .ok (.ifCond .ne 5, 3) := by decide +kernel
theorem dL_refuses_1196 : decode cL_refuses 1196 = .ok (.iconst 0, 1) := by decide +kernel
theorem dL_refuses_1197 : decode cL_refuses 1197 = .ok (.ireturn, 1) := by decide +kernel
theorem dL_refuses_1198 : decode cL_refuses 1198 = .ok (.iinc 3 1, 3) := by decide +kernel
theorem dL_refuses_1201 : decode cL_refuses 1201 = .ok (.goto (-1158), 3) := by decide +kernel
theorem dL_refuses_1204 : decode cL_refuses 1204 = .ok (.iload_n 2, 1) := by decide +kernel
theorem dL_refuses_1205 : decode cL_refuses 1205 = .ok (.aload_n 0, 1) := by decide +kernel
theorem dL_refuses_1206 : decode cL_refuses 1206 = .ok (.iconst 0, 1) := by decide +kernel
theorem dL_refuses_1207 : decode cL_refuses 1207 = .ok (.iconst 0, 1) := by decide +kernel
theorem dL_refuses_1208 : decode cL_refuses 1208 = .ok (.invokevirtual 46, 3) := by decide +kernel
theorem dL_refuses_1211 : decode cL_refuses 1211 = .ok (.sipush 200, 3) := by decide +kernel
theorem dL_refuses_1214 : decode cL_refuses 1214 = .ok (.aload_n 0, 1) := by decide +kernel
theorem dL_refuses_1215 : decode cL_refuses 1215 = .ok (.iconst 1, 1) := by decide +kernel
theorem dL_refuses_1216 : decode cL_refuses 1216 = .ok (.iconst 0, 1) := by decide +kernel
theorem dL_refuses_1217 : decode cL_refuses 1217 = .ok (.invokevirtual 46, 3) := by decide +kernel
theorem dL_refuses_1220 : decode cL_refuses 1220 = .ok (.imul, 1) := by decide +kernel
theorem dL_refuses_1221 : decode cL_refuses 1221 = .ok (.iadd, 1) := by decide +kernel
theorem dL_refuses_1222 : decode cL_refuses 1222 = .ok (.ldc 83, 2) := by decide +kernel
theorem dL_refuses_1224 : decode cL_refuses 1224 = .ok (.aload_n 0, 1) := by decide +kernel
theorem dL_refuses_1225 : decode cL_refuses 1225 = .ok (.iconst 2, 1) := by decide +kernel
theorem dL_refuses_1226 : decode cL_refuses 1226 = .ok (.iconst 0, 1) := by decide +kernel
theorem dL_refuses_1227 : decode cL_refuses 1227 = .ok (.invokevirtual 46, 3) := by decide +kernel
theorem dL_refuses_1230 : decode cL_refuses 1230 = .ok (.imul, 1) := by decide +kernel
theorem dL_refuses_1231 : decode cL_refuses 1231 = .ok (.iadd, 1) := by decide +kernel
theorem dL_refuses_1232 : decode cL_refuses 1232 = .ok (.ldc 84, 2) := by decide +kernel
theorem dL_refuses_1234 : decode cL_refuses 1234 = .ok (.aload_n 0, 1) := by decide +kernel
theorem dL_refuses_1235 : decode cL_refuses 1235 = .ok (.iconst 3, 1) := by decide +kernel
theorem dL_refuses_1236 : decode cL_refuses 1236 = .ok (.iconst 0, 1) := by decide +kernel
theorem dL_refuses_1237 : decode cL_refuses 1237 = .ok (.invokevirtual 46, 3) := by decide +kernel
theorem dL_refuses_1240 : decode cL_refuses 1240 = .ok (.imul, 1) := by decide +kernel
theorem dL_refuses_1241 : decode cL_refuses 1241 = .ok (.iadd, 1) := by decide +kernel
theorem dL_refuses_1242 : decode cL_refuses 1242 = .ok (.if_icmp .ne 7, 3) := by decide +kernel
theorem dL_refuses_1245 : decode cL_refuses 1245 = .ok (.iconst 1, 1) := by decide +kernel
theorem dL_refuses_1246 : decode cL_refuses 1246 = .ok (.goto 4, 3) := by decide +kernel
theorem dL_refuses_1249 : decode cL_refuses 1249 = .ok (.iconst 0, 1) := by decide +kernel
theorem dL_refuses_1250 : decode cL_refuses 1250 = .ok (.ireturn, 1) := by decide +kernel
theorem dL_net_0 : decode cL_net 0 = .ok (.aload_n 0, 1) := by decide +kernel
theorem dL_net_1 : decode cL_net 1 = .ok (.iload_n 1, 1) := by decide +kernel
theorem dL_net_2 : decode cL_net 2 = .ok (.iconst 0, 1) := by decide +kernel
theorem dL_net_3 : decode cL_net 3 = .ok (.invokevirtual 46, 3) := by decide +kernel
theorem dL_net_6 : decode cL_net 6 = .ok (.iload_n 2, 1) := by decide +kernel
theorem dL_net_7 : decode cL_net 7 = .ok (.if_icmp .ne 62, 3) := by decide +kernel
theorem dL_net_10 : decode cL_net 10 = .ok (.aload_n 0, 1) := by decide +kernel
theorem dL_net_11 : decode cL_net 11 = .ok (.iload_n 1, 1) := by decide +kernel
theorem dL_net_12 : decode cL_net 12 = .ok (.iconst 1, 1) := by decide +kernel
theorem dL_net_13 : decode cL_net 13 = .ok (.invokevirtual 46, 3) := by decide +kernel
theorem dL_net_16 : decode cL_net 16 = .ok (.iload_n 3, 1) := by decide +kernel
theorem dL_net_17 : decode cL_net 17 = .ok (.if_icmp .ne 52, 3) := by decide +kernel
theorem dL_net_20 : decode cL_net 20 = .ok (.aload_n 0, 1) := by decide +kernel
theorem dL_net_21 : decode cL_net 21 = .ok (.iload_n 1, 1) := by decide +kernel
theorem dL_net_22 : decode cL_net 22 = .ok (.iconst 2, 1) := by decide +kernel
theorem dL_net_23 : decode cL_net 23 = .ok (.invokevirtual 46, 3) := by decide +kernel
theorem dL_net_26 : decode cL_net 26 = .ok (.iload 4, 2) := by decide +kernel
theorem dL_net_28 : decode cL_net 28 = .ok (.if_icmp .ne 41, 3) := by decide +kernel
theorem dL_net_31 : decode cL_net 31 = .ok (.aload_n 0, 1) := by decide +kernel
theorem dL_net_32 : decode cL_net 32 = .ok (.iload_n 1, 1) := by decide +kernel
theorem dL_net_33 : decode cL_net 33 = .ok (.iconst 3, 1) := by decide +kernel
theorem dL_net_34 : decode cL_net 34 = .ok (.invokevirtual 46, 3) := by decide +kernel
theorem dL_net_37 : decode cL_net 37 = .ok (.iload 5, 2) := by decide +kernel
theorem dL_net_39 : decode cL_net 39 = .ok (.if_icmp .ne 30, 3) := by decide +kernel
theorem dL_net_42 : decode cL_net 42 = .ok (.aload_n 0, 1) := by decide +kernel
theorem dL_net_43 : decode cL_net 43 = .ok (.iload_n 1, 1) := by decide +kernel
theorem dL_net_44 : decode cL_net 44 = .ok (.iconst 4, 1) := by decide +kernel
theorem dL_net_45 : decode cL_net 45 = .ok (.invokevirtual 46, 3) := by decide +kernel
theorem dL_net_48 : decode cL_net 48 = .ok (.iload 6, 2) := by decide +kernel
theorem dL_net_50 : decode cL_net 50 = .ok (.if_icmp .ne 19, 3) := by decide +kernel
theorem dL_net_53 : decode cL_net 53 = .ok (.aload_n 0, 1) := by decide +kernel
theorem dL_net_54 : decode cL_net 54 = .ok (.iload_n 1, 1) := by decide +kernel
theorem dL_net_55 : decode cL_net 55 = .ok (.bipush 6, 2) := by decide +kernel
theorem dL_net_57 : decode cL_net 57 = .ok (.invokevirtual 46, 3) := by decide +kernel
theorem dL_net_60 : decode cL_net 60 = .ok (.iload 7, 2) := by decide +kernel
theorem dL_net_62 : decode cL_net 62 = .ok (.if_icmp .ne 7, 3) := by decide +kernel
theorem dL_net_65 : decode cL_net 65 = .ok (.iconst 1, 1) := by decide +kernel
theorem dL_net_66 : decode cL_net 66 = .ok (.goto 4, 3) := by decide +kernel
theorem dL_net_69 : decode cL_net 69 = .ok (.iconst 0, 1) := by decide +kernel
theorem dL_net_70 : decode cL_net 70 = .ok (.ireturn, 1) := by decide +kernel
theorem dL_changes_0 : decode cL_changes 0 = .ok (.aload_n 0, 1) := by decide +kernel
theorem dL_changes_1 : decode cL_changes 1 = .ok (.iload_n 1, 1) := by decide +kernel
theorem dL_changes_2 : decode cL_changes 2 = .ok (.iload_n 2, 1) := by decide +kernel
theorem dL_changes_3 : decode cL_changes 3 = .ok (.iload_n 3, 1) := by decide +kernel
theorem dL_changes_4 : decode cL_changes 4 = .ok (.iconst 0, 1) := by decide +kernel
theorem dL_changes_5 : decode cL_changes 5 = .ok (.invokevirtual 55, 3) := by decide +kernel
theorem dL_changes_8 : decode cL_changes 8 = .ok (.iload 4, 2) := by decide +kernel
