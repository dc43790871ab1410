theorem dL_law_887 : decode cL_law 887 = .ok (.iload 23, 2) := by decide +kernel
theorem dL_law_889 : decode cL_law 889 = .ok (.aaload, 1) := by decide +kernel
theorem dL_law_890 : decode cL_law 890 = .ok (.astore 24, 2) := by decide +kernel
theorem dL_law_892 : decode cL_law 892 = .ok (.aload_n 1, 1) := by decide +kernel
theorem dL_law_893 : decode cL_law 893 = .ok (.iload 23, 2) := by decide +kernel
theorem dL_law_895 : decode cL_law 895 = .ok (.iconst 0, 1) := by decide +kernel
theorem dL_law_896 : decode cL_law 896 = .ok (.invokevirtual 91, 3) := by decide +kernel
theorem dL_law_899 : decode cL_law 899 = .ok (.iconst 0, 1) := by decide +kernel
theorem dL_law_900 : decode cL_law 900 = .ok (.aload 24, 2) := by decide +kernel
theorem dL_law_902 : decode cL_law 902 = .ok (.iconst 0, 1) := by decide +kernel
theorem dL_law_903 : decode cL_law 903 = .ok (.iaload, 1) := by decide +kernel
theorem dL_law_904 : decode cL_law 904 = .ok (.aload 11, 2) := by decide +kernel
theorem dL_law_906 : decode cL_law 906 = .ok (.iconst 1, 1) := by decide +kernel
theorem dL_law_907 : decode cL_law 907 = .ok (.iaload, 1) := by decide +kernel
theorem dL_law_908 : decode cL_law 908 = .ok (.bipush 10, 2) := by decide +kernel
theorem dL_law_910 : decode cL_law 910 = .ok (.idiv, 1) := by decide +kernel
theorem dL_law_911 : decode cL_law 911 = .ok (.isub, 1) := by decide +kernel
theorem dL_law_912 : decode cL_law 912 = .ok (.iconst 1, 1) := by decide +kernel
theorem dL_law_913 : decode cL_law 913 = .ok (.isub, 1) := by decide +kernel
theorem dL_law_914 : decode cL_law 914 = .ok (.invokestatic 64, 3) := by decide +kernel
theorem dL_law_917 : decode cL_law 917 = .ok (.if_icmp .ne 68, 3) := by decide +kernel
theorem dL_law_920 : decode cL_law 920 = .ok (.aload_n 1, 1) := by decide +kernel
theorem dL_law_921 : decode cL_law 921 = .ok (.iload 23, 2) := by decide +kernel
theorem dL_law_923 : decode cL_law 923 = .ok (.iconst 1, 1) := by decide +kernel
theorem dL_law_924 : decode cL_law 924 = .ok (.invokevirtual 91, 3) := by decide +kernel
theorem dL_law_927 : decode cL_law 927 = .ok (.aload 24, 2) := by decide +kernel
theorem dL_law_929 : decode cL_law 929 = .ok (.iconst 1, 1) := by decide +kernel
theorem dL_law_930 : decode cL_law 930 = .ok (.iaload, 1) := by decide +kernel
theorem dL_law_931 : decode cL_law 931 = .ok (.if_icmp .ne 54, 3) := by decide +kernel
theorem dL_law_934 : decode cL_law 934 = .ok (.aload_n 1, 1) := by decide +kernel
theorem dL_law_935 : decode cL_law 935 = .ok (.iload 23, 2) := by decide +kernel
theorem dL_law_937 : decode cL_law 937 = .ok (.iconst 2, 1) := by decide +kernel
theorem dL_law_938 : decode cL_law 938 = .ok (.invokevirtual 91, 3) := by decide +kernel
theorem dL_law_941 : decode cL_law 941 = .ok (.aload 24, 2) := by decide +kernel
theorem dL_law_943 : decode cL_law 943 = .ok (.iconst 1, 1) := by decide +kernel
theorem dL_law_944 : decode cL_law 944 = .ok (.iaload, 1) := by decide +kernel
theorem dL_law_945 : decode cL_law 945 = .ok (.ifCond .ne 7, 3) := by decide +kernel
theorem dL_law_948 : decode cL_law 948 = .ok (.iconst 0, 1) := by decide +kernel
theorem dL_law_949 : decode cL_law 949 = .ok (.goto 19, 3) := by decide +kernel
theorem dL_law_952 : decode cL_law 952 = .ok (.bipush 100, 2) := by decide +kernel
theorem dL_law_954 : decode cL_law 954 = .ok (.aload 24, 2) := by decide +kernel
theorem dL_law_956 : decode cL_law 956 = .ok (.iconst 2, 1) := by decide +kernel
theorem dL_law_957 : decode cL_law 957 = .ok (.iaload, 1) := by decide +kernel
theorem dL_law_958 : decode cL_law 958 = .ok (.aload 24, 2) := by decide +kernel
theorem dL_law_960 : decode cL_law 960 = .ok (.iconst 0, 1) := by decide +kernel
theorem dL_law_961 : decode cL_law 961 = .ok (.iaload, 1) := by decide +kernel
theorem dL_law_962 : decode cL_law 962 = .ok (.iconst 3, 1) := by decide +kernel
theorem dL_law_963 : decode cL_law 963 = .ok (.idiv, 1) := by decide +kernel
theorem dL_law_964 : decode cL_law 964 = .ok (.iadd, 1) := by decide +kernel
theorem dL_law_965 : decode cL_law 965 = .ok (.invokestatic 28, 3) := by decide +kernel
theorem dL_law_968 : decode cL_law 968 = .ok (.if_icmp .ne 17, 3) := by decide +kernel
theorem dL_law_971 : decode cL_law 971 = .ok (.aload 24, 2) := by decide +kernel
theorem dL_law_973 : decode cL_law 973 = .ok (.iconst 1, 1) := by decide +kernel
theorem dL_law_974 : decode cL_law 974 = .ok (.iaload, 1) := by decide +kernel
theorem dL_law_975 : decode cL_law 975 = .ok (.ifCond .ne 12, 3) := by decide +kernel
theorem dL_law_978 : decode cL_law 978 = .ok (.aload 24, 2) := by decide +kernel
theorem dL_law_980 : decode cL_law 980 = .ok (.iconst 2, 1) := by decide +kernel
theorem dL_law_981 : decode cL_law 981 = .ok (.iaload, 1) := by decide +kernel
theorem dL_law_982 : decode cL_law 982 = .ok (.ifCond .eq 5, 3) := by decide +kernel
theorem dL_law_985 : decode cL_law 985 = .ok (.iconst 0, 1) := by decide +kernel
theorem dL_law_986 : decode cL_law 986 = .ok (.ireturn, 1) := by decide +kernel
theorem dL_law_987 : decode cL_law 987 = .ok (.aload 17, 2) := by decide +kernel
theorem dL_law_989 : decode cL_law 989 = .ok (.iload 23, 2) := by decide +kernel
theorem dL_law_991 : decode cL_law 991 = .ok (.iaload, 1) := by decide +kernel
theorem dL_law_992 : decode cL_law 992 = .ok (.ifCond .le 19, 3) := by decide +kernel
theorem dL_law_995 : decode cL_law 995 = .ok (.aload_n 1, 1) := by decide +kernel
theorem dL_law_996 : decode cL_law 996 = .ok (.iload 23, 2) := by decide +kernel
theorem dL_law_998 : decode cL_law 998 = .ok (.invokevirtual 113, 3) := by decide +kernel
theorem dL_law_1001 : decode cL_law 1001 = .ok (.aload 17, 2) := by decide +kernel
theorem dL_law_1003 : decode cL_law 1003 = .ok (.iload 23, 2) := by decide +kernel
theorem dL_law_1005 : decode cL_law 1005 = .ok (.iaload, 1) := by decide +kernel
theorem dL_law_1006 : decode cL_law 1006 = .ok (.iconst 1, 1) := by decide +kernel
theorem dL_law_1007 : decode cL_law 1007 = .ok (.isub, 1) := by decide +kernel
theorem dL_law_1008 : decode cL_law 1008 = .ok (.if_icmp .ne 52, 3) := by decide +kernel
theorem dL_law_1011 : decode cL_law 1011 = .ok (.aload 17, 2) := by decide +kernel
theorem dL_law_1013 : decode cL_law 1013 = .ok (.iload 23, 2) := by decide +kernel
theorem dL_law_1015 : decode cL_law 1015 = .ok (.iaload, 1) := by decide +kernel
theorem dL_law_1016 : decode cL_law 1016 = .ok (.ifCond .ne 12, 3) := by decide +kernel
theorem dL_law_1019 : decode cL_law 1019 = .ok (.aload_n 1, 1) := by decide +kernel
theorem dL_law_1020 : decode cL_law 1020 = .ok (.iload 23, 2) := by decide +kernel
theorem dL_law_1022 : decode cL_law 1022 = .ok (.invokevirtual 113, 3) := by decide +kernel
theorem dL_law_1025 : decode cL_law 1025 = .ok (.ifCond .ne 35, 3) := by decide +kernel
theorem dL_law_1028 : decode cL_law 1028 = .ok (.aload 24, 2) := by decide +kernel
theorem dL_law_1030 : decode cL_law 1030 = .ok (.iconst 0, 1) := by decide +kernel
theorem dL_law_1031 : decode cL_law 1031 = .ok (.iaload, 1) := by decide +kernel
theorem dL_law_1032 : decode cL_law 1032 = .ok (.ifCond .lt 28, 3) := by decide +kernel
theorem dL_law_1035 : decode cL_law 1035 = .ok (.aload 24, 2) := by decide +kernel
theorem dL_law_1037 : decode cL_law 1037 = .ok (.iconst 0, 1) := by decide +kernel
theorem dL_law_1038 : decode cL_law 1038 = .ok (.iaload, 1) := by decide +kernel
theorem dL_law_1039 : decode cL_law 1039 = .ok (.bipush 30, 2) := by decide +kernel
theorem dL_law_1041 : decode cL_law 1041 = .ok (.if_icmp .gt 19, 3) := by decide +kernel
theorem dL_law_1044 : decode cL_law 1044 = .ok (.aload 24, 2) := by decide +kernel
theorem dL_law_1046 : decode cL_law 1046 = .ok (.iconst 1, 1) := by decide +kernel
theorem dL_law_1047 : decode cL_law 1047 = .ok (.iaload, 1) := by decide +kernel
theorem dL_law_1048 : decode cL_law 1048 = .ok (.ifCond .lt 12, 3) := by decide +kernel
theorem dL_law_1051 : decode cL_law 1051 = .ok (.aload 24, 2) := by decide +kernel
theorem dL_law_1053 : decode cL_law 1053 = .ok (.iconst 1, 1) := by decide +kernel
theorem dL_law_1054 : decode cL_law 1054 = .ok (.iaload, 1) := by decide +kernel
theorem dL_law_1055 : decode cL_law 1055 = .ok (.bipush 20, 2) := by decide +kernel
theorem dL_law_1057 : decode cL_law 1057 = .ok (.if_icmp .le 5, 3) := by decide +kernel
theorem dL_law_1060 : decode cL_law 1060 = .ok (.iconst 0, 1) := by decide +kernel
theorem dL_law_1061 : decode cL_law 1061 = .ok (.ireturn, 1) := by decide +kernel
theorem dL_law_1062 : decode cL_law 1062 = .ok (.iinc 23 1, 3) := by decide +kernel
theorem dL_law_1065 : decode cL_law 1065 = .ok (.goto (-187), 3) := by decide +kernel
theorem dL_law_1068 : decode cL_law 1068 = .ok (.iconst 0, 1) := by decide +kernel
theorem dL_law_1069 : decode cL_law 1069 = .ok (.istore 23, 2) := by decide +kernel
theorem dL_law_1071 : decode cL_law 1071 = .ok (.iconst 0, 1) := by decide +kernel
theorem dL_law_1072 : decode cL_law 1072 = .ok (.istore 24, 2) := by decide +kernel
theorem dL_law_1074 : decode cL_law 1074 = .ok (.iload 24, 2) := by decide +kernel
theorem dL_law_1076 : decode cL_law 1076 = .ok (.iload 8, 2) := by decide +kernel
theorem dL_law_1078 : decode cL_law 1078 = .ok (.if_icmp .ge 218, 3) := by decide +kernel
theorem dL_law_1081 : decode cL_law 1081 = .ok (.aload 10, 2) := by decide +kernel
theorem dL_law_1083 : decode cL_law 1083 = .ok (.iload 24, 2) := by decide +kernel
theorem dL_law_1085 : decode cL_law 1085 = .ok (.aaload, 1) := by decide +kernel
theorem dL_law_1086 : decode cL_law 1086 = .ok (.astore 25, 2) := by decide +kernel
theorem dL_law_1088 : decode cL_law 1088 = .ok (.aload_n 1, 1) := by decide +kernel
theorem dL_law_1089 : decode cL_law 1089 = .ok (.iload 24, 2) := by decide +kernel
theorem dL_law_1091 : decode cL_law 1091 = .ok (.iconst 0, 1) := by decide +kernel
theorem dL_law_1092 : decode cL_law 1092 = .ok (.invokevirtual 94, 3) := by decide +kernel
theorem dL_law_1095 : decode cL_law 1095 = .ok (.istore 26, 2) := by decide +kernel
theorem dL_law_1097 : decode cL_law 1097 = .ok (.aload_n 1, 1) := by decide +kernel
theorem dL_law_1098 : decode cL_law 1098 = .ok (.iload 24, 2) := by decide +kernel
theorem dL_law_1100 : decode cL_law 1100 = .ok (.iconst 1, 1) := by decide +kernel
theorem dL_law_1101 : decode cL_law 1101 = .ok (.invokevirtual 94, 3) := by decide +kernel
theorem dL_law_1104 : decode cL_law 1104 = .ok (.istore 27, 2) := by decide +kernel
theorem dL_law_1106 : decode cL_law 1106 = .ok (.aload 25, 2) := by decide +kernel
theorem dL_law_1108 : decode cL_law 1108 = .ok (.iconst 0, 1) := by decide +kernel
theorem dL_law_1109 : decode cL_law 1109 = .ok (.iaload, 1) := by decide +kernel
theorem dL_law_1110 : decode cL_law 1110 = .ok (.iload 26, 2) := by decide +kernel
theorem dL_law_1112 : decode cL_law 1112 = .ok (.isub, 1) := by decide +kernel
theorem dL_law_1113 : decode cL_law 1113 = .ok (.aload_n 1, 1) := by decide +kernel
theorem dL_law_1114 : decode cL_law 1114 = .ok (.iload 24, 2) := by decide +kernel
theorem dL_law_1116 : decode cL_law 1116 = .ok (.iconst 2, 1) := by decide +kernel
theorem dL_law_1117 : decode cL_law 1117 = .ok (.invokevirtual 94, 3) := by decide +kernel
theorem dL_law_1120 : decode cL_law 1120 = .ok (.aload 25, 2) := by decide +kernel
theorem dL_law_1122 : decode cL_law 1122 = .ok (.iconst 2, 1) := by decide +kernel
theorem dL_law_1123 : decode cL_law 1123 = .ok (.iaload, 1) := by decide +kernel
theorem dL_law_1124 : decode cL_law 1124 = .ok (.isub, 1) := by decide +kernel
theorem dL_law_1125 : decode cL_law 1125 = .ok (.isub, 1) := by decide +kernel
theorem dL_law_1126 : decode cL_law 1126 = .ok (.istore 28, 2) := by decide +kernel
theorem dL_law_1128 : decode cL_law 1128 = .ok (.iload 23, 2) := by decide +kernel
theorem dL_law_1130 : decode cL_law 1130 = .ok (.iload 28, 2) := by decide +kernel
theorem dL_law_1132 : decode cL_law 1132 = .ok (.iadd, 1) := by decide +kernel
theorem dL_law_1133 : decode cL_law 1133 = .ok (.istore 23, 2) := by decide +kernel
theorem dL_law_1135 : decode cL_law 1135 = .ok (.iload 26, 2) := by decide +kernel
theorem dL_law_1137 : decode cL_law 1137 = .ok (.ifCond .lt 88, 3) := by decide +kernel
theorem dL_law_1140 : decode cL_law 1140 = .ok (.iload 26, 2) := by decide +kernel
theorem dL_law_1142 : decode cL_law 1142 = .ok (.bipush 60, 2) := by decide +kernel
theorem dL_law_1144 : decode cL_law 1144 = .ok (.if_icmp .gt 81, 3) := by decide +kernel
theorem dL_law_1147 : decode cL_law 1147 = .ok (.iload 27, 2) := by decide +kernel
theorem dL_law_1149 : decode cL_law 1149 = .ok (.ifCond .lt 76, 3) := by decide +kernel
theorem dL_law_1152 : decode cL_law 1152 = .ok (.iload 27, 2) := by decide +kernel
theorem dL_law_1154 : decode cL_law 1154 = .ok (.bipush 100, 2) := by decide +kernel
theorem dL_law_1156 : decode cL_law 1156 = .ok (.if_icmp .gt 69, 3) := by decide +kernel
theorem dL_law_1159 : decode cL_law 1159 = .ok (.iload 28, 2) := by decide +kernel
theorem dL_law_1161 : decode cL_law 1161 = .ok (.ifCond .lt 64, 3) := by decide +kernel
theorem dL_law_1164 : decode cL_law 1164 = .ok (.iload 28, 2) := by decide +kernel
theorem dL_law_1166 : decode cL_law 1166 = .ok (.iconst 2, 1) := by decide +kernel
theorem dL_law_1167 : decode cL_law 1167 = .ok (.if_icmp .gt 58, 3) := by decide +kernel
theorem dL_law_1170 : decode cL_law 1170 = .ok (.iload 26, 2) := by decide +kernel
theorem dL_law_1172 : decode cL_law 1172 = .ok (.ifCond .ne 8, 3) := by decide +kernel
theorem dL_law_1175 : decode cL_law 1175 = .ok (.iload 27, 2) := by decide +kernel
theorem dL_law_1177 : decode cL_law 1177 = .ok (.ifCond .ne 48, 3) := by decide +kernel
theorem dL_law_1180 : decode cL_law 1180 = .ok (.iload 26, 2) := by decide +kernel
theorem dL_law_1182 : decode cL_law 1182 = .ok (.ifCond .le 29, 3) := by decide +kernel
theorem dL_law_1185 : decode cL_law 1185 = .ok (.iload 28, 2) := by decide +kernel
theorem dL_law_1187 : decode cL_law 1187 = .ok (.iconst 2, 1) := by decide +kernel
theorem dL_law_1188 : decode cL_law 1188 = .ok (.if_icmp .ne 7, 3) := by decide +kernel
theorem dL_law_1191 : decode cL_law 1191 = .ok (.iconst 1, 1) := by decide +kernel
theorem dL_law_1192 : decode cL_law 1192 = .ok (.goto 4, 3) := by decide +kernel
theorem dL_law_1195 : decode cL_law 1195 = .ok (.iconst 0, 1) := by decide +kernel
theorem dL_law_1196 : decode cL_law 1196 = .ok (.iload 27, 2) := by decide +kernel
theorem dL_law_1198 : decode cL_law 1198 = .ok (.bipush 100, 2) := by decide +kernel
theorem dL_law_1200 : decode cL_law 1200 = .ok (.if_icmp .ne 7, 3) := by decide +kernel
theorem dL_law_1203 : decode cL_law 1203 = .ok (.iconst 1, 1) := by decide +kernel
theorem dL_law_1204 : decode cL_law 1204 = .ok (.goto 4, 3) := by decide +kernel
theorem dL_law_1207 : decode cL_law 1207 = .ok (.iconst 0, 1) := by decide +kernel
theorem dL_law_1208 : decode cL_law 1208 = .ok (.if_icmp .ne 17, 3) := by decide +kernel
theorem dL_law_1211 : decode cL_law 1211 = .ok (.aload_n 1, 1) := by decide +kernel
theorem dL_law_1212 : decode cL_law 1212 = .ok (.iload 24, 2) := by decide +kernel
theorem dL_law_1214 : decode cL_law 1214 = .ok (.iconst 2, 1) := by decide +kernel
theorem dL_law_1215 : decode cL_law 1215 = .ok (.invokevirtual 94, 3) := by decide +kernel
theorem dL_law_1218 : decode cL_law 1218 = .ok (.aload 25, 2) := by decide +kernel
theorem dL_law_1220 : decode cL_law 1220 = .ok (.iconst 2, 1) := by decide +kernel
theorem dL_law_1221 : decode cL_law 1221 = .ok (.iaload, 1) := by decide +kernel
theorem dL_law_1222 : decode cL_law 1222 = .ok (.if_icmp .ge 5, 3) := by decide +kernel
theorem dL_law_1225 : decode cL_law 1225 = .ok (.iconst 0, 1) := by decide +kernel
theorem dL_law_1226 : decode cL_law 1226 = .ok (.ireturn, 1) := by decide +kernel
theorem dL_law_1227 : decode cL_law 1227 = .ok (.aload 11, 2) := by decide +kernel
theorem dL_law_1229 : decode cL_law 1229 = .ok (.iconst 1, 1) := by decide +kernel
theorem dL_law_1230 : decode cL_law 1230 = .ok (.iaload, 1) := by decide +kernel
theorem dL_law_1231 : decode cL_law 1231 = .ok (.bipush 20, 2) := by decide +kernel
theorem dL_law_1233 : decode cL_law 1233 = .ok (.if_icmp .le 26, 3) := by decide +kernel
theorem dL_law_1236 : decode cL_law 1236 = .ok (.aload 11, 2) := by decide +kernel
theorem dL_law_1238 : decode cL_law 1238 = .ok (.iconst 2, 1) := by decide +kernel
theorem dL_law_1239 : decode cL_law 1239 = .ok (.iaload, 1) := by decide +kernel
theorem dL_law_1240 : decode cL_law 1240 = .ok (.bipush 100, 2) := by decide +kernel
theorem dL_law_1242 : decode cL_law 1242 = .ok (.if_icmp .ge 17, 3) := by decide +kernel
theorem dL_law_1245 : decode cL_law 1245 = .ok (.aload 11, 2) := by decide +kernel
theorem dL_law_1247 : decode cL_law 1247 = .ok (.iconst 1, 1) := by decide +kernel
theorem dL_law_1248 : decode cL_law 1248 = .ok (.iaload, 1) := by decide +kernel
theorem dL_law_1249 : decode cL_law 1249 = .ok (.bipush 20, 2) := by decide +kernel
theorem dL_law_1251 : decode cL_law 1251 = .ok (.isub, 1) := by decide +kernel
theorem dL_law_1252 : decode cL_law 1252 = .ok (.iconst 4, 1) := by decide +kernel
theorem dL_law_1253 : decode cL_law 1253 = .ok (.idiv, 1) := by decide +kernel
theorem dL_law_1254 : decode cL_law 1254 = .ok (.iconst 1, 1) := by decide +kernel
theorem dL_law_1255 : decode cL_law 1255 = .ok (.iadd, 1) := by decide +kernel
theorem dL_law_1256 : decode cL_law 1256 = .ok (.goto 4, 3) := by decide +kernel
theorem dL_law_1259 : decode cL_law 1259 = .ok (.iconst (-1), 1) := by decide +kernel
theorem dL_law_1260 : decode cL_law 1260 = .ok (.istore 29, 2) := by decide +kernel
theorem dL_law_1262 : decode cL_law 1262 = .ok (.iload 26, 2) := by decide +kernel
theorem dL_law_1264 : decode cL_law 1264 = .ok (.ifCond .le 26, 3) := by decide +kernel
theorem dL_law_1267 : decode cL_law 1267 = .ok (.iload 27, 2) := by decide +kernel
theorem dL_law_1269 : decode cL_law 1269 = .ok (.iconst 0, 1) := by decide +kernel
theorem dL_law_1270 : decode cL_law 1270 = .ok (.bipush 100, 2) := by decide +kernel
theorem dL_law_1272 : decode cL_law 1272 = .ok (.aload 25, 2) := by decide +kernel
theorem dL_law_1274 : decode cL_law 1274 = .ok (.iconst 1, 1) := by decide +kernel
theorem dL_law_1275 : decode cL_law 1275 = .ok (.iaload, 1) := by decide +kernel
theorem dL_law_1276 : decode cL_law 1276 = .ok (.iload 29, 2) := by decide +kernel
theorem dL_law_1278 : decode cL_law 1278 = .ok (.iadd, 1) := by decide +kernel
theorem dL_law_1279 : decode cL_law 1279 = .ok (.invokestatic 28, 3) := by decide +kernel
theorem dL_law_1282 : decode cL_law 1282 = .ok (.invokestatic 64, 3) := by decide +kernel
theorem dL_law_1285 : decode cL_law 1285 = .ok (.if_icmp .eq 5, 3) := by decide +kernel
theorem dL_law_1288 : decode cL_law 1288 = .ok (.iconst 0, 1) := by decide +kernel
theorem dL_law_1289 : decode cL_law 1289 = .ok (.ireturn, 1) := by decide +kernel
theorem dL_law_1290 : decode cL_law 1290 = .ok (.iinc 24 1, 3) := by decide +kernel
theorem dL_law_1293 : decode cL_law 1293 = .ok (.goto (-219), 3) := by decide +kernel
theorem dL_law_1296 : decode cL_law 1296 = .ok (.aload_n 1, 1) := by decide +kernel
theorem dL_law_1297 : decode cL_law 1297 = .ok (.bipush 7, 2) := by decide +kernel
theorem dL_law_1299 : decode cL_law 1299 = .ok (.invokevirtual 97, 3) := by decide +kernel
theorem dL_law_1302 : decode cL_law 1302 = .ok (.aload 11, 2) := by decide +kernel
theorem dL_law_1304 : decode cL_law 1304 = .ok (.bipush 7, 2) := by decide +kernel
theorem dL_law_1306 : decode cL_law 1306 = .ok (.iaload, 1) := by decide +kernel
theorem dL_law_1307 : decode cL_law 1307 = .ok (.iload 19, 2) := by decide +kernel
theorem dL_law_1309 : decode cL_law 1309 = .ok (.isub, 1) := by decide +kernel
theorem dL_law_1310 : decode cL_law 1310 = .ok (.iload 23, 2) := by decide +kernel
theorem dL_law_1312 : decode cL_law 1312 = .ok (.isub, 1) := by decide +kernel
theorem dL_law_1313 : decode cL_law 1313 = .ok (.if_icmp .eq 5, 3) := by decide +kernel
theorem dL_law_1316 : decode cL_law 1316 = .ok (.iconst 0, 1) := by decide +kernel
theorem dL_law_1317 : decode cL_law 1317 = .ok (.ireturn, 1) := by decide +kernel
theorem dL_law_1318 : decode cL_law 1318 = .ok (.iinc 5 1, 3) := by decide +kernel
theorem dL_law_1321 : decode cL_law 1321 = .ok (.goto (-1232), 3) := by decide +kernel
theorem dL_law_1324 : decode cL_law 1324 = .ok (.aload_n 2, 1) := by decide +kernel
theorem dL_law_1325 : decode cL_law 1325 = .ok (.aload_n 1, 1) := by decide +kernel
theorem dL_law_1326 : decode cL_law 1326 = .ok (.invokevirtual 116, 3) := by decide +kernel
theorem dL_law_1329 : decode cL_law 1329 = .ok (.ireturn, 1) := by decide +kernel
