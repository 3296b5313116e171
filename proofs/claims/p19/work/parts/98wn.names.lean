theorem dL_isSo_909 : decode cL_isSo 909 = .ok (.iconst 4, 1) := by decide +kernel
theorem dL_isSo_910 : decode cL_isSo 910 = .ok (.iadd, 1) := by decide +kernel
theorem dL_isSo_911 : decode cL_isSo 911 = .ok (.laload, 1) := by decide +kernel
theorem dL_isSo_912 : decode cL_isSo 912 = .ok (.lload 42, 2) := by decide +kernel
theorem dL_isSo_914 : decode cL_isSo 914 = .ok (.lmul, 1) := by decide +kernel
theorem dL_isSo_915 : decode cL_isSo 915 = .ok (.aload 5, 2) := by decide +kernel
theorem dL_isSo_917 : decode cL_isSo 917 = .ok (.iload 37, 2) := by decide +kernel
theorem dL_isSo_919 : decode cL_isSo 919 = .ok (.iconst 3, 1) := by decide +kernel
theorem dL_isSo_920 : decode cL_isSo 920 = .ok (.iadd, 1) := by decide +kernel
theorem dL_isSo_921 : decode cL_isSo 921 = .ok (.laload, 1) := by decide +kernel
theorem dL_isSo_922 : decode cL_isSo 922 = .ok (.lload 44, 2) := by decide +kernel
theorem dL_isSo_924 : decode cL_isSo 924 = .ok (.lmul, 1) := by decide +kernel
theorem dL_isSo_925 : decode cL_isSo 925 = .ok (.lsub, 1) := by decide +kernel
theorem dL_isSo_926 : decode cL_isSo 926 = .ok (.invokestatic 76, 3) := by decide +kernel
theorem dL_isSo_929 : decode cL_isSo 929 = .ok (.lload 40, 2) := by decide +kernel
theorem dL_isSo_931 : decode cL_isSo 931 = .ok (.lmul, 1) := by decide +kernel
theorem dL_isSo_932 : decode cL_isSo 932 = .ok (.invokestatic 76, 3) := by decide +kernel
theorem dL_isSo_935 : decode cL_isSo 935 = .ok (.lstore 46, 2) := by decide +kernel
theorem dL_isSo_937 : decode cL_isSo 937 = .ok (.aload 5, 2) := by decide +kernel
theorem dL_isSo_939 : decode cL_isSo 939 = .ok (.iload 37, 2) := by decide +kernel
theorem dL_isSo_941 : decode cL_isSo 941 = .ok (.iconst 2, 1) := by decide +kernel
theorem dL_isSo_942 : decode cL_isSo 942 = .ok (.iadd, 1) := by decide +kernel
theorem dL_isSo_943 : decode cL_isSo 943 = .ok (.laload, 1) := by decide +kernel
theorem dL_isSo_944 : decode cL_isSo 944 = .ok (.lload 44, 2) := by decide +kernel
theorem dL_isSo_946 : decode cL_isSo 946 = .ok (.lmul, 1) := by decide +kernel
theorem dL_isSo_947 : decode cL_isSo 947 = .ok (.aload 5, 2) := by decide +kernel
theorem dL_isSo_949 : decode cL_isSo 949 = .ok (.iload 37, 2) := by decide +kernel
theorem dL_isSo_951 : decode cL_isSo 951 = .ok (.iconst 3, 1) := by decide +kernel
theorem dL_isSo_952 : decode cL_isSo 952 = .ok (.iadd, 1) := by decide +kernel
theorem dL_isSo_953 : decode cL_isSo 953 = .ok (.laload, 1) := by decide +kernel
theorem dL_isSo_954 : decode cL_isSo 954 = .ok (.lload 42, 2) := by decide +kernel
theorem dL_isSo_956 : decode cL_isSo 956 = .ok (.lmul, 1) := by decide +kernel
theorem dL_isSo_957 : decode cL_isSo 957 = .ok (.lsub, 1) := by decide +kernel
theorem dL_isSo_958 : decode cL_isSo 958 = .ok (.invokestatic 76, 3) := by decide +kernel
theorem dL_isSo_961 : decode cL_isSo 961 = .ok (.lload 40, 2) := by decide +kernel
theorem dL_isSo_963 : decode cL_isSo 963 = .ok (.lmul, 1) := by decide +kernel
theorem dL_isSo_964 : decode cL_isSo 964 = .ok (.invokestatic 76, 3) := by decide +kernel
theorem dL_isSo_967 : decode cL_isSo 967 = .ok (.lstore 48, 2) := by decide +kernel
theorem dL_isSo_969 : decode cL_isSo 969 = .ok (.aload_n 1, 1) := by decide +kernel
theorem dL_isSo_970 : decode cL_isSo 970 = .ok (.iload 12, 2) := by decide +kernel
theorem dL_isSo_972 : decode cL_isSo 972 = .ok (.iaload, 1) := by decide +kernel
theorem dL_isSo_973 : decode cL_isSo 973 = .ok (.i2l, 1) := by decide +kernel
theorem dL_isSo_974 : decode cL_isSo 974 = .ok (.lload 46, 2) := by decide +kernel
theorem dL_isSo_976 : decode cL_isSo 976 = .ok (.lmul, 1) := by decide +kernel
theorem dL_isSo_977 : decode cL_isSo 977 = .ok (.aload_n 1, 1) := by decide +kernel
theorem dL_isSo_978 : decode cL_isSo 978 = .ok (.iload 12, 2) := by decide +kernel
theorem dL_isSo_980 : decode cL_isSo 980 = .ok (.iconst 2, 1) := by decide +kernel
theorem dL_isSo_981 : decode cL_isSo 981 = .ok (.iadd, 1) := by decide +kernel
theorem dL_isSo_982 : decode cL_isSo 982 = .ok (.iaload, 1) := by decide +kernel
theorem dL_isSo_983 : decode cL_isSo 983 = .ok (.i2l, 1) := by decide +kernel
theorem dL_isSo_984 : decode cL_isSo 984 = .ok (.lload 48, 2) := by decide +kernel
theorem dL_isSo_986 : decode cL_isSo 986 = .ok (.lmul, 1) := by decide +kernel
theorem dL_isSo_987 : decode cL_isSo 987 = .ok (.ladd, 1) := by decide +kernel
theorem dL_isSo_988 : decode cL_isSo 988 = .ok (.invokestatic 76, 3) := by decide +kernel
theorem dL_isSo_991 : decode cL_isSo 991 = .ok (.lstore 50, 2) := by decide +kernel
theorem dL_isSo_993 : decode cL_isSo 993 = .ok (.aload_n 1, 1) := by decide +kernel
theorem dL_isSo_994 : decode cL_isSo 994 = .ok (.iload 12, 2) := by decide +kernel
theorem dL_isSo_996 : decode cL_isSo 996 = .ok (.iconst 1, 1) := by decide +kernel
theorem dL_isSo_997 : decode cL_isSo 997 = .ok (.iadd, 1) := by decide +kernel
theorem dL_isSo_998 : decode cL_isSo 998 = .ok (.iaload, 1) := by decide +kernel
theorem dL_isSo_999 : decode cL_isSo 999 = .ok (.i2l, 1) := by decide +kernel
theorem dL_isSo_1000 : decode cL_isSo 1000 = .ok (.lload 46, 2) := by decide +kernel
theorem dL_isSo_1002 : decode cL_isSo 1002 = .ok (.lmul, 1) := by decide +kernel
theorem dL_isSo_1003 : decode cL_isSo 1003 = .ok (.aload_n 1, 1) := by decide +kernel
theorem dL_isSo_1004 : decode cL_isSo 1004 = .ok (.iload 12, 2) := by decide +kernel
theorem dL_isSo_1006 : decode cL_isSo 1006 = .ok (.iconst 3, 1) := by decide +kernel
theorem dL_isSo_1007 : decode cL_isSo 1007 = .ok (.iadd, 1) := by decide +kernel
theorem dL_isSo_1008 : decode cL_isSo 1008 = .ok (.iaload, 1) := by decide +kernel
theorem dL_isSo_1009 : decode cL_isSo 1009 = .ok (.i2l, 1) := by decide +kernel
theorem dL_isSo_1010 : decode cL_isSo 1010 = .ok (.lload 48, 2) := by decide +kernel
theorem dL_isSo_1012 : decode cL_isSo 1012 = .ok (.lmul, 1) := by decide +kernel
theorem dL_isSo_1013 : decode cL_isSo 1013 = .ok (.ladd, 1) := by decide +kernel
theorem dL_isSo_1014 : decode cL_isSo 1014 = .ok (.invokestatic 76, 3) := by decide +kernel
theorem dL_isSo_1017 : decode cL_isSo 1017 = .ok (.lstore 52, 2) := by decide +kernel
theorem dL_isSo_1019 : decode cL_isSo 1019 = .ok (.bipush 40, 2) := by decide +kernel
theorem dL_isSo_1021 : decode cL_isSo 1021 = .ok (.iconst 5, 1) := by decide +kernel
theorem dL_isSo_1022 : decode cL_isSo 1022 = .ok (.iload 36, 2) := by decide +kernel
theorem dL_isSo_1024 : decode cL_isSo 1024 = .ok (.imul, 1) := by decide +kernel
theorem dL_isSo_1025 : decode cL_isSo 1025 = .ok (.iadd, 1) := by decide +kernel
theorem dL_isSo_1026 : decode cL_isSo 1026 = .ok (.istore 54, 2) := by decide +kernel
theorem dL_isSo_1028 : decode cL_isSo 1028 = .ok (.aload 5, 2) := by decide +kernel
theorem dL_isSo_1030 : decode cL_isSo 1030 = .ok (.iload 54, 2) := by decide +kernel
theorem dL_isSo_1032 : decode cL_isSo 1032 = .ok (.laload, 1) := by decide +kernel
theorem dL_isSo_1033 : decode cL_isSo 1033 = .ok (.aload 5, 2) := by decide +kernel
theorem dL_isSo_1035 : decode cL_isSo 1035 = .ok (.iload 54, 2) := by decide +kernel
theorem dL_isSo_1037 : decode cL_isSo 1037 = .ok (.iconst 2, 1) := by decide +kernel
theorem dL_isSo_1038 : decode cL_isSo 1038 = .ok (.iadd, 1) := by decide +kernel
theorem dL_isSo_1039 : decode cL_isSo 1039 = .ok (.laload, 1) := by decide +kernel
theorem dL_isSo_1040 : decode cL_isSo 1040 = .ok (.lload 50, 2) := by decide +kernel
theorem dL_isSo_1042 : decode cL_isSo 1042 = .ok (.lmul, 1) := by decide +kernel
theorem dL_isSo_1043 : decode cL_isSo 1043 = .ok (.ladd, 1) := by decide +kernel
theorem dL_isSo_1044 : decode cL_isSo 1044 = .ok (.aload 5, 2) := by decide +kernel
theorem dL_isSo_1046 : decode cL_isSo 1046 = .ok (.iload 54, 2) := by decide +kernel
theorem dL_isSo_1048 : decode cL_isSo 1048 = .ok (.iconst 3, 1) := by decide +kernel
theorem dL_isSo_1049 : decode cL_isSo 1049 = .ok (.iadd, 1) := by decide +kernel
theorem dL_isSo_1050 : decode cL_isSo 1050 = .ok (.laload, 1) := by decide +kernel
theorem dL_isSo_1051 : decode cL_isSo 1051 = .ok (.lload 52, 2) := by decide +kernel
theorem dL_isSo_1053 : decode cL_isSo 1053 = .ok (.lmul, 1) := by decide +kernel
theorem dL_isSo_1054 : decode cL_isSo 1054 = .ok (.ladd, 1) := by decide +kernel
theorem dL_isSo_1055 : decode cL_isSo 1055 = .ok (.invokestatic 76, 3) := by decide +kernel
theorem dL_isSo_1058 : decode cL_isSo 1058 = .ok (.lstore 55, 2) := by decide +kernel
theorem dL_isSo_1060 : decode cL_isSo 1060 = .ok (.aload 5, 2) := by decide +kernel
theorem dL_isSo_1062 : decode cL_isSo 1062 = .ok (.iload 54, 2) := by decide +kernel
theorem dL_isSo_1064 : decode cL_isSo 1064 = .ok (.iconst 1, 1) := by decide +kernel
theorem dL_isSo_1065 : decode cL_isSo 1065 = .ok (.iadd, 1) := by decide +kernel
theorem dL_isSo_1066 : decode cL_isSo 1066 = .ok (.laload, 1) := by decide +kernel
theorem dL_isSo_1067 : decode cL_isSo 1067 = .ok (.aload 5, 2) := by decide +kernel
theorem dL_isSo_1069 : decode cL_isSo 1069 = .ok (.iload 54, 2) := by decide +kernel
theorem dL_isSo_1071 : decode cL_isSo 1071 = .ok (.iconst 3, 1) := by decide +kernel
theorem dL_isSo_1072 : decode cL_isSo 1072 = .ok (.iadd, 1) := by decide +kernel
theorem dL_isSo_1073 : decode cL_isSo 1073 = .ok (.laload, 1) := by decide +kernel
theorem dL_isSo_1074 : decode cL_isSo 1074 = .ok (.lload 50, 2) := by decide +kernel
theorem dL_isSo_1076 : decode cL_isSo 1076 = .ok (.lmul, 1) := by decide +kernel
theorem dL_isSo_1077 : decode cL_isSo 1077 = .ok (.ladd, 1) := by decide +kernel
theorem dL_isSo_1078 : decode cL_isSo 1078 = .ok (.aload 5, 2) := by decide +kernel
theorem dL_isSo_1080 : decode cL_isSo 1080 = .ok (.iload 54, 2) := by decide +kernel
theorem dL_isSo_1082 : decode cL_isSo 1082 = .ok (.iconst 4, 1) := by decide +kernel
theorem dL_isSo_1083 : decode cL_isSo 1083 = .ok (.iadd, 1) := by decide +kernel
theorem dL_isSo_1084 : decode cL_isSo 1084 = .ok (.laload, 1) := by decide +kernel
theorem dL_isSo_1085 : decode cL_isSo 1085 = .ok (.lload 52, 2) := by decide +kernel
theorem dL_isSo_1087 : decode cL_isSo 1087 = .ok (.lmul, 1) := by decide +kernel
theorem dL_isSo_1088 : decode cL_isSo 1088 = .ok (.ladd, 1) := by decide +kernel
theorem dL_isSo_1089 : decode cL_isSo 1089 = .ok (.invokestatic 76, 3) := by decide +kernel
theorem dL_isSo_1092 : decode cL_isSo 1092 = .ok (.lstore 57, 2) := by decide +kernel
theorem dL_isSo_1094 : decode cL_isSo 1094 = .ok (.aload_n 0, 1) := by decide +kernel
theorem dL_isSo_1095 : decode cL_isSo 1095 = .ok (.bipush 11, 2) := by decide +kernel
theorem dL_isSo_1097 : decode cL_isSo 1097 = .ok (.iload 11, 2) := by decide +kernel
theorem dL_isSo_1099 : decode cL_isSo 1099 = .ok (.iload 36, 2) := by decide +kernel
theorem dL_isSo_1101 : decode cL_isSo 1101 = .ok (.iload 9, 2) := by decide +kernel
theorem dL_isSo_1103 : decode cL_isSo 1103 = .ok (.iconst 2, 1) := by decide +kernel
theorem dL_isSo_1104 : decode cL_isSo 1104 = .ok (.irem, 1) := by decide +kernel
theorem dL_isSo_1105 : decode cL_isSo 1105 = .ok (.iconst 0, 1) := by decide +kernel
theorem dL_isSo_1106 : decode cL_isSo 1106 = .ok (.iconst 0, 1) := by decide +kernel
theorem dL_isSo_1107 : decode cL_isSo 1107 = .ok (.iconst 0, 1) := by decide +kernel
theorem dL_isSo_1108 : decode cL_isSo 1108 = .ok (.invokestatic 101, 3) := by decide +kernel
theorem dL_isSo_1111 : decode cL_isSo 1111 = .ok (.i2l, 1) := by decide +kernel
theorem dL_isSo_1112 : decode cL_isSo 1112 = .ok (.lload 38, 2) := by decide +kernel
theorem dL_isSo_1114 : decode cL_isSo 1114 = .ok (.lconst 0, 1) := by decide +kernel
theorem dL_isSo_1115 : decode cL_isSo 1115 = .ok (.lcmp, 1) := by decide +kernel
theorem dL_isSo_1116 : decode cL_isSo 1116 = .ok (.ifCond .ne 9, 3) := by decide +kernel
theorem dL_isSo_1119 : decode cL_isSo 1119 = .ok (.ldc2_w 99, 3) := by decide +kernel
theorem dL_isSo_1122 : decode cL_isSo 1122 = .ok (.goto 17, 3) := by decide +kernel
theorem dL_isSo_1125 : decode cL_isSo 1125 = .ok (.iload 9, 2) := by decide +kernel
theorem dL_isSo_1127 : decode cL_isSo 1127 = .ok (.iconst 2, 1) := by decide +kernel
theorem dL_isSo_1128 : decode cL_isSo 1128 = .ok (.irem, 1) := by decide +kernel
theorem dL_isSo_1129 : decode cL_isSo 1129 = .ok (.ifCond .ne 8, 3) := by decide +kernel
theorem dL_isSo_1132 : decode cL_isSo 1132 = .ok (.lload 55, 2) := by decide +kernel
theorem dL_isSo_1134 : decode cL_isSo 1134 = .ok (.goto 5, 3) := by decide +kernel
theorem dL_isSo_1137 : decode cL_isSo 1137 = .ok (.lload 57, 2) := by decide +kernel
theorem dL_isSo_1139 : decode cL_isSo 1139 = .ok (.lcmp, 1) := by decide +kernel
theorem dL_isSo_1140 : decode cL_isSo 1140 = .ok (.ifCond .ne 33, 3) := by decide +kernel
theorem dL_isSo_1143 : decode cL_isSo 1143 = .ok (.aload_n 0, 1) := by decide +kernel
theorem dL_isSo_1144 : decode cL_isSo 1144 = .ok (.iload 11, 2) := by decide +kernel
theorem dL_isSo_1146 : decode cL_isSo 1146 = .ok (.iload 36, 2) := by decide +kernel
theorem dL_isSo_1148 : decode cL_isSo 1148 = .ok (.iconst 1, 1) := by decide +kernel
theorem dL_isSo_1149 : decode cL_isSo 1149 = .ok (.iadd, 1) := by decide +kernel
theorem dL_isSo_1150 : decode cL_isSo 1150 = .ok (.iload 9, 2) := by decide +kernel
theorem dL_isSo_1152 : decode cL_isSo 1152 = .ok (.iconst 2, 1) := by decide +kernel
theorem dL_isSo_1153 : decode cL_isSo 1153 = .ok (.irem, 1) := by decide +kernel
theorem dL_isSo_1154 : decode cL_isSo 1154 = .ok (.invokevirtual 52, 3) := by decide +kernel
theorem dL_isSo_1157 : decode cL_isSo 1157 = .ok (.i2l, 1) := by decide +kernel
theorem dL_isSo_1158 : decode cL_isSo 1158 = .ok (.aload 5, 2) := by decide +kernel
theorem dL_isSo_1160 : decode cL_isSo 1160 = .ok (.iload 9, 2) := by decide +kernel
theorem dL_isSo_1162 : decode cL_isSo 1162 = .ok (.iconst 2, 1) := by decide +kernel
theorem dL_isSo_1163 : decode cL_isSo 1163 = .ok (.irem, 1) := by decide +kernel
theorem dL_isSo_1164 : decode cL_isSo 1164 = .ok (.laload, 1) := by decide +kernel
theorem dL_isSo_1165 : decode cL_isSo 1165 = .ok (.lcmp, 1) := by decide +kernel
theorem dL_isSo_1166 : decode cL_isSo 1166 = .ok (.ifCond .ne 7, 3) := by decide +kernel
theorem dL_isSo_1169 : decode cL_isSo 1169 = .ok (.iconst 1, 1) := by decide +kernel
theorem dL_isSo_1170 : decode cL_isSo 1170 = .ok (.goto 4, 3) := by decide +kernel
theorem dL_isSo_1173 : decode cL_isSo 1173 = .ok (.iconst 0, 1) := by decide +kernel
theorem dL_isSo_1174 : decode cL_isSo 1174 = .ok (.istore 10, 2) := by decide +kernel
theorem dL_isSo_1176 : decode cL_isSo 1176 = .ok (.iload 9, 2) := by decide +kernel
theorem dL_isSo_1178 : decode cL_isSo 1178 = .ok (.bipush 40, 2) := by decide +kernel
theorem dL_isSo_1180 : decode cL_isSo 1180 = .ok (.irem, 1) := by decide +kernel
theorem dL_isSo_1181 : decode cL_isSo 1181 = .ok (.istore 37, 2) := by decide +kernel
theorem dL_isSo_1183 : decode cL_isSo 1183 = .ok (.iconst 0, 1) := by decide +kernel
theorem dL_isSo_1184 : decode cL_isSo 1184 = .ok (.istore 38, 2) := by decide +kernel
theorem dL_isSo_1186 : decode cL_isSo 1186 = .ok (.iload 38, 2) := by decide +kernel
theorem dL_isSo_1188 : decode cL_isSo 1188 = .ok (.iload 37, 2) := by decide +kernel
theorem dL_isSo_1190 : decode cL_isSo 1190 = .ok (.if_icmp .ge 17, 3) := by decide +kernel
theorem dL_isSo_1193 : decode cL_isSo 1193 = .ok (.aload_n 1, 1) := by decide +kernel
theorem dL_isSo_1194 : decode cL_isSo 1194 = .ok (.iload 12, 2) := by decide +kernel
theorem dL_isSo_1196 : decode cL_isSo 1196 = .ok (.aload 5, 2) := by decide +kernel
theorem dL_isSo_1198 : decode cL_isSo 1198 = .ok (.invokestatic 80, 3) := by decide +kernel
theorem dL_isSo_1201 : decode cL_isSo 1201 = .ok (.iinc 38 1, 3) := by decide +kernel
theorem dL_isSo_1204 : decode cL_isSo 1204 = .ok (.goto (-18), 3) := by decide +kernel
theorem dL_isSo_1207 : decode cL_isSo 1207 = .ok (.iload 10, 2) := by decide +kernel
theorem dL_isSo_1209 : decode cL_isSo 1209 = .ok (.ifCond .eq 47, 3) := by decide +kernel
theorem dL_isSo_1212 : decode cL_isSo 1212 = .ok (.aload_n 0, 1) := by decide +kernel
theorem dL_isSo_1213 : decode cL_isSo 1213 = .ok (.iload 11, 2) := by decide +kernel
theorem dL_isSo_1215 : decode cL_isSo 1215 = .ok (.iload 37, 2) := by decide +kernel
theorem dL_isSo_1217 : decode cL_isSo 1217 = .ok (.iload 32, 2) := by decide +kernel
theorem dL_isSo_1219 : decode cL_isSo 1219 = .ok (.invokevirtual 55, 3) := by decide +kernel
theorem dL_isSo_1222 : decode cL_isSo 1222 = .ok (.i2l, 1) := by decide +kernel
theorem dL_isSo_1223 : decode cL_isSo 1223 = .ok (.aload 5, 2) := by decide +kernel
theorem dL_isSo_1225 : decode cL_isSo 1225 = .ok (.iload 32, 2) := by decide +kernel
theorem dL_isSo_1227 : decode cL_isSo 1227 = .ok (.laload, 1) := by decide +kernel
theorem dL_isSo_1228 : decode cL_isSo 1228 = .ok (.lcmp, 1) := by decide +kernel
theorem dL_isSo_1229 : decode cL_isSo 1229 = .ok (.ifCond .ne 27, 3) := by decide +kernel
theorem dL_isSo_1232 : decode cL_isSo 1232 = .ok (.aload_n 0, 1) := by decide +kernel
theorem dL_isSo_1233 : decode cL_isSo 1233 = .ok (.iload 11, 2) := by decide +kernel
theorem dL_isSo_1235 : decode cL_isSo 1235 = .ok (.iload 37, 2) := by decide +kernel
theorem dL_isSo_1237 : decode cL_isSo 1237 = .ok (.iload 32, 2) := by decide +kernel
theorem dL_isSo_1239 : decode cL_isSo 1239 = .ok (.invokevirtual 105, 3) := by decide +kernel
theorem dL_isSo_1242 : decode cL_isSo 1242 = .ok (.i2l, 1) := by decide +kernel
theorem dL_isSo_1243 : decode cL_isSo 1243 = .ok (.aload 5, 2) := by decide +kernel
theorem dL_isSo_1245 : decode cL_isSo 1245 = .ok (.iload 32, 2) := by decide +kernel
theorem dL_isSo_1247 : decode cL_isSo 1247 = .ok (.laload, 1) := by decide +kernel
theorem dL_isSo_1248 : decode cL_isSo 1248 = .ok (.lcmp, 1) := by decide +kernel
theorem dL_isSo_1249 : decode cL_isSo 1249 = .ok (.ifCond .ne 7, 3) := by decide +kernel
theorem dL_isSo_1252 : decode cL_isSo 1252 = .ok (.iconst 1, 1) := by decide +kernel
theorem dL_isSo_1253 : decode cL_isSo 1253 = .ok (.goto 4, 3) := by decide +kernel
theorem dL_isSo_1256 : decode cL_isSo 1256 = .ok (.iconst 0, 1) := by decide +kernel
theorem dL_isSo_1257 : decode cL_isSo 1257 = .ok (.istore 10, 2) := by decide +kernel
theorem dL_isSo_1259 : decode cL_isSo 1259 = .ok (.iinc 11 1, 3) := by decide +kernel
theorem dL_isSo_1262 : decode cL_isSo 1262 = .ok (.goto (-1256), 3) := by decide +kernel
theorem dL_isSo_1265 : decode cL_isSo 1265 = .ok (.iload 10, 2) := by decide +kernel
theorem dL_isSo_1267 : decode cL_isSo 1267 = .ok (.ifCond .eq 54, 3) := by decide +kernel
theorem dL_isSo_1270 : decode cL_isSo 1270 = .ok (.aload_n 0, 1) := by decide +kernel
theorem dL_isSo_1271 : decode cL_isSo 1271 = .ok (.bipush 13, 2) := by decide +kernel
theorem dL_isSo_1273 : decode cL_isSo 1273 = .ok (.aload 7, 2) := by decide +kernel
theorem dL_isSo_1275 : decode cL_isSo 1275 = .ok (.iconst 1, 1) := by decide +kernel
theorem dL_isSo_1276 : decode cL_isSo 1276 = .ok (.iaload, 1) := by decide +kernel
theorem dL_isSo_1277 : decode cL_isSo 1277 = .ok (.iconst 0, 1) := by decide +kernel
theorem dL_isSo_1278 : decode cL_isSo 1278 = .ok (.iconst 0, 1) := by decide +kernel
theorem dL_isSo_1279 : decode cL_isSo 1279 = .ok (.iconst 0, 1) := by decide +kernel
theorem dL_isSo_1280 : decode cL_isSo 1280 = .ok (.iconst 0, 1) := by decide +kernel
theorem dL_isSo_1281 : decode cL_isSo 1281 = .ok (.iconst 0, 1) := by decide +kernel
theorem dL_isSo_1282 : decode cL_isSo 1282 = .ok (.invokestatic 101, 3) := by decide +kernel
theorem dL_isSo_1285 : decode cL_isSo 1285 = .ok (.bipush (-3), 2) := by decide +kernel
theorem dL_isSo_1287 : decode cL_isSo 1287 = .ok (.if_icmp .ne 34, 3) := by decide +kernel
theorem dL_isSo_1290 : decode cL_isSo 1290 = .ok (.aload 7, 2) := by decide +kernel
theorem dL_isSo_1292 : decode cL_isSo 1292 = .ok (.iconst 1, 1) := by decide +kernel
theorem dL_isSo_1293 : decode cL_isSo 1293 = .ok (.iaload, 1) := by decide +kernel
theorem dL_isSo_1294 : decode cL_isSo 1294 = .ok (.ifCond .eq 23, 3) := by decide +kernel
theorem dL_isSo_1297 : decode cL_isSo 1297 = .ok (.aload_n 0, 1) := by decide +kernel
theorem dL_isSo_1298 : decode cL_isSo 1298 = .ok (.bipush 14, 2) := by decide +kernel
theorem dL_isSo_1300 : decode cL_isSo 1300 = .ok (.iconst 0, 1) := by decide +kernel
theorem dL_isSo_1301 : decode cL_isSo 1301 = .ok (.aload_n 1, 1) := by decide +kernel
theorem dL_isSo_1302 : decode cL_isSo 1302 = .ok (.bipush 14, 2) := by decide +kernel
theorem dL_isSo_1304 : decode cL_isSo 1304 = .ok (.iaload, 1) := by decide +kernel
theorem dL_isSo_1305 : decode cL_isSo 1305 = .ok (.iconst 0, 1) := by decide +kernel
theorem dL_isSo_1306 : decode cL_isSo 1306 = .ok (.iconst 0, 1) := by decide +kernel
theorem dL_isSo_1307 : decode cL_isSo 1307 = .ok (.iconst 0, 1) := by decide +kernel
theorem dL_isSo_1308 : decode cL_isSo 1308 = .ok (.iconst 0, 1) := by decide +kernel
theorem dL_isSo_1309 : decode cL_isSo 1309 = .ok (.invokestatic 101, 3) := by decide +kernel
theorem dL_isSo_1312 : decode cL_isSo 1312 = .ok (.bipush (-3), 2) := by decide +kernel
theorem dL_isSo_1314 : decode cL_isSo 1314 = .ok (.if_icmp .ne 7, 3) := by decide +kernel
theorem dL_isSo_1317 : decode cL_isSo 1317 = .ok (.iconst 1, 1) := by decide +kernel
theorem dL_isSo_1318 : decode cL_isSo 1318 = .ok (.goto 4, 3) := by decide +kernel
theorem dL_isSo_1321 : decode cL_isSo 1321 = .ok (.iconst 0, 1) := by decide +kernel
theorem dL_isSo_1322 : decode cL_isSo 1322 = .ok (.ireturn, 1) := by decide +kernel
