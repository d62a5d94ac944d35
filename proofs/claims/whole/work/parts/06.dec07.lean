theorem d_Law_law_902 : decode code 902 = .ok (.ifCond .eq 5, 3) := by decide +kernel
theorem d_Law_law_905 : decode code 905 = .ok (.iconst 0, 1) := by decide +kernel
theorem d_Law_law_906 : decode code 906 = .ok (.ireturn, 1) := by decide +kernel
theorem d_Law_law_907 : decode code 907 = .ok (.goto 296, 3) := by decide +kernel
theorem d_Law_law_910 : decode code 910 = .ok (.aload_n 1, 1) := by decide +kernel
theorem d_Law_law_911 : decode code 911 = .ok (.invokevirtual 112, 3) := by decide +kernel
theorem d_Law_law_914 : decode code 914 = .ok (.aload_n 2, 1) := by decide +kernel
theorem d_Law_law_915 : decode code 915 = .ok (.invokevirtual 115, 3) := by decide +kernel
theorem d_Law_law_918 : decode code 918 = .ok (.if_icmp .eq 285, 3) := by decide +kernel
theorem d_Law_law_921 : decode code 921 = .ok (.iconst 0, 1) := by decide +kernel
theorem d_Law_law_922 : decode code 922 = .ok (.ireturn, 1) := by decide +kernel
theorem d_Law_law_923 : decode code 923 = .ok (.aload_n 1, 1) := by decide +kernel
theorem d_Law_law_924 : decode code 924 = .ok (.aload_n 0, 1) := by decide +kernel
theorem d_Law_law_925 : decode code 925 = .ok (.iload 4, 2) := by decide +kernel
theorem d_Law_law_927 : decode code 927 = .ok (.iconst 1, 1) := by decide +kernel
theorem d_Law_law_928 : decode code 928 = .ok (.iadd, 1) := by decide +kernel
theorem d_Law_law_929 : decode code 929 = .ok (.iaload, 1) := by decide +kernel
theorem d_Law_law_930 : decode code 930 = .ok (.aload_n 0, 1) := by decide +kernel
theorem d_Law_law_931 : decode code 931 = .ok (.iload 4, 2) := by decide +kernel
theorem d_Law_law_933 : decode code 933 = .ok (.iconst 2, 1) := by decide +kernel
theorem d_Law_law_934 : decode code 934 = .ok (.iadd, 1) := by decide +kernel
theorem d_Law_law_935 : decode code 935 = .ok (.iaload, 1) := by decide +kernel
theorem d_Law_law_936 : decode code 936 = .ok (.aload_n 3, 1) := by decide +kernel
theorem d_Law_law_937 : decode code 937 = .ok (.invokestatic 116, 3) := by decide +kernel
theorem d_Law_law_940 : decode code 940 = .ok (.istore 5, 2) := by decide +kernel
theorem d_Law_law_942 : decode code 942 = .ok (.aload_n 2, 1) := by decide +kernel
theorem d_Law_law_943 : decode code 943 = .ok (.aload_n 0, 1) := by decide +kernel
theorem d_Law_law_944 : decode code 944 = .ok (.iload 4, 2) := by decide +kernel
theorem d_Law_law_946 : decode code 946 = .ok (.iconst 1, 1) := by decide +kernel
theorem d_Law_law_947 : decode code 947 = .ok (.iadd, 1) := by decide +kernel
theorem d_Law_law_948 : decode code 948 = .ok (.iaload, 1) := by decide +kernel
theorem d_Law_law_949 : decode code 949 = .ok (.aload_n 0, 1) := by decide +kernel
theorem d_Law_law_950 : decode code 950 = .ok (.iload 4, 2) := by decide +kernel
theorem d_Law_law_952 : decode code 952 = .ok (.iconst 2, 1) := by decide +kernel
theorem d_Law_law_953 : decode code 953 = .ok (.iadd, 1) := by decide +kernel
theorem d_Law_law_954 : decode code 954 = .ok (.iaload, 1) := by decide +kernel
theorem d_Law_law_955 : decode code 955 = .ok (.invokevirtual 118, 3) := by decide +kernel
theorem d_Law_law_958 : decode code 958 = .ok (.istore 6, 2) := by decide +kernel
theorem d_Law_law_960 : decode code 960 = .ok (.aload_n 2, 1) := by decide +kernel
theorem d_Law_law_961 : decode code 961 = .ok (.invokevirtual 78, 3) := by decide +kernel
theorem d_Law_law_964 : decode code 964 = .ok (.iload 5, 2) := by decide +kernel
theorem d_Law_law_966 : decode code 966 = .ok (.if_icmp .eq 5, 3) := by decide +kernel
theorem d_Law_law_969 : decode code 969 = .ok (.iconst 0, 1) := by decide +kernel
theorem d_Law_law_970 : decode code 970 = .ok (.ireturn, 1) := by decide +kernel
theorem d_Law_law_971 : decode code 971 = .ok (.iload 5, 2) := by decide +kernel
theorem d_Law_law_973 : decode code 973 = .ok (.ifCond .ne 15, 3) := by decide +kernel
theorem d_Law_law_976 : decode code 976 = .ok (.aload_n 3, 1) := by decide +kernel
theorem d_Law_law_977 : decode code 977 = .ok (.iconst 0, 1) := by decide +kernel
theorem d_Law_law_978 : decode code 978 = .ok (.laload, 1) := by decide +kernel
theorem d_Law_law_979 : decode code 979 = .ok (.iload 6, 2) := by decide +kernel
theorem d_Law_law_981 : decode code 981 = .ok (.i2l, 1) := by decide +kernel
theorem d_Law_law_982 : decode code 982 = .ok (.lcmp, 1) := by decide +kernel
theorem d_Law_law_983 : decode code 983 = .ok (.ifCond .eq 5, 3) := by decide +kernel
theorem d_Law_law_986 : decode code 986 = .ok (.iconst 0, 1) := by decide +kernel
theorem d_Law_law_987 : decode code 987 = .ok (.ireturn, 1) := by decide +kernel
theorem d_Law_law_988 : decode code 988 = .ok (.goto 215, 3) := by decide +kernel
theorem d_Law_law_991 : decode code 991 = .ok (.aload_n 1, 1) := by decide +kernel
theorem d_Law_law_992 : decode code 992 = .ok (.invokevirtual 119, 3) := by decide +kernel
theorem d_Law_law_995 : decode code 995 = .ok (.aload_n 2, 1) := by decide +kernel
theorem d_Law_law_996 : decode code 996 = .ok (.invokevirtual 122, 3) := by decide +kernel
theorem d_Law_law_999 : decode code 999 = .ok (.if_icmp .eq 204, 3) := by decide +kernel
theorem d_Law_law_1002 : decode code 1002 = .ok (.iconst 0, 1) := by decide +kernel
theorem d_Law_law_1003 : decode code 1003 = .ok (.ireturn, 1) := by decide +kernel
theorem d_Law_law_1004 : decode code 1004 = .ok (.aload_n 1, 1) := by decide +kernel
theorem d_Law_law_1005 : decode code 1005 = .ok (.aload_n 0, 1) := by decide +kernel
theorem d_Law_law_1006 : decode code 1006 = .ok (.iload 4, 2) := by decide +kernel
theorem d_Law_law_1008 : decode code 1008 = .ok (.iconst 1, 1) := by decide +kernel
theorem d_Law_law_1009 : decode code 1009 = .ok (.iadd, 1) := by decide +kernel
theorem d_Law_law_1010 : decode code 1010 = .ok (.iaload, 1) := by decide +kernel
theorem d_Law_law_1011 : decode code 1011 = .ok (.aload_n 0, 1) := by decide +kernel
theorem d_Law_law_1012 : decode code 1012 = .ok (.iload 4, 2) := by decide +kernel
theorem d_Law_law_1014 : decode code 1014 = .ok (.iconst 2, 1) := by decide +kernel
theorem d_Law_law_1015 : decode code 1015 = .ok (.iadd, 1) := by decide +kernel
theorem d_Law_law_1016 : decode code 1016 = .ok (.iaload, 1) := by decide +kernel
theorem d_Law_law_1017 : decode code 1017 = .ok (.aload_n 3, 1) := by decide +kernel
theorem d_Law_law_1018 : decode code 1018 = .ok (.invokestatic 123, 3) := by decide +kernel
theorem d_Law_law_1021 : decode code 1021 = .ok (.istore 5, 2) := by decide +kernel
theorem d_Law_law_1023 : decode code 1023 = .ok (.aload_n 2, 1) := by decide +kernel
theorem d_Law_law_1024 : decode code 1024 = .ok (.aload_n 0, 1) := by decide +kernel
theorem d_Law_law_1025 : decode code 1025 = .ok (.iload 4, 2) := by decide +kernel
theorem d_Law_law_1027 : decode code 1027 = .ok (.iconst 1, 1) := by decide +kernel
theorem d_Law_law_1028 : decode code 1028 = .ok (.iadd, 1) := by decide +kernel
theorem d_Law_law_1029 : decode code 1029 = .ok (.iaload, 1) := by decide +kernel
theorem d_Law_law_1030 : decode code 1030 = .ok (.aload_n 0, 1) := by decide +kernel
theorem d_Law_law_1031 : decode code 1031 = .ok (.iload 4, 2) := by decide +kernel
theorem d_Law_law_1033 : decode code 1033 = .ok (.iconst 2, 1) := by decide +kernel
theorem d_Law_law_1034 : decode code 1034 = .ok (.iadd, 1) := by decide +kernel
theorem d_Law_law_1035 : decode code 1035 = .ok (.iaload, 1) := by decide +kernel
theorem d_Law_law_1036 : decode code 1036 = .ok (.invokevirtual 125, 3) := by decide +kernel
theorem d_Law_law_1039 : decode code 1039 = .ok (.istore 6, 2) := by decide +kernel
theorem d_Law_law_1041 : decode code 1041 = .ok (.aload_n 2, 1) := by decide +kernel
theorem d_Law_law_1042 : decode code 1042 = .ok (.invokevirtual 78, 3) := by decide +kernel
theorem d_Law_law_1045 : decode code 1045 = .ok (.iload 5, 2) := by decide +kernel
theorem d_Law_law_1047 : decode code 1047 = .ok (.if_icmp .eq 5, 3) := by decide +kernel
theorem d_Law_law_1050 : decode code 1050 = .ok (.iconst 0, 1) := by decide +kernel
theorem d_Law_law_1051 : decode code 1051 = .ok (.ireturn, 1) := by decide +kernel
theorem d_Law_law_1052 : decode code 1052 = .ok (.iload 5, 2) := by decide +kernel
theorem d_Law_law_1054 : decode code 1054 = .ok (.ifCond .ne 22, 3) := by decide +kernel
theorem d_Law_law_1057 : decode code 1057 = .ok (.aload_n 3, 1) := by decide +kernel
theorem d_Law_law_1058 : decode code 1058 = .ok (.iconst 0, 1) := by decide +kernel
theorem d_Law_law_1059 : decode code 1059 = .ok (.laload, 1) := by decide +kernel
theorem d_Law_law_1060 : decode code 1060 = .ok (.iload 6, 2) := by decide +kernel
theorem d_Law_law_1062 : decode code 1062 = .ok (.ifCond .eq 7, 3) := by decide +kernel
theorem d_Law_law_1065 : decode code 1065 = .ok (.lconst 1, 1) := by decide +kernel
theorem d_Law_law_1066 : decode code 1066 = .ok (.goto 4, 3) := by decide +kernel
theorem d_Law_law_1069 : decode code 1069 = .ok (.lconst 0, 1) := by decide +kernel
theorem d_Law_law_1070 : decode code 1070 = .ok (.lcmp, 1) := by decide +kernel
theorem d_Law_law_1071 : decode code 1071 = .ok (.ifCond .eq 5, 3) := by decide +kernel
theorem d_Law_law_1074 : decode code 1074 = .ok (.iconst 0, 1) := by decide +kernel
theorem d_Law_law_1075 : decode code 1075 = .ok (.ireturn, 1) := by decide +kernel
theorem d_Law_law_1076 : decode code 1076 = .ok (.goto 127, 3) := by decide +kernel
theorem d_Law_law_1079 : decode code 1079 = .ok (.aload_n 1, 1) := by decide +kernel
theorem d_Law_law_1080 : decode code 1080 = .ok (.aload_n 0, 1) := by decide +kernel
theorem d_Law_law_1081 : decode code 1081 = .ok (.iload 4, 2) := by decide +kernel
theorem d_Law_law_1083 : decode code 1083 = .ok (.iconst 1, 1) := by decide +kernel
theorem d_Law_law_1084 : decode code 1084 = .ok (.iadd, 1) := by decide +kernel
theorem d_Law_law_1085 : decode code 1085 = .ok (.iaload, 1) := by decide +kernel
theorem d_Law_law_1086 : decode code 1086 = .ok (.aload_n 0, 1) := by decide +kernel
theorem d_Law_law_1087 : decode code 1087 = .ok (.iload 4, 2) := by decide +kernel
theorem d_Law_law_1089 : decode code 1089 = .ok (.iconst 2, 1) := by decide +kernel
theorem d_Law_law_1090 : decode code 1090 = .ok (.iadd, 1) := by decide +kernel
theorem d_Law_law_1091 : decode code 1091 = .ok (.iaload, 1) := by decide +kernel
theorem d_Law_law_1092 : decode code 1092 = .ok (.aload_n 3, 1) := by decide +kernel
theorem d_Law_law_1093 : decode code 1093 = .ok (.invokestatic 126, 3) := by decide +kernel
theorem d_Law_law_1096 : decode code 1096 = .ok (.istore 5, 2) := by decide +kernel
theorem d_Law_law_1098 : decode code 1098 = .ok (.aload_n 2, 1) := by decide +kernel
theorem d_Law_law_1099 : decode code 1099 = .ok (.aload_n 0, 1) := by decide +kernel
theorem d_Law_law_1100 : decode code 1100 = .ok (.iload 4, 2) := by decide +kernel
theorem d_Law_law_1102 : decode code 1102 = .ok (.iconst 1, 1) := by decide +kernel
theorem d_Law_law_1103 : decode code 1103 = .ok (.iadd, 1) := by decide +kernel
theorem d_Law_law_1104 : decode code 1104 = .ok (.iaload, 1) := by decide +kernel
theorem d_Law_law_1105 : decode code 1105 = .ok (.aload_n 0, 1) := by decide +kernel
theorem d_Law_law_1106 : decode code 1106 = .ok (.iload 4, 2) := by decide +kernel
theorem d_Law_law_1108 : decode code 1108 = .ok (.iconst 2, 1) := by decide +kernel
theorem d_Law_law_1109 : decode code 1109 = .ok (.iadd, 1) := by decide +kernel
theorem d_Law_law_1110 : decode code 1110 = .ok (.iaload, 1) := by decide +kernel
theorem d_Law_law_1111 : decode code 1111 = .ok (.invokevirtual 128, 3) := by decide +kernel
theorem d_Law_law_1114 : decode code 1114 = .ok (.istore 6, 2) := by decide +kernel
theorem d_Law_law_1116 : decode code 1116 = .ok (.aload_n 2, 1) := by decide +kernel
theorem d_Law_law_1117 : decode code 1117 = .ok (.invokevirtual 78, 3) := by decide +kernel
theorem d_Law_law_1120 : decode code 1120 = .ok (.iload 5, 2) := by decide +kernel
theorem d_Law_law_1122 : decode code 1122 = .ok (.if_icmp .eq 5, 3) := by decide +kernel
theorem d_Law_law_1125 : decode code 1125 = .ok (.iconst 0, 1) := by decide +kernel
theorem d_Law_law_1126 : decode code 1126 = .ok (.ireturn, 1) := by decide +kernel
theorem d_Law_law_1127 : decode code 1127 = .ok (.iload 5, 2) := by decide +kernel
theorem d_Law_law_1129 : decode code 1129 = .ok (.ifCond .ne 15, 3) := by decide +kernel
theorem d_Law_law_1132 : decode code 1132 = .ok (.aload_n 3, 1) := by decide +kernel
theorem d_Law_law_1133 : decode code 1133 = .ok (.iconst 0, 1) := by decide +kernel
theorem d_Law_law_1134 : decode code 1134 = .ok (.laload, 1) := by decide +kernel
theorem d_Law_law_1135 : decode code 1135 = .ok (.iload 6, 2) := by decide +kernel
theorem d_Law_law_1137 : decode code 1137 = .ok (.i2l, 1) := by decide +kernel
theorem d_Law_law_1138 : decode code 1138 = .ok (.lcmp, 1) := by decide +kernel
theorem d_Law_law_1139 : decode code 1139 = .ok (.ifCond .eq 5, 3) := by decide +kernel
theorem d_Law_law_1142 : decode code 1142 = .ok (.iconst 0, 1) := by decide +kernel
theorem d_Law_law_1143 : decode code 1143 = .ok (.ireturn, 1) := by decide +kernel
theorem d_Law_law_1144 : decode code 1144 = .ok (.goto 59, 3) := by decide +kernel
theorem d_Law_law_1147 : decode code 1147 = .ok (.aload_n 1, 1) := by decide +kernel
theorem d_Law_law_1148 : decode code 1148 = .ok (.aload_n 0, 1) := by decide +kernel
theorem d_Law_law_1149 : decode code 1149 = .ok (.iload 4, 2) := by decide +kernel
theorem d_Law_law_1151 : decode code 1151 = .ok (.iconst 1, 1) := by decide +kernel
theorem d_Law_law_1152 : decode code 1152 = .ok (.iadd, 1) := by decide +kernel
theorem d_Law_law_1153 : decode code 1153 = .ok (.iaload, 1) := by decide +kernel
theorem d_Law_law_1154 : decode code 1154 = .ok (.aload_n 3, 1) := by decide +kernel
theorem d_Law_law_1155 : decode code 1155 = .ok (.invokestatic 129, 3) := by decide +kernel
theorem d_Law_law_1158 : decode code 1158 = .ok (.istore 5, 2) := by decide +kernel
theorem d_Law_law_1160 : decode code 1160 = .ok (.aload_n 2, 1) := by decide +kernel
theorem d_Law_law_1161 : decode code 1161 = .ok (.aload_n 0, 1) := by decide +kernel
theorem d_Law_law_1162 : decode code 1162 = .ok (.iload 4, 2) := by decide +kernel
theorem d_Law_law_1164 : decode code 1164 = .ok (.iconst 1, 1) := by decide +kernel
theorem d_Law_law_1165 : decode code 1165 = .ok (.iadd, 1) := by decide +kernel
theorem d_Law_law_1166 : decode code 1166 = .ok (.iaload, 1) := by decide +kernel
theorem d_Law_law_1167 : decode code 1167 = .ok (.invokevirtual 131, 3) := by decide +kernel
theorem d_Law_law_1170 : decode code 1170 = .ok (.istore 6, 2) := by decide +kernel
theorem d_Law_law_1172 : decode code 1172 = .ok (.aload_n 2, 1) := by decide +kernel
theorem d_Law_law_1173 : decode code 1173 = .ok (.invokevirtual 78, 3) := by decide +kernel
theorem d_Law_law_1176 : decode code 1176 = .ok (.iload 5, 2) := by decide +kernel
theorem d_Law_law_1178 : decode code 1178 = .ok (.if_icmp .eq 5, 3) := by decide +kernel
theorem d_Law_law_1181 : decode code 1181 = .ok (.iconst 0, 1) := by decide +kernel
theorem d_Law_law_1182 : decode code 1182 = .ok (.ireturn, 1) := by decide +kernel
theorem d_Law_law_1183 : decode code 1183 = .ok (.iload 5, 2) := by decide +kernel
theorem d_Law_law_1185 : decode code 1185 = .ok (.ifCond .ne 15, 3) := by decide +kernel
theorem d_Law_law_1188 : decode code 1188 = .ok (.aload_n 3, 1) := by decide +kernel
theorem d_Law_law_1189 : decode code 1189 = .ok (.iconst 0, 1) := by decide +kernel
theorem d_Law_law_1190 : decode code 1190 = .ok (.laload, 1) := by decide +kernel
theorem d_Law_law_1191 : decode code 1191 = .ok (.iload 6, 2) := by decide +kernel
theorem d_Law_law_1193 : decode code 1193 = .ok (.i2l, 1) := by decide +kernel
theorem d_Law_law_1194 : decode code 1194 = .ok (.lcmp, 1) := by decide +kernel
theorem d_Law_law_1195 : decode code 1195 = .ok (.ifCond .eq 5, 3) := by decide +kernel
theorem d_Law_law_1198 : decode code 1198 = .ok (.iconst 0, 1) := by decide +kernel
theorem d_Law_law_1199 : decode code 1199 = .ok (.ireturn, 1) := by decide +kernel
theorem d_Law_law_1200 : decode code 1200 = .ok (.goto 3, 3) := by decide +kernel
theorem d_Law_law_1203 : decode code 1203 = .ok (.iinc 4 4, 3) := by decide +kernel
theorem d_Law_law_1206 : decode code 1206 = .ok (.goto (-1163), 3) := by decide +kernel
theorem d_Law_law_1209 : decode code 1209 = .ok (.iconst 1, 1) := by decide +kernel
theorem d_Law_law_1210 : decode code 1210 = .ok (.ireturn, 1) := by decide +kernel
theorem d_Law_most_0 : decode method_11_code 0 = .ok (.aload_n 2, 1) := by decide +kernel
theorem d_Law_most_1 : decode method_11_code 1 = .ok (.iconst 0, 1) := by decide +kernel
theorem d_Law_most_2 : decode method_11_code 2 = .ok (.aload_n 0, 1) := by decide +kernel
theorem d_Law_most_3 : decode method_11_code 3 = .ok (.iload_n 1, 1) := by decide +kernel
theorem d_Law_most_4 : decode method_11_code 4 = .ok (.invokevirtual 42, 3) := by decide +kernel
theorem d_Law_most_7 : decode method_11_code 7 = .ok (.i2l, 1) := by decide +kernel
theorem d_Law_most_8 : decode method_11_code 8 = .ok (.lastore, 1) := by decide +kernel
theorem d_Law_most_9 : decode method_11_code 9 = .ok (.goto 6, 3) := by decide +kernel
theorem d_Law_most_12 : decode method_11_code 12 = .ok (.astore_n 3, 1) := by decide +kernel
theorem d_Law_most_13 : decode method_11_code 13 = .ok (.iconst 1, 1) := by decide +kernel
theorem d_Law_most_14 : decode method_11_code 14 = .ok (.ireturn, 1) := by decide +kernel
theorem d_Law_most_15 : decode method_11_code 15 = .ok (.iconst 0, 1) := by decide +kernel
theorem d_Law_most_16 : decode method_11_code 16 = .ok (.ireturn, 1) := by decide +kernel
theorem d_Law_place_0 : decode method_8_code 0 = .ok (.aload_n 3, 1) := by decide +kernel
theorem d_Law_place_1 : decode method_8_code 1 = .ok (.iconst 0, 1) := by decide +kernel
theorem d_Law_place_2 : decode method_8_code 2 = .ok (.aload_n 0, 1) := by decide +kernel
theorem d_Law_place_3 : decode method_8_code 3 = .ok (.iload_n 1, 1) := by decide +kernel
theorem d_Law_place_4 : decode method_8_code 4 = .ok (.iload_n 2, 1) := by decide +kernel
theorem d_Law_place_5 : decode method_8_code 5 = .ok (.invokevirtual 32, 3) := by decide +kernel
theorem d_Law_place_8 : decode method_8_code 8 = .ok (.i2l, 1) := by decide +kernel
theorem d_Law_place_9 : decode method_8_code 9 = .ok (.lastore, 1) := by decide +kernel
theorem d_Law_place_10 : decode method_8_code 10 = .ok (.goto 15, 3) := by decide +kernel
theorem d_Law_place_13 : decode method_8_code 13 = .ok (.astore 4, 2) := by decide +kernel
theorem d_Law_place_15 : decode method_8_code 15 = .ok (.iconst 1, 1) := by decide +kernel
theorem d_Law_place_16 : decode method_8_code 16 = .ok (.ireturn, 1) := by decide +kernel
theorem d_Law_place_17 : decode method_8_code 17 = .ok (.astore 4, 2) := by decide +kernel
theorem d_Law_place_19 : decode method_8_code 19 = .ok (.iconst 2, 1) := by decide +kernel
theorem d_Law_place_20 : decode method_8_code 20 = .ok (.ireturn, 1) := by decide +kernel
theorem d_Law_place_21 : decode method_8_code 21 = .ok (.astore 4, 2) := by decide +kernel
theorem d_Law_place_23 : decode method_8_code 23 = .ok (.iconst 3, 1) := by decide +kernel
theorem d_Law_place_24 : decode method_8_code 24 = .ok (.ireturn, 1) := by decide +kernel
theorem d_Law_place_25 : decode method_8_code 25 = .ok (.iconst 0, 1) := by decide +kernel
theorem d_Law_place_26 : decode method_8_code 26 = .ok (.ireturn, 1) := by decide +kernel
theorem d_Law_run_0 : decode method_12_code 0 = .ok (.aload_n 2, 1) := by decide +kernel
theorem d_Law_run_1 : decode method_12_code 1 = .ok (.iconst 0, 1) := by decide +kernel
theorem d_Law_run_2 : decode method_12_code 2 = .ok (.aload_n 0, 1) := by decide +kernel
theorem d_Law_run_3 : decode method_12_code 3 = .ok (.iload_n 1, 1) := by decide +kernel
theorem d_Law_run_4 : decode method_12_code 4 = .ok (.invokevirtual 46, 3) := by decide +kernel
theorem d_Law_run_7 : decode method_12_code 7 = .ok (.i2l, 1) := by decide +kernel
theorem d_Law_run_8 : decode method_12_code 8 = .ok (.lastore, 1) := by decide +kernel
theorem d_Law_run_9 : decode method_12_code 9 = .ok (.goto 6, 3) := by decide +kernel
theorem d_Law_run_12 : decode method_12_code 12 = .ok (.astore_n 3, 1) := by decide +kernel
theorem d_Law_run_13 : decode method_12_code 13 = .ok (.iconst 1, 1) := by decide +kernel
theorem d_Law_run_14 : decode method_12_code 14 = .ok (.ireturn, 1) := by decide +kernel
theorem d_Law_run_15 : decode method_12_code 15 = .ok (.iconst 0, 1) := by decide +kernel
theorem d_Law_run_16 : decode method_12_code 16 = .ok (.ireturn, 1) := by decide +kernel
theorem d_Law_sees_0 : decode method_9_code 0 = .ok (.aload 4, 2) := by decide +kernel
theorem d_Law_sees_2 : decode method_9_code 2 = .ok (.iconst 0, 1) := by decide +kernel
theorem d_Law_sees_3 : decode method_9_code 3 = .ok (.aload_n 0, 1) := by decide +kernel
theorem d_Law_sees_4 : decode method_9_code 4 = .ok (.iload_n 1, 1) := by decide +kernel
theorem d_Law_sees_5 : decode method_9_code 5 = .ok (.iload_n 2, 1) := by decide +kernel
theorem d_Law_sees_6 : decode method_9_code 6 = .ok (.iload_n 3, 1) := by decide +kernel
theorem d_Law_sees_7 : decode method_9_code 7 = .ok (.invokevirtual 36, 3) := by decide +kernel
theorem d_Law_sees_10 : decode method_9_code 10 = .ok (.ifCond .eq 7, 3) := by decide +kernel
theorem d_Law_sees_13 : decode method_9_code 13 = .ok (.lconst 1, 1) := by decide +kernel
theorem d_Law_sees_14 : decode method_9_code 14 = .ok (.goto 4, 3) := by decide +kernel
theorem d_Law_sees_17 : decode method_9_code 17 = .ok (.lconst 0, 1) := by decide +kernel
theorem d_Law_sees_18 : decode method_9_code 18 = .ok (.lastore, 1) := by decide +kernel
theorem d_Law_sees_19 : decode method_9_code 19 = .ok (.goto 7, 3) := by decide +kernel
theorem d_Law_sees_22 : decode method_9_code 22 = .ok (.astore 5, 2) := by decide +kernel
theorem d_Law_sees_24 : decode method_9_code 24 = .ok (.iconst 1, 1) := by decide +kernel
theorem d_Law_sees_25 : decode method_9_code 25 = .ok (.ireturn, 1) := by decide +kernel
theorem d_Law_sees_26 : decode method_9_code 26 = .ok (.iconst 0, 1) := by decide +kernel
theorem d_Law_sees_27 : decode method_9_code 27 = .ok (.ireturn, 1) := by decide +kernel
theorem d_Law_sight_0 : decode method_14_code 0 = .ok (.aload_n 3, 1) := by decide +kernel
theorem d_Law_sight_1 : decode method_14_code 1 = .ok (.iconst 0, 1) := by decide +kernel
theorem d_Law_sight_2 : decode method_14_code 2 = .ok (.aload_n 0, 1) := by decide +kernel
theorem d_Law_sight_3 : decode method_14_code 3 = .ok (.iload_n 1, 1) := by decide +kernel
theorem d_Law_sight_4 : decode method_14_code 4 = .ok (.iload_n 2, 1) := by decide +kernel
theorem d_Law_sight_5 : decode method_14_code 5 = .ok (.invokevirtual 52, 3) := by decide +kernel
theorem d_Law_sight_8 : decode method_14_code 8 = .ok (.ifCond .eq 7, 3) := by decide +kernel
theorem d_Law_sight_11 : decode method_14_code 11 = .ok (.lconst 1, 1) := by decide +kernel
theorem d_Law_sight_12 : decode method_14_code 12 = .ok (.goto 4, 3) := by decide +kernel
theorem d_Law_sight_15 : decode method_14_code 15 = .ok (.lconst 0, 1) := by decide +kernel
theorem d_Law_sight_16 : decode method_14_code 16 = .ok (.lastore, 1) := by decide +kernel
theorem d_Law_sight_17 : decode method_14_code 17 = .ok (.goto 11, 3) := by decide +kernel
theorem d_Law_sight_20 : decode method_14_code 20 = .ok (.astore 4, 2) := by decide +kernel
theorem d_Law_sight_22 : decode method_14_code 22 = .ok (.iconst 1, 1) := by decide +kernel
theorem d_Law_sight_23 : decode method_14_code 23 = .ok (.ireturn, 1) := by decide +kernel
theorem d_Law_sight_24 : decode method_14_code 24 = .ok (.astore 4, 2) := by decide +kernel
theorem d_Law_sight_26 : decode method_14_code 26 = .ok (.iconst 2, 1) := by decide +kernel
theorem d_Law_sight_27 : decode method_14_code 27 = .ok (.ireturn, 1) := by decide +kernel
theorem d_Law_sight_28 : decode method_14_code 28 = .ok (.iconst 0, 1) := by decide +kernel
theorem d_Law_sight_29 : decode method_14_code 29 = .ok (.ireturn, 1) := by decide +kernel
theorem d_Law_thing_0 : decode method_5_code 0 = .ok (.aload 4, 2) := by decide +kernel
theorem d_Law_thing_2 : decode method_5_code 2 = .ok (.iconst 0, 1) := by decide +kernel
theorem d_Law_thing_3 : decode method_5_code 3 = .ok (.aload_n 0, 1) := by decide +kernel
theorem d_Law_thing_4 : decode method_5_code 4 = .ok (.iload_n 1, 1) := by decide +kernel
theorem d_Law_thing_5 : decode method_5_code 5 = .ok (.iload_n 2, 1) := by decide +kernel
theorem d_Law_thing_6 : decode method_5_code 6 = .ok (.iload_n 3, 1) := by decide +kernel
theorem d_Law_thing_7 : decode method_5_code 7 = .ok (.invokevirtual 21, 3) := by decide +kernel
theorem d_Law_thing_10 : decode method_5_code 10 = .ok (.i2l, 1) := by decide +kernel
theorem d_Law_thing_11 : decode method_5_code 11 = .ok (.lastore, 1) := by decide +kernel
theorem d_Law_thing_12 : decode method_5_code 12 = .ok (.goto 11, 3) := by decide +kernel
theorem d_Law_thing_15 : decode method_5_code 15 = .ok (.astore 5, 2) := by decide +kernel
theorem d_Law_thing_17 : decode method_5_code 17 = .ok (.iconst 1, 1) := by decide +kernel
theorem d_Law_thing_18 : decode method_5_code 18 = .ok (.ireturn, 1) := by decide +kernel
theorem d_Law_thing_19 : decode method_5_code 19 = .ok (.astore 5, 2) := by decide +kernel
theorem d_Law_thing_21 : decode method_5_code 21 = .ok (.iconst 2, 1) := by decide +kernel
theorem d_Law_thing_22 : decode method_5_code 22 = .ok (.ireturn, 1) := by decide +kernel
theorem d_Law_thing_23 : decode method_5_code 23 = .ok (.iconst 0, 1) := by decide +kernel
theorem d_Law_thing_24 : decode method_5_code 24 = .ok (.ireturn, 1) := by decide +kernel
theorem d_Law_wall_0 : decode method_3_code 0 = .ok (.aload 4, 2) := by decide +kernel
theorem d_Law_wall_2 : decode method_3_code 2 = .ok (.iconst 0, 1) := by decide +kernel
theorem d_Law_wall_3 : decode method_3_code 3 = .ok (.aload_n 0, 1) := by decide +kernel
theorem d_Law_wall_4 : decode method_3_code 4 = .ok (.iload_n 1, 1) := by decide +kernel
theorem d_Law_wall_5 : decode method_3_code 5 = .ok (.iload_n 2, 1) := by decide +kernel
theorem d_Law_wall_6 : decode method_3_code 6 = .ok (.iload_n 3, 1) := by decide +kernel
theorem d_Law_wall_7 : decode method_3_code 7 = .ok (.invokevirtual 7, 3) := by decide +kernel
theorem d_Law_wall_10 : decode method_3_code 10 = .ok (.ifCond .eq 7, 3) := by decide +kernel
theorem d_Law_wall_13 : decode method_3_code 13 = .ok (.lconst 1, 1) := by decide +kernel
theorem d_Law_wall_14 : decode method_3_code 14 = .ok (.goto 4, 3) := by decide +kernel
theorem d_Law_wall_17 : decode method_3_code 17 = .ok (.lconst 0, 1) := by decide +kernel
theorem d_Law_wall_18 : decode method_3_code 18 = .ok (.lastore, 1) := by decide +kernel
theorem d_Law_wall_19 : decode method_3_code 19 = .ok (.goto 7, 3) := by decide +kernel
theorem d_Law_wall_22 : decode method_3_code 22 = .ok (.astore 5, 2) := by decide +kernel
theorem d_Law_wall_24 : decode method_3_code 24 = .ok (.iconst 1, 1) := by decide +kernel
theorem d_Law_wall_25 : decode method_3_code 25 = .ok (.ireturn, 1) := by decide +kernel
theorem d_Law_wall_26 : decode method_3_code 26 = .ok (.iconst 0, 1) := by decide +kernel
theorem d_Law_wall_27 : decode method_3_code 27 = .ok (.ireturn, 1) := by decide +kernel
theorem d_Law_wish_0 : decode method_7_code 0 = .ok (.aload 4, 2) := by decide +kernel
theorem d_Law_wish_2 : decode method_7_code 2 = .ok (.iconst 0, 1) := by decide +kernel
theorem d_Law_wish_3 : decode method_7_code 3 = .ok (.aload_n 0, 1) := by decide +kernel
theorem d_Law_wish_4 : decode method_7_code 4 = .ok (.iload_n 1, 1) := by decide +kernel
theorem d_Law_wish_5 : decode method_7_code 5 = .ok (.iload_n 2, 1) := by decide +kernel
theorem d_Law_wish_6 : decode method_7_code 6 = .ok (.iload_n 3, 1) := by decide +kernel
theorem d_Law_wish_7 : decode method_7_code 7 = .ok (.invokevirtual 29, 3) := by decide +kernel
theorem d_Law_wish_10 : decode method_7_code 10 = .ok (.i2l, 1) := by decide +kernel
theorem d_Law_wish_11 : decode method_7_code 11 = .ok (.lastore, 1) := by decide +kernel
theorem d_Law_wish_12 : decode method_7_code 12 = .ok (.goto 11, 3) := by decide +kernel
theorem d_Law_wish_15 : decode method_7_code 15 = .ok (.astore 5, 2) := by decide +kernel
theorem d_Law_wish_17 : decode method_7_code 17 = .ok (.iconst 1, 1) := by decide +kernel
theorem d_Law_wish_18 : decode method_7_code 18 = .ok (.ireturn, 1) := by decide +kernel
theorem d_Law_wish_19 : decode method_7_code 19 = .ok (.astore 5, 2) := by decide +kernel
theorem d_Law_wish_21 : decode method_7_code 21 = .ok (.iconst 2, 1) := by decide +kernel
theorem d_Law_wish_22 : decode method_7_code 22 = .ok (.ireturn, 1) := by decide +kernel
theorem d_Law_wish_23 : decode method_7_code 23 = .ok (.iconst 0, 1) := by decide +kernel
theorem d_Law_wish_24 : decode method_7_code 24 = .ok (.ireturn, 1) := by decide +kernel
theorem d_Law_zone_0 : decode method_4_code 0 = .ok (.aload 4, 2) := by decide +kernel
theorem d_Law_zone_2 : decode method_4_code 2 = .ok (.iconst 0, 1) := by decide +kernel
theorem d_Law_zone_3 : decode method_4_code 3 = .ok (.aload_n 0, 1) := by decide +kernel
theorem d_Law_zone_4 : decode method_4_code 4 = .ok (.iload_n 1, 1) := by decide +kernel
theorem d_Law_zone_5 : decode method_4_code 5 = .ok (.iload_n 2, 1) := by decide +kernel
theorem d_Law_zone_6 : decode method_4_code 6 = .ok (.iload_n 3, 1) := by decide +kernel
theorem d_Law_zone_7 : decode method_4_code 7 = .ok (.invokevirtual 15, 3) := by decide +kernel
theorem d_Law_zone_10 : decode method_4_code 10 = .ok (.i2l, 1) := by decide +kernel
theorem d_Law_zone_11 : decode method_4_code 11 = .ok (.lastore, 1) := by decide +kernel
theorem d_Law_zone_12 : decode method_4_code 12 = .ok (.goto 11, 3) := by decide +kernel
theorem d_Law_zone_15 : decode method_4_code 15 = .ok (.astore 5, 2) := by decide +kernel
theorem d_Law_zone_17 : decode method_4_code 17 = .ok (.iconst 1, 1) := by decide +kernel
theorem d_Law_zone_18 : decode method_4_code 18 = .ok (.ireturn, 1) := by decide +kernel
theorem d_Law_zone_19 : decode method_4_code 19 = .ok (.astore 5, 2) := by decide +kernel
theorem d_Law_zone_21 : decode method_4_code 21 = .ok (.iconst 2, 1) := by decide +kernel
theorem d_Law_zone_22 : decode method_4_code 22 = .ok (.ireturn, 1) := by decide +kernel
theorem d_Law_zone_23 : decode method_4_code 23 = .ok (.iconst 0, 1) := by decide +kernel
theorem d_Law_zone_24 : decode method_4_code 24 = .ok (.ireturn, 1) := by decide +kernel
theorem d_Mod_init_0 : decode prog_10_method_1_code 0 = .ok (.aload_n 0, 1) := by decide +kernel
theorem d_Mod_init_1 : decode prog_10_method_1_code 1 = .ok (.invokespecial 1, 3) := by decide +kernel
theorem d_Mod_init_4 : decode prog_10_method_1_code 4 = .ok (.aload_n 0, 1) := by decide +kernel
theorem d_Mod_init_5 : decode prog_10_method_1_code 5 = .ok (.bipush 81, 2) := by decide +kernel
theorem d_Mod_init_7 : decode prog_10_method_1_code 7 = .ok (.newarray .boolean, 2) := by decide +kernel
theorem d_Mod_init_9 : decode prog_10_method_1_code 9 = .ok (.putfield 7, 3) := by decide +kernel
theorem d_Mod_init_12 : decode prog_10_method_1_code 12 = .ok (.aload_n 0, 1) := by decide +kernel
theorem d_Mod_init_13 : decode prog_10_method_1_code 13 = .ok (.bipush 81, 2) := by decide +kernel
theorem d_Mod_init_15 : decode prog_10_method_1_code 15 = .ok (.newarray .int, 2) := by decide +kernel
theorem d_Mod_init_17 : decode prog_10_method_1_code 17 = .ok (.putfield 13, 3) := by decide +kernel
theorem d_Mod_init_20 : decode prog_10_method_1_code 20 = .ok (.aload_n 0, 1) := by decide +kernel
theorem d_Mod_init_21 : decode prog_10_method_1_code 21 = .ok (.bipush 7, 2) := by decide +kernel
theorem d_Mod_init_23 : decode prog_10_method_1_code 23 = .ok (.newarray .int, 2) := by decide +kernel
theorem d_Mod_init_25 : decode prog_10_method_1_code 25 = .ok (.putfield 17, 3) := by decide +kernel
theorem d_Mod_init_28 : decode prog_10_method_1_code 28 = .ok (.aload_n 0, 1) := by decide +kernel
theorem d_Mod_init_29 : decode prog_10_method_1_code 29 = .ok (.bipush 7, 2) := by decide +kernel
theorem d_Mod_init_31 : decode prog_10_method_1_code 31 = .ok (.newarray .int, 2) := by decide +kernel
theorem d_Mod_init_33 : decode prog_10_method_1_code 33 = .ok (.putfield 20, 3) := by decide +kernel
theorem d_Mod_init_36 : decode prog_10_method_1_code 36 = .ok (.aload_n 0, 1) := by decide +kernel
theorem d_Mod_init_37 : decode prog_10_method_1_code 37 = .ok (.bipush 7, 2) := by decide +kernel
theorem d_Mod_init_39 : decode prog_10_method_1_code 39 = .ok (.newarray .int, 2) := by decide +kernel
theorem d_Mod_init_41 : decode prog_10_method_1_code 41 = .ok (.putfield 23, 3) := by decide +kernel
theorem d_Mod_init_44 : decode prog_10_method_1_code 44 = .ok (.aload_n 0, 1) := by decide +kernel
theorem d_Mod_init_45 : decode prog_10_method_1_code 45 = .ok (.bipush 49, 2) := by decide +kernel
theorem d_Mod_init_47 : decode prog_10_method_1_code 47 = .ok (.newarray .int, 2) := by decide +kernel
theorem d_Mod_init_49 : decode prog_10_method_1_code 49 = .ok (.putfield 26, 3) := by decide +kernel
theorem d_Mod_init_52 : decode prog_10_method_1_code 52 = .ok (.aload_n 0, 1) := by decide +kernel
theorem d_Mod_init_53 : decode prog_10_method_1_code 53 = .ok (.bipush 49, 2) := by decide +kernel
theorem d_Mod_init_55 : decode prog_10_method_1_code 55 = .ok (.newarray .int, 2) := by decide +kernel
theorem d_Mod_init_57 : decode prog_10_method_1_code 57 = .ok (.putfield 29, 3) := by decide +kernel
theorem d_Mod_init_60 : decode prog_10_method_1_code 60 = .ok (.aload_n 0, 1) := by decide +kernel
theorem d_Mod_init_61 : decode prog_10_method_1_code 61 = .ok (.bipush 8, 2) := by decide +kernel
theorem d_Mod_init_63 : decode prog_10_method_1_code 63 = .ok (.newarray .int, 2) := by decide +kernel
theorem d_Mod_init_65 : decode prog_10_method_1_code 65 = .ok (.putfield 32, 3) := by decide +kernel
theorem d_Mod_init_68 : decode prog_10_method_1_code 68 = .ok (.aload_n 0, 1) := by decide +kernel
theorem d_Mod_init_69 : decode prog_10_method_1_code 69 = .ok (.bipush 8, 2) := by decide +kernel
theorem d_Mod_init_71 : decode prog_10_method_1_code 71 = .ok (.newarray .int, 2) := by decide +kernel
theorem d_Mod_init_73 : decode prog_10_method_1_code 73 = .ok (.putfield 35, 3) := by decide +kernel
theorem d_Mod_init_76 : decode prog_10_method_1_code 76 = .ok (.aload_n 0, 1) := by decide +kernel
theorem d_Mod_init_77 : decode prog_10_method_1_code 77 = .ok (.bipush 56, 2) := by decide +kernel
theorem d_Mod_init_79 : decode prog_10_method_1_code 79 = .ok (.newarray .boolean, 2) := by decide +kernel
theorem d_Mod_init_81 : decode prog_10_method_1_code 81 = .ok (.putfield 38, 3) := by decide +kernel
theorem d_Mod_init_84 : decode prog_10_method_1_code 84 = .ok (.aload_n 0, 1) := by decide +kernel
theorem d_Mod_init_85 : decode prog_10_method_1_code 85 = .ok (.bipush 6, 2) := by decide +kernel
theorem d_Mod_init_87 : decode prog_10_method_1_code 87 = .ok (.newarray .int, 2) := by decide +kernel
theorem d_Mod_init_89 : decode prog_10_method_1_code 89 = .ok (.putfield 41, 3) := by decide +kernel
theorem d_Mod_init_92 : decode prog_10_method_1_code 92 = .ok (.aload_n 0, 1) := by decide +kernel
theorem d_Mod_init_93 : decode prog_10_method_1_code 93 = .ok (.bipush 6, 2) := by decide +kernel
theorem d_Mod_init_95 : decode prog_10_method_1_code 95 = .ok (.newarray .int, 2) := by decide +kernel
