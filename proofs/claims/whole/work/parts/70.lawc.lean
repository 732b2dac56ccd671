/-! the law's instructions -/
theorem dl_882 : decode code 882 = .ok (.iadd, 1) := by decide +kernel
theorem dl_883 : decode code 883 = .ok (.iaload, 1) := by decide +kernel
theorem dl_884 : decode code 884 = .ok (.invokevirtual 105, 3) := by decide +kernel
theorem dl_887 : decode code 887 = .ok (.if_icmp .eq 508, 3) := by decide +kernel
theorem dl_890 : decode code 890 = .ok (.iconst 0, 1) := by decide +kernel
theorem dl_891 : decode code 891 = .ok (.ireturn, 1) := by decide +kernel
theorem dl_892 : decode code 892 = .ok (.aload_n 1, 1) := by decide +kernel
theorem dl_893 : decode code 893 = .ok (.aload_n 0, 1) := by decide +kernel
theorem dl_894 : decode code 894 = .ok (.iload_n 3, 1) := by decide +kernel
theorem dl_895 : decode code 895 = .ok (.iconst 1, 1) := by decide +kernel
theorem dl_896 : decode code 896 = .ok (.iadd, 1) := by decide +kernel
theorem dl_897 : decode code 897 = .ok (.iaload, 1) := by decide +kernel
theorem dl_898 : decode code 898 = .ok (.invokevirtual 106, 3) := by decide +kernel
theorem dl_901 : decode code 901 = .ok (.aload_n 2, 1) := by decide +kernel
theorem dl_902 : decode code 902 = .ok (.aload_n 0, 1) := by decide +kernel
theorem dl_903 : decode code 903 = .ok (.iload_n 3, 1) := by decide +kernel
theorem dl_904 : decode code 904 = .ok (.iconst 1, 1) := by decide +kernel
theorem dl_905 : decode code 905 = .ok (.iadd, 1) := by decide +kernel
theorem dl_906 : decode code 906 = .ok (.iaload, 1) := by decide +kernel
theorem dl_907 : decode code 907 = .ok (.invokevirtual 109, 3) := by decide +kernel
theorem dl_910 : decode code 910 = .ok (.if_icmp .eq 485, 3) := by decide +kernel
theorem dl_913 : decode code 913 = .ok (.iconst 0, 1) := by decide +kernel
theorem dl_914 : decode code 914 = .ok (.ireturn, 1) := by decide +kernel
theorem dl_915 : decode code 915 = .ok (.aload_n 1, 1) := by decide +kernel
theorem dl_916 : decode code 916 = .ok (.aload_n 0, 1) := by decide +kernel
theorem dl_917 : decode code 917 = .ok (.iload_n 3, 1) := by decide +kernel
theorem dl_918 : decode code 918 = .ok (.iconst 1, 1) := by decide +kernel
theorem dl_919 : decode code 919 = .ok (.iadd, 1) := by decide +kernel
theorem dl_920 : decode code 920 = .ok (.iaload, 1) := by decide +kernel
theorem dl_921 : decode code 921 = .ok (.aload_n 0, 1) := by decide +kernel
theorem dl_922 : decode code 922 = .ok (.iload_n 3, 1) := by decide +kernel
theorem dl_923 : decode code 923 = .ok (.iconst 2, 1) := by decide +kernel
theorem dl_924 : decode code 924 = .ok (.iadd, 1) := by decide +kernel
theorem dl_925 : decode code 925 = .ok (.iaload, 1) := by decide +kernel
theorem dl_926 : decode code 926 = .ok (.aload_n 0, 1) := by decide +kernel
theorem dl_927 : decode code 927 = .ok (.iload_n 3, 1) := by decide +kernel
theorem dl_928 : decode code 928 = .ok (.iconst 3, 1) := by decide +kernel
theorem dl_929 : decode code 929 = .ok (.iadd, 1) := by decide +kernel
theorem dl_930 : decode code 930 = .ok (.iaload, 1) := by decide +kernel
theorem dl_931 : decode code 931 = .ok (.invokevirtual 110, 3) := by decide +kernel
theorem dl_934 : decode code 934 = .ok (.aload_n 2, 1) := by decide +kernel
theorem dl_935 : decode code 935 = .ok (.aload_n 0, 1) := by decide +kernel
theorem dl_936 : decode code 936 = .ok (.iload_n 3, 1) := by decide +kernel
theorem dl_937 : decode code 937 = .ok (.iconst 1, 1) := by decide +kernel
theorem dl_938 : decode code 938 = .ok (.iadd, 1) := by decide +kernel
theorem dl_939 : decode code 939 = .ok (.iaload, 1) := by decide +kernel
theorem dl_940 : decode code 940 = .ok (.aload_n 0, 1) := by decide +kernel
theorem dl_941 : decode code 941 = .ok (.iload_n 3, 1) := by decide +kernel
theorem dl_942 : decode code 942 = .ok (.iconst 2, 1) := by decide +kernel
theorem dl_943 : decode code 943 = .ok (.iadd, 1) := by decide +kernel
theorem dl_944 : decode code 944 = .ok (.iaload, 1) := by decide +kernel
theorem dl_945 : decode code 945 = .ok (.aload_n 0, 1) := by decide +kernel
theorem dl_946 : decode code 946 = .ok (.iload_n 3, 1) := by decide +kernel
theorem dl_947 : decode code 947 = .ok (.iconst 3, 1) := by decide +kernel
theorem dl_948 : decode code 948 = .ok (.iadd, 1) := by decide +kernel
theorem dl_949 : decode code 949 = .ok (.iaload, 1) := by decide +kernel
theorem dl_950 : decode code 950 = .ok (.invokevirtual 113, 3) := by decide +kernel
theorem dl_953 : decode code 953 = .ok (.if_icmp .eq 442, 3) := by decide +kernel
theorem dl_956 : decode code 956 = .ok (.iconst 0, 1) := by decide +kernel
theorem dl_957 : decode code 957 = .ok (.ireturn, 1) := by decide +kernel
theorem dl_958 : decode code 958 = .ok (.aload_n 1, 1) := by decide +kernel
theorem dl_959 : decode code 959 = .ok (.aload_n 0, 1) := by decide +kernel
theorem dl_960 : decode code 960 = .ok (.iload_n 3, 1) := by decide +kernel
theorem dl_961 : decode code 961 = .ok (.iconst 1, 1) := by decide +kernel
theorem dl_962 : decode code 962 = .ok (.iadd, 1) := by decide +kernel
theorem dl_963 : decode code 963 = .ok (.iaload, 1) := by decide +kernel
theorem dl_964 : decode code 964 = .ok (.aload_n 0, 1) := by decide +kernel
theorem dl_965 : decode code 965 = .ok (.iload_n 3, 1) := by decide +kernel
theorem dl_966 : decode code 966 = .ok (.iconst 2, 1) := by decide +kernel
theorem dl_967 : decode code 967 = .ok (.iadd, 1) := by decide +kernel
theorem dl_968 : decode code 968 = .ok (.iaload, 1) := by decide +kernel
theorem dl_969 : decode code 969 = .ok (.invokevirtual 114, 3) := by decide +kernel
theorem dl_972 : decode code 972 = .ok (.aload_n 2, 1) := by decide +kernel
theorem dl_973 : decode code 973 = .ok (.aload_n 0, 1) := by decide +kernel
theorem dl_974 : decode code 974 = .ok (.iload_n 3, 1) := by decide +kernel
theorem dl_975 : decode code 975 = .ok (.iconst 1, 1) := by decide +kernel
theorem dl_976 : decode code 976 = .ok (.iadd, 1) := by decide +kernel
theorem dl_977 : decode code 977 = .ok (.iaload, 1) := by decide +kernel
theorem dl_978 : decode code 978 = .ok (.aload_n 0, 1) := by decide +kernel
theorem dl_979 : decode code 979 = .ok (.iload_n 3, 1) := by decide +kernel
theorem dl_980 : decode code 980 = .ok (.iconst 2, 1) := by decide +kernel
theorem dl_981 : decode code 981 = .ok (.iadd, 1) := by decide +kernel
theorem dl_982 : decode code 982 = .ok (.iaload, 1) := by decide +kernel
theorem dl_983 : decode code 983 = .ok (.invokevirtual 117, 3) := by decide +kernel
theorem dl_986 : decode code 986 = .ok (.if_icmp .eq 409, 3) := by decide +kernel
theorem dl_989 : decode code 989 = .ok (.iconst 0, 1) := by decide +kernel
theorem dl_990 : decode code 990 = .ok (.ireturn, 1) := by decide +kernel
theorem dl_991 : decode code 991 = .ok (.aload_n 1, 1) := by decide +kernel
theorem dl_992 : decode code 992 = .ok (.aload_n 0, 1) := by decide +kernel
theorem dl_993 : decode code 993 = .ok (.iload_n 3, 1) := by decide +kernel
theorem dl_994 : decode code 994 = .ok (.iconst 1, 1) := by decide +kernel
theorem dl_995 : decode code 995 = .ok (.iadd, 1) := by decide +kernel
theorem dl_996 : decode code 996 = .ok (.iaload, 1) := by decide +kernel
theorem dl_997 : decode code 997 = .ok (.aload_n 0, 1) := by decide +kernel
theorem dl_998 : decode code 998 = .ok (.iload_n 3, 1) := by decide +kernel
theorem dl_999 : decode code 999 = .ok (.iconst 2, 1) := by decide +kernel
theorem dl_1000 : decode code 1000 = .ok (.iadd, 1) := by decide +kernel
theorem dl_1001 : decode code 1001 = .ok (.iaload, 1) := by decide +kernel
theorem dl_1002 : decode code 1002 = .ok (.invokevirtual 118, 3) := by decide +kernel
theorem dl_1005 : decode code 1005 = .ok (.aload_n 2, 1) := by decide +kernel
theorem dl_1006 : decode code 1006 = .ok (.aload_n 0, 1) := by decide +kernel
theorem dl_1007 : decode code 1007 = .ok (.iload_n 3, 1) := by decide +kernel
theorem dl_1008 : decode code 1008 = .ok (.iconst 1, 1) := by decide +kernel
theorem dl_1009 : decode code 1009 = .ok (.iadd, 1) := by decide +kernel
theorem dl_1010 : decode code 1010 = .ok (.iaload, 1) := by decide +kernel
theorem dl_1011 : decode code 1011 = .ok (.aload_n 0, 1) := by decide +kernel
theorem dl_1012 : decode code 1012 = .ok (.iload_n 3, 1) := by decide +kernel
theorem dl_1013 : decode code 1013 = .ok (.iconst 2, 1) := by decide +kernel
theorem dl_1014 : decode code 1014 = .ok (.iadd, 1) := by decide +kernel
theorem dl_1015 : decode code 1015 = .ok (.iaload, 1) := by decide +kernel
theorem dl_1016 : decode code 1016 = .ok (.invokevirtual 121, 3) := by decide +kernel
theorem dl_1019 : decode code 1019 = .ok (.if_icmp .eq 376, 3) := by decide +kernel
theorem dl_1022 : decode code 1022 = .ok (.iconst 0, 1) := by decide +kernel
theorem dl_1023 : decode code 1023 = .ok (.ireturn, 1) := by decide +kernel
theorem dl_1024 : decode code 1024 = .ok (.aload_n 1, 1) := by decide +kernel
theorem dl_1025 : decode code 1025 = .ok (.aload_n 0, 1) := by decide +kernel
theorem dl_1026 : decode code 1026 = .ok (.iload_n 3, 1) := by decide +kernel
theorem dl_1027 : decode code 1027 = .ok (.iconst 1, 1) := by decide +kernel
theorem dl_1028 : decode code 1028 = .ok (.iadd, 1) := by decide +kernel
theorem dl_1029 : decode code 1029 = .ok (.iaload, 1) := by decide +kernel
theorem dl_1030 : decode code 1030 = .ok (.aload_n 0, 1) := by decide +kernel
theorem dl_1031 : decode code 1031 = .ok (.iload_n 3, 1) := by decide +kernel
theorem dl_1032 : decode code 1032 = .ok (.iconst 2, 1) := by decide +kernel
theorem dl_1033 : decode code 1033 = .ok (.iadd, 1) := by decide +kernel
theorem dl_1034 : decode code 1034 = .ok (.iaload, 1) := by decide +kernel
theorem dl_1035 : decode code 1035 = .ok (.invokevirtual 122, 3) := by decide +kernel
theorem dl_1038 : decode code 1038 = .ok (.aload_n 2, 1) := by decide +kernel
theorem dl_1039 : decode code 1039 = .ok (.aload_n 0, 1) := by decide +kernel
theorem dl_1040 : decode code 1040 = .ok (.iload_n 3, 1) := by decide +kernel
theorem dl_1041 : decode code 1041 = .ok (.iconst 1, 1) := by decide +kernel
theorem dl_1042 : decode code 1042 = .ok (.iadd, 1) := by decide +kernel
theorem dl_1043 : decode code 1043 = .ok (.iaload, 1) := by decide +kernel
theorem dl_1044 : decode code 1044 = .ok (.aload_n 0, 1) := by decide +kernel
theorem dl_1045 : decode code 1045 = .ok (.iload_n 3, 1) := by decide +kernel
theorem dl_1046 : decode code 1046 = .ok (.iconst 2, 1) := by decide +kernel
theorem dl_1047 : decode code 1047 = .ok (.iadd, 1) := by decide +kernel
theorem dl_1048 : decode code 1048 = .ok (.iaload, 1) := by decide +kernel
theorem dl_1049 : decode code 1049 = .ok (.invokevirtual 125, 3) := by decide +kernel
theorem dl_1052 : decode code 1052 = .ok (.if_icmp .eq 343, 3) := by decide +kernel
theorem dl_1055 : decode code 1055 = .ok (.iconst 0, 1) := by decide +kernel
theorem dl_1056 : decode code 1056 = .ok (.ireturn, 1) := by decide +kernel
theorem dl_1057 : decode code 1057 = .ok (.aload_n 1, 1) := by decide +kernel
theorem dl_1058 : decode code 1058 = .ok (.aload_n 0, 1) := by decide +kernel
theorem dl_1059 : decode code 1059 = .ok (.iload_n 3, 1) := by decide +kernel
theorem dl_1060 : decode code 1060 = .ok (.iconst 1, 1) := by decide +kernel
theorem dl_1061 : decode code 1061 = .ok (.iadd, 1) := by decide +kernel
theorem dl_1062 : decode code 1062 = .ok (.iaload, 1) := by decide +kernel
theorem dl_1063 : decode code 1063 = .ok (.aload_n 0, 1) := by decide +kernel
theorem dl_1064 : decode code 1064 = .ok (.iload_n 3, 1) := by decide +kernel
theorem dl_1065 : decode code 1065 = .ok (.iconst 2, 1) := by decide +kernel
theorem dl_1066 : decode code 1066 = .ok (.iadd, 1) := by decide +kernel
theorem dl_1067 : decode code 1067 = .ok (.iaload, 1) := by decide +kernel
theorem dl_1068 : decode code 1068 = .ok (.invokevirtual 126, 3) := by decide +kernel
theorem dl_1071 : decode code 1071 = .ok (.aload_n 2, 1) := by decide +kernel
theorem dl_1072 : decode code 1072 = .ok (.aload_n 0, 1) := by decide +kernel
theorem dl_1073 : decode code 1073 = .ok (.iload_n 3, 1) := by decide +kernel
theorem dl_1074 : decode code 1074 = .ok (.iconst 1, 1) := by decide +kernel
theorem dl_1075 : decode code 1075 = .ok (.iadd, 1) := by decide +kernel
theorem dl_1076 : decode code 1076 = .ok (.iaload, 1) := by decide +kernel
theorem dl_1077 : decode code 1077 = .ok (.aload_n 0, 1) := by decide +kernel
theorem dl_1078 : decode code 1078 = .ok (.iload_n 3, 1) := by decide +kernel
theorem dl_1079 : decode code 1079 = .ok (.iconst 2, 1) := by decide +kernel
theorem dl_1080 : decode code 1080 = .ok (.iadd, 1) := by decide +kernel
theorem dl_1081 : decode code 1081 = .ok (.iaload, 1) := by decide +kernel
theorem dl_1082 : decode code 1082 = .ok (.invokevirtual 129, 3) := by decide +kernel
theorem dl_1085 : decode code 1085 = .ok (.if_icmp .eq 310, 3) := by decide +kernel
theorem dl_1088 : decode code 1088 = .ok (.iconst 0, 1) := by decide +kernel
theorem dl_1089 : decode code 1089 = .ok (.ireturn, 1) := by decide +kernel
theorem dl_1090 : decode code 1090 = .ok (.aload_n 1, 1) := by decide +kernel
theorem dl_1091 : decode code 1091 = .ok (.aload_n 0, 1) := by decide +kernel
theorem dl_1092 : decode code 1092 = .ok (.iload_n 3, 1) := by decide +kernel
theorem dl_1093 : decode code 1093 = .ok (.iconst 1, 1) := by decide +kernel
theorem dl_1094 : decode code 1094 = .ok (.iadd, 1) := by decide +kernel
theorem dl_1095 : decode code 1095 = .ok (.iaload, 1) := by decide +kernel
theorem dl_1096 : decode code 1096 = .ok (.aload_n 0, 1) := by decide +kernel
theorem dl_1097 : decode code 1097 = .ok (.iload_n 3, 1) := by decide +kernel
theorem dl_1098 : decode code 1098 = .ok (.iconst 2, 1) := by decide +kernel
theorem dl_1099 : decode code 1099 = .ok (.iadd, 1) := by decide +kernel
theorem dl_1100 : decode code 1100 = .ok (.iaload, 1) := by decide +kernel
theorem dl_1101 : decode code 1101 = .ok (.invokevirtual 130, 3) := by decide +kernel
theorem dl_1104 : decode code 1104 = .ok (.aload_n 2, 1) := by decide +kernel
theorem dl_1105 : decode code 1105 = .ok (.aload_n 0, 1) := by decide +kernel
theorem dl_1106 : decode code 1106 = .ok (.iload_n 3, 1) := by decide +kernel
theorem dl_1107 : decode code 1107 = .ok (.iconst 1, 1) := by decide +kernel
theorem dl_1108 : decode code 1108 = .ok (.iadd, 1) := by decide +kernel
theorem dl_1109 : decode code 1109 = .ok (.iaload, 1) := by decide +kernel
theorem dl_1110 : decode code 1110 = .ok (.aload_n 0, 1) := by decide +kernel
theorem dl_1111 : decode code 1111 = .ok (.iload_n 3, 1) := by decide +kernel
theorem dl_1112 : decode code 1112 = .ok (.iconst 2, 1) := by decide +kernel
theorem dl_1113 : decode code 1113 = .ok (.iadd, 1) := by decide +kernel
theorem dl_1114 : decode code 1114 = .ok (.iaload, 1) := by decide +kernel
theorem dl_1115 : decode code 1115 = .ok (.invokevirtual 133, 3) := by decide +kernel
theorem dl_1118 : decode code 1118 = .ok (.if_icmp .eq 277, 3) := by decide +kernel
theorem dl_1121 : decode code 1121 = .ok (.iconst 0, 1) := by decide +kernel
theorem dl_1122 : decode code 1122 = .ok (.ireturn, 1) := by decide +kernel
theorem dl_1123 : decode code 1123 = .ok (.aload_n 1, 1) := by decide +kernel
theorem dl_1124 : decode code 1124 = .ok (.aload_n 0, 1) := by decide +kernel
theorem dl_1125 : decode code 1125 = .ok (.iload_n 3, 1) := by decide +kernel
theorem dl_1126 : decode code 1126 = .ok (.iconst 1, 1) := by decide +kernel
theorem dl_1127 : decode code 1127 = .ok (.iadd, 1) := by decide +kernel
theorem dl_1128 : decode code 1128 = .ok (.iaload, 1) := by decide +kernel
theorem dl_1129 : decode code 1129 = .ok (.invokevirtual 134, 3) := by decide +kernel
theorem dl_1132 : decode code 1132 = .ok (.aload_n 2, 1) := by decide +kernel
theorem dl_1133 : decode code 1133 = .ok (.aload_n 0, 1) := by decide +kernel
theorem dl_1134 : decode code 1134 = .ok (.iload_n 3, 1) := by decide +kernel
theorem dl_1135 : decode code 1135 = .ok (.iconst 1, 1) := by decide +kernel
theorem dl_1136 : decode code 1136 = .ok (.iadd, 1) := by decide +kernel
theorem dl_1137 : decode code 1137 = .ok (.iaload, 1) := by decide +kernel
theorem dl_1138 : decode code 1138 = .ok (.invokevirtual 137, 3) := by decide +kernel
theorem dl_1141 : decode code 1141 = .ok (.if_icmp .eq 254, 3) := by decide +kernel
theorem dl_1144 : decode code 1144 = .ok (.iconst 0, 1) := by decide +kernel
theorem dl_1145 : decode code 1145 = .ok (.ireturn, 1) := by decide +kernel
theorem dl_1146 : decode code 1146 = .ok (.aload_n 1, 1) := by decide +kernel
theorem dl_1147 : decode code 1147 = .ok (.aload_n 0, 1) := by decide +kernel
theorem dl_1148 : decode code 1148 = .ok (.iload_n 3, 1) := by decide +kernel
theorem dl_1149 : decode code 1149 = .ok (.iconst 1, 1) := by decide +kernel
theorem dl_1150 : decode code 1150 = .ok (.iadd, 1) := by decide +kernel
theorem dl_1151 : decode code 1151 = .ok (.iaload, 1) := by decide +kernel
theorem dl_1152 : decode code 1152 = .ok (.invokevirtual 138, 3) := by decide +kernel
theorem dl_1155 : decode code 1155 = .ok (.aload_n 2, 1) := by decide +kernel
theorem dl_1156 : decode code 1156 = .ok (.aload_n 0, 1) := by decide +kernel
theorem dl_1157 : decode code 1157 = .ok (.iload_n 3, 1) := by decide +kernel
theorem dl_1158 : decode code 1158 = .ok (.iconst 1, 1) := by decide +kernel
theorem dl_1159 : decode code 1159 = .ok (.iadd, 1) := by decide +kernel
theorem dl_1160 : decode code 1160 = .ok (.iaload, 1) := by decide +kernel
theorem dl_1161 : decode code 1161 = .ok (.invokevirtual 141, 3) := by decide +kernel
theorem dl_1164 : decode code 1164 = .ok (.if_icmp .eq 231, 3) := by decide +kernel
theorem dl_1167 : decode code 1167 = .ok (.iconst 0, 1) := by decide +kernel
theorem dl_1168 : decode code 1168 = .ok (.ireturn, 1) := by decide +kernel
theorem dl_1169 : decode code 1169 = .ok (.aload_n 1, 1) := by decide +kernel
theorem dl_1170 : decode code 1170 = .ok (.aload_n 0, 1) := by decide +kernel
theorem dl_1171 : decode code 1171 = .ok (.iload_n 3, 1) := by decide +kernel
theorem dl_1172 : decode code 1172 = .ok (.iconst 1, 1) := by decide +kernel
theorem dl_1173 : decode code 1173 = .ok (.iadd, 1) := by decide +kernel
theorem dl_1174 : decode code 1174 = .ok (.iaload, 1) := by decide +kernel
theorem dl_1175 : decode code 1175 = .ok (.invokevirtual 142, 3) := by decide +kernel
theorem dl_1178 : decode code 1178 = .ok (.aload_n 2, 1) := by decide +kernel
theorem dl_1179 : decode code 1179 = .ok (.aload_n 0, 1) := by decide +kernel
theorem dl_1180 : decode code 1180 = .ok (.iload_n 3, 1) := by decide +kernel
theorem dl_1181 : decode code 1181 = .ok (.iconst 1, 1) := by decide +kernel
theorem dl_1182 : decode code 1182 = .ok (.iadd, 1) := by decide +kernel
theorem dl_1183 : decode code 1183 = .ok (.iaload, 1) := by decide +kernel
theorem dl_1184 : decode code 1184 = .ok (.invokevirtual 145, 3) := by decide +kernel
theorem dl_1187 : decode code 1187 = .ok (.if_icmp .eq 208, 3) := by decide +kernel
theorem dl_1190 : decode code 1190 = .ok (.iconst 0, 1) := by decide +kernel
theorem dl_1191 : decode code 1191 = .ok (.ireturn, 1) := by decide +kernel
theorem dl_1192 : decode code 1192 = .ok (.aload_n 1, 1) := by decide +kernel
theorem dl_1193 : decode code 1193 = .ok (.aload_n 0, 1) := by decide +kernel
theorem dl_1194 : decode code 1194 = .ok (.iload_n 3, 1) := by decide +kernel
theorem dl_1195 : decode code 1195 = .ok (.iconst 1, 1) := by decide +kernel
theorem dl_1196 : decode code 1196 = .ok (.iadd, 1) := by decide +kernel
theorem dl_1197 : decode code 1197 = .ok (.iaload, 1) := by decide +kernel
theorem dl_1198 : decode code 1198 = .ok (.aload_n 0, 1) := by decide +kernel
theorem dl_1199 : decode code 1199 = .ok (.iload_n 3, 1) := by decide +kernel
theorem dl_1200 : decode code 1200 = .ok (.iconst 2, 1) := by decide +kernel
theorem dl_1201 : decode code 1201 = .ok (.iadd, 1) := by decide +kernel
theorem dl_1202 : decode code 1202 = .ok (.iaload, 1) := by decide +kernel
theorem dl_1203 : decode code 1203 = .ok (.invokevirtual 146, 3) := by decide +kernel
theorem dl_1206 : decode code 1206 = .ok (.aload_n 2, 1) := by decide +kernel
theorem dl_1207 : decode code 1207 = .ok (.aload_n 0, 1) := by decide +kernel
theorem dl_1208 : decode code 1208 = .ok (.iload_n 3, 1) := by decide +kernel
theorem dl_1209 : decode code 1209 = .ok (.iconst 1, 1) := by decide +kernel
theorem dl_1210 : decode code 1210 = .ok (.iadd, 1) := by decide +kernel
theorem dl_1211 : decode code 1211 = .ok (.iaload, 1) := by decide +kernel
theorem dl_1212 : decode code 1212 = .ok (.aload_n 0, 1) := by decide +kernel
theorem dl_1213 : decode code 1213 = .ok (.iload_n 3, 1) := by decide +kernel
theorem dl_1214 : decode code 1214 = .ok (.iconst 2, 1) := by decide +kernel
theorem dl_1215 : decode code 1215 = .ok (.iadd, 1) := by decide +kernel
theorem dl_1216 : decode code 1216 = .ok (.iaload, 1) := by decide +kernel
theorem dl_1217 : decode code 1217 = .ok (.invokevirtual 149, 3) := by decide +kernel
theorem dl_1220 : decode code 1220 = .ok (.if_icmp .eq 175, 3) := by decide +kernel
theorem dl_1223 : decode code 1223 = .ok (.iconst 0, 1) := by decide +kernel
theorem dl_1224 : decode code 1224 = .ok (.ireturn, 1) := by decide +kernel
theorem dl_1225 : decode code 1225 = .ok (.aload_n 1, 1) := by decide +kernel
theorem dl_1226 : decode code 1226 = .ok (.aload_n 0, 1) := by decide +kernel
theorem dl_1227 : decode code 1227 = .ok (.iload_n 3, 1) := by decide +kernel
theorem dl_1228 : decode code 1228 = .ok (.iconst 1, 1) := by decide +kernel
theorem dl_1229 : decode code 1229 = .ok (.iadd, 1) := by decide +kernel
theorem dl_1230 : decode code 1230 = .ok (.iaload, 1) := by decide +kernel
theorem dl_1231 : decode code 1231 = .ok (.invokevirtual 150, 3) := by decide +kernel
