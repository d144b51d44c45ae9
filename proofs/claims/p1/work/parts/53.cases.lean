theorem dL_law_888 : decode cL_law 888 = .ok (.aload_n 1, 1) := by decide +kernel
theorem dL_law_889 : decode cL_law 889 = .ok (.aload_n 0, 1) := by decide +kernel
theorem dL_law_890 : decode cL_law 890 = .ok (.iload_n 3, 1) := by decide +kernel
theorem dL_law_891 : decode cL_law 891 = .ok (.iconst 1, 1) := by decide +kernel
theorem dL_law_892 : decode cL_law 892 = .ok (.iadd, 1) := by decide +kernel
theorem dL_law_893 : decode cL_law 893 = .ok (.iaload, 1) := by decide +kernel
theorem dL_law_894 : decode cL_law 894 = .ok (.aload_n 0, 1) := by decide +kernel
theorem dL_law_895 : decode cL_law 895 = .ok (.iload_n 3, 1) := by decide +kernel
theorem dL_law_896 : decode cL_law 896 = .ok (.iconst 2, 1) := by decide +kernel
theorem dL_law_897 : decode cL_law 897 = .ok (.iadd, 1) := by decide +kernel
theorem dL_law_898 : decode cL_law 898 = .ok (.iaload, 1) := by decide +kernel
theorem dL_law_899 : decode cL_law 899 = .ok (.invokevirtual 114, 3) := by decide +kernel
theorem dL_law_902 : decode cL_law 902 = .ok (.aload_n 2, 1) := by decide +kernel
theorem dL_law_903 : decode cL_law 903 = .ok (.aload_n 0, 1) := by decide +kernel
theorem dL_law_904 : decode cL_law 904 = .ok (.iload_n 3, 1) := by decide +kernel
theorem dL_law_905 : decode cL_law 905 = .ok (.iconst 1, 1) := by decide +kernel
theorem dL_law_906 : decode cL_law 906 = .ok (.iadd, 1) := by decide +kernel
theorem dL_law_907 : decode cL_law 907 = .ok (.iaload, 1) := by decide +kernel
theorem dL_law_908 : decode cL_law 908 = .ok (.aload_n 0, 1) := by decide +kernel
theorem dL_law_909 : decode cL_law 909 = .ok (.iload_n 3, 1) := by decide +kernel
theorem dL_law_910 : decode cL_law 910 = .ok (.iconst 2, 1) := by decide +kernel
theorem dL_law_911 : decode cL_law 911 = .ok (.iadd, 1) := by decide +kernel
theorem dL_law_912 : decode cL_law 912 = .ok (.iaload, 1) := by decide +kernel
theorem dL_law_913 : decode cL_law 913 = .ok (.invokevirtual 117, 3) := by decide +kernel
theorem dL_law_916 : decode cL_law 916 = .ok (.if_icmp .eq 815, 3) := by decide +kernel
theorem dL_law_921 : decode cL_law 921 = .ok (.aload_n 1, 1) := by decide +kernel
theorem dL_law_922 : decode cL_law 922 = .ok (.aload_n 0, 1) := by decide +kernel
theorem dL_law_923 : decode cL_law 923 = .ok (.iload_n 3, 1) := by decide +kernel
theorem dL_law_924 : decode cL_law 924 = .ok (.iconst 1, 1) := by decide +kernel
theorem dL_law_925 : decode cL_law 925 = .ok (.iadd, 1) := by decide +kernel
theorem dL_law_926 : decode cL_law 926 = .ok (.iaload, 1) := by decide +kernel
theorem dL_law_927 : decode cL_law 927 = .ok (.invokevirtual 118, 3) := by decide +kernel
theorem dL_law_930 : decode cL_law 930 = .ok (.aload_n 2, 1) := by decide +kernel
theorem dL_law_931 : decode cL_law 931 = .ok (.aload_n 0, 1) := by decide +kernel
theorem dL_law_932 : decode cL_law 932 = .ok (.iload_n 3, 1) := by decide +kernel
theorem dL_law_933 : decode cL_law 933 = .ok (.iconst 1, 1) := by decide +kernel
theorem dL_law_934 : decode cL_law 934 = .ok (.iadd, 1) := by decide +kernel
theorem dL_law_935 : decode cL_law 935 = .ok (.iaload, 1) := by decide +kernel
theorem dL_law_936 : decode cL_law 936 = .ok (.invokevirtual 121, 3) := by decide +kernel
theorem dL_law_939 : decode cL_law 939 = .ok (.if_icmp .eq 792, 3) := by decide +kernel
theorem dL_law_944 : decode cL_law 944 = .ok (.aload_n 1, 1) := by decide +kernel
theorem dL_law_945 : decode cL_law 945 = .ok (.aload_n 0, 1) := by decide +kernel
theorem dL_law_946 : decode cL_law 946 = .ok (.iload_n 3, 1) := by decide +kernel
theorem dL_law_947 : decode cL_law 947 = .ok (.iconst 1, 1) := by decide +kernel
theorem dL_law_948 : decode cL_law 948 = .ok (.iadd, 1) := by decide +kernel
theorem dL_law_949 : decode cL_law 949 = .ok (.iaload, 1) := by decide +kernel
theorem dL_law_950 : decode cL_law 950 = .ok (.aload_n 0, 1) := by decide +kernel
theorem dL_law_951 : decode cL_law 951 = .ok (.iload_n 3, 1) := by decide +kernel
theorem dL_law_952 : decode cL_law 952 = .ok (.iconst 2, 1) := by decide +kernel
theorem dL_law_953 : decode cL_law 953 = .ok (.iadd, 1) := by decide +kernel
theorem dL_law_954 : decode cL_law 954 = .ok (.iaload, 1) := by decide +kernel
theorem dL_law_955 : decode cL_law 955 = .ok (.aload_n 0, 1) := by decide +kernel
theorem dL_law_956 : decode cL_law 956 = .ok (.iload_n 3, 1) := by decide +kernel
theorem dL_law_957 : decode cL_law 957 = .ok (.iconst 3, 1) := by decide +kernel
theorem dL_law_958 : decode cL_law 958 = .ok (.iadd, 1) := by decide +kernel
theorem dL_law_959 : decode cL_law 959 = .ok (.iaload, 1) := by decide +kernel
theorem dL_law_960 : decode cL_law 960 = .ok (.invokevirtual 122, 3) := by decide +kernel
theorem dL_law_963 : decode cL_law 963 = .ok (.aload_n 2, 1) := by decide +kernel
theorem dL_law_964 : decode cL_law 964 = .ok (.aload_n 0, 1) := by decide +kernel
theorem dL_law_965 : decode cL_law 965 = .ok (.iload_n 3, 1) := by decide +kernel
theorem dL_law_966 : decode cL_law 966 = .ok (.iconst 1, 1) := by decide +kernel
theorem dL_law_967 : decode cL_law 967 = .ok (.iadd, 1) := by decide +kernel
theorem dL_law_968 : decode cL_law 968 = .ok (.iaload, 1) := by decide +kernel
theorem dL_law_969 : decode cL_law 969 = .ok (.aload_n 0, 1) := by decide +kernel
theorem dL_law_970 : decode cL_law 970 = .ok (.iload_n 3, 1) := by decide +kernel
theorem dL_law_971 : decode cL_law 971 = .ok (.iconst 2, 1) := by decide +kernel
theorem dL_law_972 : decode cL_law 972 = .ok (.iadd, 1) := by decide +kernel
theorem dL_law_973 : decode cL_law 973 = .ok (.iaload, 1) := by decide +kernel
theorem dL_law_974 : decode cL_law 974 = .ok (.aload_n 0, 1) := by decide +kernel
theorem dL_law_975 : decode cL_law 975 = .ok (.iload_n 3, 1) := by decide +kernel
theorem dL_law_976 : decode cL_law 976 = .ok (.iconst 3, 1) := by decide +kernel
theorem dL_law_977 : decode cL_law 977 = .ok (.iadd, 1) := by decide +kernel
theorem dL_law_978 : decode cL_law 978 = .ok (.iaload, 1) := by decide +kernel
theorem dL_law_979 : decode cL_law 979 = .ok (.invokevirtual 126, 3) := by decide +kernel
theorem dL_law_982 : decode cL_law 982 = .ok (.if_icmp .eq 749, 3) := by decide +kernel
theorem dL_law_987 : decode cL_law 987 = .ok (.aload_n 1, 1) := by decide +kernel
theorem dL_law_988 : decode cL_law 988 = .ok (.aload_n 0, 1) := by decide +kernel
theorem dL_law_989 : decode cL_law 989 = .ok (.iload_n 3, 1) := by decide +kernel
theorem dL_law_990 : decode cL_law 990 = .ok (.iconst 1, 1) := by decide +kernel
theorem dL_law_991 : decode cL_law 991 = .ok (.iadd, 1) := by decide +kernel
theorem dL_law_992 : decode cL_law 992 = .ok (.iaload, 1) := by decide +kernel
theorem dL_law_993 : decode cL_law 993 = .ok (.aload_n 0, 1) := by decide +kernel
theorem dL_law_994 : decode cL_law 994 = .ok (.iload_n 3, 1) := by decide +kernel
theorem dL_law_995 : decode cL_law 995 = .ok (.iconst 2, 1) := by decide +kernel
theorem dL_law_996 : decode cL_law 996 = .ok (.iadd, 1) := by decide +kernel
theorem dL_law_997 : decode cL_law 997 = .ok (.iaload, 1) := by decide +kernel
theorem dL_law_998 : decode cL_law 998 = .ok (.invokevirtual 127, 3) := by decide +kernel
theorem dL_law_1001 : decode cL_law 1001 = .ok (.aload_n 2, 1) := by decide +kernel
theorem dL_law_1002 : decode cL_law 1002 = .ok (.aload_n 0, 1) := by decide +kernel
theorem dL_law_1003 : decode cL_law 1003 = .ok (.iload_n 3, 1) := by decide +kernel
theorem dL_law_1004 : decode cL_law 1004 = .ok (.iconst 1, 1) := by decide +kernel
theorem dL_law_1005 : decode cL_law 1005 = .ok (.iadd, 1) := by decide +kernel
theorem dL_law_1006 : decode cL_law 1006 = .ok (.iaload, 1) := by decide +kernel
theorem dL_law_1007 : decode cL_law 1007 = .ok (.aload_n 0, 1) := by decide +kernel
theorem dL_law_1008 : decode cL_law 1008 = .ok (.iload_n 3, 1) := by decide +kernel
theorem dL_law_1009 : decode cL_law 1009 = .ok (.iconst 2, 1) := by decide +kernel
theorem dL_law_1010 : decode cL_law 1010 = .ok (.iadd, 1) := by decide +kernel
theorem dL_law_1011 : decode cL_law 1011 = .ok (.iaload, 1) := by decide +kernel
theorem dL_law_1012 : decode cL_law 1012 = .ok (.invokevirtual 130, 3) := by decide +kernel
theorem dL_law_1015 : decode cL_law 1015 = .ok (.if_icmp .eq 716, 3) := by decide +kernel
theorem dL_law_1020 : decode cL_law 1020 = .ok (.aload_n 1, 1) := by decide +kernel
theorem dL_law_1021 : decode cL_law 1021 = .ok (.aload_n 0, 1) := by decide +kernel
theorem dL_law_1022 : decode cL_law 1022 = .ok (.iload_n 3, 1) := by decide +kernel
theorem dL_law_1023 : decode cL_law 1023 = .ok (.iconst 1, 1) := by decide +kernel
theorem dL_law_1024 : decode cL_law 1024 = .ok (.iadd, 1) := by decide +kernel
theorem dL_law_1025 : decode cL_law 1025 = .ok (.iaload, 1) := by decide +kernel
theorem dL_law_1026 : decode cL_law 1026 = .ok (.invokevirtual 131, 3) := by decide +kernel
theorem dL_law_1029 : decode cL_law 1029 = .ok (.aload_n 2, 1) := by decide +kernel
theorem dL_law_1030 : decode cL_law 1030 = .ok (.aload_n 0, 1) := by decide +kernel
theorem dL_law_1031 : decode cL_law 1031 = .ok (.iload_n 3, 1) := by decide +kernel
theorem dL_law_1032 : decode cL_law 1032 = .ok (.iconst 1, 1) := by decide +kernel
theorem dL_law_1033 : decode cL_law 1033 = .ok (.iadd, 1) := by decide +kernel
theorem dL_law_1034 : decode cL_law 1034 = .ok (.iaload, 1) := by decide +kernel
theorem dL_law_1035 : decode cL_law 1035 = .ok (.invokevirtual 134, 3) := by decide +kernel
theorem dL_law_1038 : decode cL_law 1038 = .ok (.if_icmp .eq 693, 3) := by decide +kernel
theorem dL_law_1043 : decode cL_law 1043 = .ok (.aload_n 1, 1) := by decide +kernel
theorem dL_law_1044 : decode cL_law 1044 = .ok (.aload_n 0, 1) := by decide +kernel
theorem dL_law_1045 : decode cL_law 1045 = .ok (.iload_n 3, 1) := by decide +kernel
theorem dL_law_1046 : decode cL_law 1046 = .ok (.iconst 1, 1) := by decide +kernel
theorem dL_law_1047 : decode cL_law 1047 = .ok (.iadd, 1) := by decide +kernel
theorem dL_law_1048 : decode cL_law 1048 = .ok (.iaload, 1) := by decide +kernel
theorem dL_law_1049 : decode cL_law 1049 = .ok (.invokevirtual 135, 3) := by decide +kernel
theorem dL_law_1052 : decode cL_law 1052 = .ok (.aload_n 2, 1) := by decide +kernel
theorem dL_law_1053 : decode cL_law 1053 = .ok (.aload_n 0, 1) := by decide +kernel
theorem dL_law_1054 : decode cL_law 1054 = .ok (.iload_n 3, 1) := by decide +kernel
theorem dL_law_1055 : decode cL_law 1055 = .ok (.iconst 1, 1) := by decide +kernel
theorem dL_law_1056 : decode cL_law 1056 = .ok (.iadd, 1) := by decide +kernel
theorem dL_law_1057 : decode cL_law 1057 = .ok (.iaload, 1) := by decide +kernel
theorem dL_law_1058 : decode cL_law 1058 = .ok (.invokevirtual 138, 3) := by decide +kernel
theorem dL_law_1061 : decode cL_law 1061 = .ok (.if_icmp .eq 670, 3) := by decide +kernel
theorem dL_law_1066 : decode cL_law 1066 = .ok (.aload_n 1, 1) := by decide +kernel
theorem dL_law_1067 : decode cL_law 1067 = .ok (.aload_n 0, 1) := by decide +kernel
theorem dL_law_1068 : decode cL_law 1068 = .ok (.iload_n 3, 1) := by decide +kernel
theorem dL_law_1069 : decode cL_law 1069 = .ok (.iconst 1, 1) := by decide +kernel
theorem dL_law_1070 : decode cL_law 1070 = .ok (.iadd, 1) := by decide +kernel
theorem dL_law_1071 : decode cL_law 1071 = .ok (.iaload, 1) := by decide +kernel
theorem dL_law_1072 : decode cL_law 1072 = .ok (.invokevirtual 139, 3) := by decide +kernel
theorem dL_law_1075 : decode cL_law 1075 = .ok (.aload_n 2, 1) := by decide +kernel
theorem dL_law_1076 : decode cL_law 1076 = .ok (.aload_n 0, 1) := by decide +kernel
theorem dL_law_1077 : decode cL_law 1077 = .ok (.iload_n 3, 1) := by decide +kernel
theorem dL_law_1078 : decode cL_law 1078 = .ok (.iconst 1, 1) := by decide +kernel
theorem dL_law_1079 : decode cL_law 1079 = .ok (.iadd, 1) := by decide +kernel
theorem dL_law_1080 : decode cL_law 1080 = .ok (.iaload, 1) := by decide +kernel
theorem dL_law_1081 : decode cL_law 1081 = .ok (.invokevirtual 142, 3) := by decide +kernel
theorem dL_law_1084 : decode cL_law 1084 = .ok (.if_icmp .eq 647, 3) := by decide +kernel
theorem dL_law_1089 : decode cL_law 1089 = .ok (.aload_n 1, 1) := by decide +kernel
theorem dL_law_1090 : decode cL_law 1090 = .ok (.aload_n 0, 1) := by decide +kernel
theorem dL_law_1091 : decode cL_law 1091 = .ok (.iload_n 3, 1) := by decide +kernel
theorem dL_law_1092 : decode cL_law 1092 = .ok (.iconst 1, 1) := by decide +kernel
theorem dL_law_1093 : decode cL_law 1093 = .ok (.iadd, 1) := by decide +kernel
theorem dL_law_1094 : decode cL_law 1094 = .ok (.iaload, 1) := by decide +kernel
theorem dL_law_1095 : decode cL_law 1095 = .ok (.invokevirtual 143, 3) := by decide +kernel
theorem dL_law_1098 : decode cL_law 1098 = .ok (.aload_n 2, 1) := by decide +kernel
theorem dL_law_1099 : decode cL_law 1099 = .ok (.aload_n 0, 1) := by decide +kernel
theorem dL_law_1100 : decode cL_law 1100 = .ok (.iload_n 3, 1) := by decide +kernel
theorem dL_law_1101 : decode cL_law 1101 = .ok (.iconst 1, 1) := by decide +kernel
theorem dL_law_1102 : decode cL_law 1102 = .ok (.iadd, 1) := by decide +kernel
theorem dL_law_1103 : decode cL_law 1103 = .ok (.iaload, 1) := by decide +kernel
theorem dL_law_1104 : decode cL_law 1104 = .ok (.invokevirtual 146, 3) := by decide +kernel
theorem dL_law_1107 : decode cL_law 1107 = .ok (.if_icmp .eq 624, 3) := by decide +kernel
theorem dL_law_1112 : decode cL_law 1112 = .ok (.aload_n 1, 1) := by decide +kernel
theorem dL_law_1113 : decode cL_law 1113 = .ok (.invokevirtual 147, 3) := by decide +kernel
theorem dL_law_1116 : decode cL_law 1116 = .ok (.aload_n 2, 1) := by decide +kernel
theorem dL_law_1117 : decode cL_law 1117 = .ok (.invokevirtual 150, 3) := by decide +kernel
theorem dL_law_1120 : decode cL_law 1120 = .ok (.if_icmp .eq 611, 3) := by decide +kernel
theorem dL_law_1125 : decode cL_law 1125 = .ok (.aload_n 1, 1) := by decide +kernel
theorem dL_law_1126 : decode cL_law 1126 = .ok (.aload_n 0, 1) := by decide +kernel
theorem dL_law_1127 : decode cL_law 1127 = .ok (.iload_n 3, 1) := by decide +kernel
theorem dL_law_1128 : decode cL_law 1128 = .ok (.iconst 1, 1) := by decide +kernel
theorem dL_law_1129 : decode cL_law 1129 = .ok (.iadd, 1) := by decide +kernel
theorem dL_law_1130 : decode cL_law 1130 = .ok (.iaload, 1) := by decide +kernel
theorem dL_law_1131 : decode cL_law 1131 = .ok (.invokevirtual 151, 3) := by decide +kernel
theorem dL_law_1134 : decode cL_law 1134 = .ok (.aload_n 2, 1) := by decide +kernel
theorem dL_law_1135 : decode cL_law 1135 = .ok (.aload_n 0, 1) := by decide +kernel
theorem dL_law_1136 : decode cL_law 1136 = .ok (.iload_n 3, 1) := by decide +kernel
theorem dL_law_1137 : decode cL_law 1137 = .ok (.iconst 1, 1) := by decide +kernel
theorem dL_law_1138 : decode cL_law 1138 = .ok (.iadd, 1) := by decide +kernel
theorem dL_law_1139 : decode cL_law 1139 = .ok (.iaload, 1) := by decide +kernel
theorem dL_law_1140 : decode cL_law 1140 = .ok (.invokevirtual 154, 3) := by decide +kernel
theorem dL_law_1143 : decode cL_law 1143 = .ok (.if_icmp .eq 588, 3) := by decide +kernel
theorem dL_law_1148 : decode cL_law 1148 = .ok (.aload_n 1, 1) := by decide +kernel
theorem dL_law_1149 : decode cL_law 1149 = .ok (.aload_n 0, 1) := by decide +kernel
theorem dL_law_1150 : decode cL_law 1150 = .ok (.iload_n 3, 1) := by decide +kernel
theorem dL_law_1151 : decode cL_law 1151 = .ok (.iconst 1, 1) := by decide +kernel
theorem dL_law_1152 : decode cL_law 1152 = .ok (.iadd, 1) := by decide +kernel
theorem dL_law_1153 : decode cL_law 1153 = .ok (.iaload, 1) := by decide +kernel
theorem dL_law_1154 : decode cL_law 1154 = .ok (.aload_n 0, 1) := by decide +kernel
theorem dL_law_1155 : decode cL_law 1155 = .ok (.iload_n 3, 1) := by decide +kernel
theorem dL_law_1156 : decode cL_law 1156 = .ok (.iconst 2, 1) := by decide +kernel
theorem dL_law_1157 : decode cL_law 1157 = .ok (.iadd, 1) := by decide +kernel
theorem dL_law_1158 : decode cL_law 1158 = .ok (.iaload, 1) := by decide +kernel
theorem dL_law_1159 : decode cL_law 1159 = .ok (.invokevirtual 155, 3) := by decide +kernel
theorem dL_law_1162 : decode cL_law 1162 = .ok (.aload_n 2, 1) := by decide +kernel
theorem dL_law_1163 : decode cL_law 1163 = .ok (.aload_n 0, 1) := by decide +kernel
theorem dL_law_1164 : decode cL_law 1164 = .ok (.iload_n 3, 1) := by decide +kernel
theorem dL_law_1165 : decode cL_law 1165 = .ok (.iconst 1, 1) := by decide +kernel
theorem dL_law_1166 : decode cL_law 1166 = .ok (.iadd, 1) := by decide +kernel
theorem dL_law_1167 : decode cL_law 1167 = .ok (.iaload, 1) := by decide +kernel
theorem dL_law_1168 : decode cL_law 1168 = .ok (.aload_n 0, 1) := by decide +kernel
theorem dL_law_1169 : decode cL_law 1169 = .ok (.iload_n 3, 1) := by decide +kernel
theorem dL_law_1170 : decode cL_law 1170 = .ok (.iconst 2, 1) := by decide +kernel
theorem dL_law_1171 : decode cL_law 1171 = .ok (.iadd, 1) := by decide +kernel
theorem dL_law_1172 : decode cL_law 1172 = .ok (.iaload, 1) := by decide +kernel
theorem dL_law_1173 : decode cL_law 1173 = .ok (.invokevirtual 158, 3) := by decide +kernel
theorem dL_law_1176 : decode cL_law 1176 = .ok (.if_icmp .eq 555, 3) := by decide +kernel
theorem dL_law_1181 : decode cL_law 1181 = .ok (.aload_n 1, 1) := by decide +kernel
theorem dL_law_1182 : decode cL_law 1182 = .ok (.aload_n 0, 1) := by decide +kernel
theorem dL_law_1183 : decode cL_law 1183 = .ok (.iload_n 3, 1) := by decide +kernel
theorem dL_law_1184 : decode cL_law 1184 = .ok (.iconst 1, 1) := by decide +kernel
theorem dL_law_1185 : decode cL_law 1185 = .ok (.iadd, 1) := by decide +kernel
theorem dL_law_1186 : decode cL_law 1186 = .ok (.iaload, 1) := by decide +kernel
theorem dL_law_1187 : decode cL_law 1187 = .ok (.invokevirtual 159, 3) := by decide +kernel
theorem dL_law_1190 : decode cL_law 1190 = .ok (.aload_n 2, 1) := by decide +kernel
theorem dL_law_1191 : decode cL_law 1191 = .ok (.aload_n 0, 1) := by decide +kernel
theorem dL_law_1192 : decode cL_law 1192 = .ok (.iload_n 3, 1) := by decide +kernel
theorem dL_law_1193 : decode cL_law 1193 = .ok (.iconst 1, 1) := by decide +kernel
theorem dL_law_1194 : decode cL_law 1194 = .ok (.iadd, 1) := by decide +kernel
theorem dL_law_1195 : decode cL_law 1195 = .ok (.iaload, 1) := by decide +kernel
theorem dL_law_1196 : decode cL_law 1196 = .ok (.invokevirtual 162, 3) := by decide +kernel
theorem dL_law_1199 : decode cL_law 1199 = .ok (.if_icmp .eq 532, 3) := by decide +kernel
set_option maxHeartbeats 4000000 in
set_option maxRecDepth 100000 in
/-- the call of meet on two fresh objects -/
theorem lcase_24 {p : Program} {l : Launch} {e : Env} {s : State} {m : MethodId} {below : List Frame} {meth : Method} {c : Code} {b : Nat} {xs : Nat → Int32} {dC : Nat → ClassId} {dI : Nat → Nat → Nat} {cI cZ cB cJ cM : ClassId} (x0 y0 : Nat) (u v : Nat → Nat) {H : Heap} {locs : List Loc} {ls : Array Slot} (C0 : lw_At p s m meth c b 6 xs) (hK : va_K (dC, dI) vwCl [(cI, .int), (cZ, .boolean), (cB, .byte), (cJ, .long), (cM, .object RX2)] s) (hP : va_P (dC, dI) vwCl [(x0, .inr (11, [.ref (u 0), .ref (u 2), .ref (u 3), .ref (u 4), .ref (u 5), .ref (u 10), .ref (u 11), .ref (u 12), .ref (u 98), .ref (u 124)])), (u 98, .inr (2, [.int 0, .int 0, .int 0, .int 0, .int 0, .int 0, .int 0, .int 0, .int 0, .ref (u 99), .ref (u 107), .ref (u 117), .ref (u 122), .ref (u 123)])), (u 99, .inr (3, [.int 0, .ref (u 100), .ref (u 101), .ref (u 102), .ref (u 103), .ref (u 104), .ref (u 105), .ref (u 106)])), (y0, .inr (12, [.int 0, .ref (v 1), .ref (v 2), .ref (v 3), .ref (v 4), .int 0, .ref (v 6), .int 0, .int 0, .int 0, .int 0, .int 0, .int 0, .int (-1), .ref (v 14), .ref (v 15), .ref (v 16), .ref (v 17), .ref (v 18), .ref (v 19), .ref (v 20), .int 0, .ref (v 22), .int 0, .ref (v 24), .ref (v 25), .int 0, .ref (v 27), .ref (v 28), .ref (v 29), .ref (v 30), .int 0, .int 0, .int 0, .int 0, .int 0, .ref (v 36), .long 0, .ref (v 38), .ref (v 39), .ref (v 40), .ref (v 41)])), (v 1, .inl (cI, 544, .inl (upd (upd (upd (fun _ => 0) 8 1) 9 1) 17 (-1))))] H) (hD : va_D (fun q : Nat => s.heap.size ≤ q) [(x0, .inr (11, [.ref (u 0), .ref (u 2), .ref (u 3), .ref (u 4), .ref (u 5), .ref (u 10), .ref (u 11), .ref (u 12), .ref (u 98), .ref (u 124)])), (u 98, .inr (2, [.int 0, .int 0, .int 0, .int 0, .int 0, .int 0, .int 0, .int 0, .int 0, .ref (u 99), .ref (u 107), .ref (u 117), .ref (u 122), .ref (u 123)])), (u 99, .inr (3, [.int 0, .ref (u 100), .ref (u 101), .ref (u 102), .ref (u 103), .ref (u 104), .ref (u 105), .ref (u 106)])), (y0, .inr (12, [.int 0, .ref (v 1), .ref (v 2), .ref (v 3), .ref (v 4), .int 0, .ref (v 6), .int 0, .int 0, .int 0, .int 0, .int 0, .int 0, .int (-1), .ref (v 14), .ref (v 15), .ref (v 16), .ref (v 17), .ref (v 18), .ref (v 19), .ref (v 20), .int 0, .ref (v 22), .int 0, .ref (v 24), .ref (v 25), .int 0, .ref (v 27), .ref (v 28), .ref (v 29), .ref (v 30), .int 0, .int 0, .int 0, .int 0, .int 0, .ref (v 36), .long 0, .ref (v 38), .ref (v 39), .ref (v 40), .ref (v 41)])), (v 1, .inl (cI, 544, .inl (upd (upd (upd (fun _ => 0) 8 1) 9 1) 17 (-1))))]) (hS : va_S (fun q : Nat => s.heap.size ≤ q) s.heap H locs) (hl : lv_has ls 4 [(3, .int 0), (2, .ref y0), (1, .ref x0), (0, .ref b)]) : W p l e room_1 s m #[Value.ref b] below meth c H locs 600000 7302250 (lw_Z below #[Value.ref b] s) (F0 m 888 ls []) := by
  obtain ⟨hx, hb, hr, hml, hown0, hts, hX, hbl, hlocks, hgv⟩ := id C0
  have hb : c.code = cL_law := hb
  have hown : s.vm.findClass RL = some m.cls := hown0
  have hwd : ∀ wd ∈ wsL_law, wd.before #[Value.ref b] s = true := fun w h => hts w (wsL_law_in w h)
  have hA : ∀ q : Nat, s.heap.size ≤ q → (fun q : Nat => s.heap.size ≤ q) q := fun _ h => h
  have hbA : ¬ (fun q : Nat => s.heap.size ≤ q) b := Nat.not_le.mpr hbl
  refine lv_aload_n hx hb dL_law_888 rfl (lv_at hl 2 rfl) ?_
  refine lv_aload_n hx hb dL_law_889 rfl (lv_at hl 3 rfl) ?_
  refine lv_iload_n hx hb dL_law_890 rfl (lv_at hl 0 rfl) ?_
  refine lv_iconst (v := 1) hx hb dL_law_891 (by decide) ?_
  refine lv_iadd hx hb dL_law_892 ?_
  refine lv_topi (nm_r (e' := (1)) (by decide +kernel) ?_)
  refine va_sld hx hb hX hbl hbA hS (vin (by decide)) dL_law_893 ?_
  refine lv_aload_n hx hb dL_law_894 rfl (lv_at hl 3 rfl) ?_
  refine lv_iload_n hx hb dL_law_895 rfl (lv_at hl 0 rfl) ?_
  refine lv_iconst (v := 2) hx hb dL_law_896 (by decide) ?_
  refine lv_iadd hx hb dL_law_897 ?_
  refine lv_topi (nm_r (e' := (2)) (by decide +kernel) ?_)
  refine va_sld hx hb hX hbl hbA hS (vin (by decide)) dL_law_898 ?_
  have hPc := hP.sub (ws' := [(x0, .inr (11, [.ref (u 0), .ref (u 2), .ref (u 3), .ref (u 4), .ref (u 5), .ref (u 10), .ref (u 11), .ref (u 12), .ref (u 98), .ref (u 124)])), (u 98, .inr (2, [.int 0, .int 0, .int 0, .int 0, .int 0, .int 0, .int 0, .int 0, .int 0, .ref (u 99), .ref (u 107), .ref (u 117), .ref (u 122), .ref (u 123)])), (u 99, .inr (3, [.int 0, .ref (u 100), .ref (u 101), .ref (u 102), .ref (u 103), .ref (u 104), .ref (u 105), .ref (u 106)]))]) [0, 1, 2] rfl
  have hDc := hD.sub (ws' := [(x0, .inr (11, [.ref (u 0), .ref (u 2), .ref (u 3), .ref (u 4), .ref (u 5), .ref (u 10), .ref (u 11), .ref (u 12), .ref (u 98), .ref (u 124)])), (u 98, .inr (2, [.int 0, .int 0, .int 0, .int 0, .int 0, .int 0, .int 0, .int 0, .int 0, .ref (u 99), .ref (u 107), .ref (u 117), .ref (u 122), .ref (u 123)])), (u 99, .inr (3, [.int 0, .ref (u 100), .ref (u 101), .ref (u 102), .ref (u 103), .ref (u 104), .ref (u 105), .ref (u 106)]))]) [0, 1, 2] (by decide) rfl
  have hFc := va_free (wc := [(x0, .inr (11, [.ref (u 0), .ref (u 2), .ref (u 3), .ref (u 4), .ref (u 5), .ref (u 10), .ref (u 11), .ref (u 12), .ref (u 98), .ref (u 124)])), (u 98, .inr (2, [.int 0, .int 0, .int 0, .int 0, .int 0, .int 0, .int 0, .int 0, .int 0, .ref (u 99), .ref (u 107), .ref (u 117), .ref (u 122), .ref (u 123)])), (u 99, .inr (3, [.int 0, .ref (u 100), .ref (u 101), .ref (u 102), .ref (u 103), .ref (u 104), .ref (u 105), .ref (u 106)]))]) hD hS hA [0, 1, 2] rfl
  refine va_calli (va_runV (As := [.int (xs (1 : Int32).toNatClampNeg), .int (xs (2 : Int32).toNatClampNeg)]) (rest := []) ⟨hx, hb, hml, hown, hwd⟩ (c_X11_meet l dC dI cI cZ cB cJ cM x0 (u 0) (u 2) (u 3) (u 4) (u 5) (u 10) (u 11) (u 12) (u 98) (u 124) (u 99) (u 107) (u 117) (u 122) (u 123) (u 100) (u 101) (u 102) (u 103) (u 104) (u 105) (u 106) (xs (1 : Int32).toNatClampNeg) (xs (2 : Int32).toNatClampNeg) H.size) (cwV 2 hwd (gV kr24_2 kr24_3 kr24_4 kr1_2 kr24_5) rfl rfl rfl (by decide +kernel) ⟨Nat.le_of_ble_eq_true rfl, Nat.le_of_ble_eq_true rfl⟩) (kPreV hPc hK hDc (ci := 11) (q0 := 0) rfl rfl) rfl rfl hl.1 rfl (lv_room (Nat.le_of_ble_eq_true rfl)) dL_law_899 ⟨Nat.le_of_ble_eq_true rfl, Nat.le_of_ble_eq_true rfl⟩) hS (fun q _ h => hFc q h) hFc (fun r1 u2 t H1 locs ht9 hvm hw hB hz1 hk1 hS => ?_)
  obtain ⟨hP, hD⟩ := va_join (wr := [(y0, .inr (12, [.int 0, .ref (v 1), .ref (v 2), .ref (v 3), .ref (v 4), .int 0, .ref (v 6), .int 0, .int 0, .int 0, .int 0, .int 0, .int 0, .int (-1), .ref (v 14), .ref (v 15), .ref (v 16), .ref (v 17), .ref (v 18), .ref (v 19), .ref (v 20), .int 0, .ref (v 22), .int 0, .ref (v 24), .ref (v 25), .int 0, .ref (v 27), .ref (v 28), .ref (v 29), .ref (v 30), .int 0, .int 0, .int 0, .int 0, .int 0, .ref (v 36), .long 0, .ref (v 38), .ref (v 39), .ref (v 40), .ref (v 41)])), (v 1, .inl (cI, 544, .inl (upd (upd (upd (fun _ => 0) 8 1) 9 1) 17 (-1))))]) (w1 := []) hP hD [0, 1, 2] [3, 4] rfl rfl (by decide) (by decide) hk1 hFc kP0 kD0
  generalize H1 = H at hP hS ⊢
  have hP : va_P (dC, dI) vwCl [(y0, .inr (12, [.int 0, .ref (v 1), .ref (v 2), .ref (v 3), .ref (v 4), .int 0, .ref (v 6), .int 0, .int 0, .int 0, .int 0, .int 0, .int 0, .int (-1), .ref (v 14), .ref (v 15), .ref (v 16), .ref (v 17), .ref (v 18), .ref (v 19), .ref (v 20), .int 0, .ref (v 22), .int 0, .ref (v 24), .ref (v 25), .int 0, .ref (v 27), .ref (v 28), .ref (v 29), .ref (v 30), .int 0, .int 0, .int 0, .int 0, .int 0, .ref (v 36), .long 0, .ref (v 38), .ref (v 39), .ref (v 40), .ref (v 41)])), (v 1, .inl (cI, 544, .inl (upd (upd (upd (fun _ => 0) 8 1) 9 1) 17 (-1))))] H := hP
  have hD : va_D (fun q : Nat => s.heap.size ≤ q) [(y0, .inr (12, [.int 0, .ref (v 1), .ref (v 2), .ref (v 3), .ref (v 4), .int 0, .ref (v 6), .int 0, .int 0, .int 0, .int 0, .int 0, .int 0, .int (-1), .ref (v 14), .ref (v 15), .ref (v 16), .ref (v 17), .ref (v 18), .ref (v 19), .ref (v 20), .int 0, .ref (v 22), .int 0, .ref (v 24), .ref (v 25), .int 0, .ref (v 27), .ref (v 28), .ref (v 29), .ref (v 30), .int 0, .int 0, .int 0, .int 0, .int 0, .ref (v 36), .long 0, .ref (v 38), .ref (v 39), .ref (v 40), .ref (v 41)])), (v 1, .inl (cI, 544, .inl (upd (upd (upd (fun _ => 0) 8 1) 9 1) 17 (-1))))] := hD
  subst hw
  refine lv_aload_n hx hb dL_law_902 rfl (lv_at hl 1 rfl) ?_
  refine lv_aload_n hx hb dL_law_903 rfl (lv_at hl 3 rfl) ?_
  refine lv_iload_n hx hb dL_law_904 rfl (lv_at hl 0 rfl) ?_
  refine lv_iconst (v := 1) hx hb dL_law_905 (by decide) ?_
  refine lv_iadd hx hb dL_law_906 ?_
  refine lv_topi (nm_r (e' := (1)) (by decide +kernel) ?_)
  refine va_sld hx hb hX hbl hbA hS (vin (by decide)) dL_law_907 ?_
  refine lv_aload_n hx hb dL_law_908 rfl (lv_at hl 3 rfl) ?_
  refine lv_iload_n hx hb dL_law_909 rfl (lv_at hl 0 rfl) ?_
  refine lv_iconst (v := 2) hx hb dL_law_910 (by decide) ?_
  refine lv_iadd hx hb dL_law_911 ?_
  refine lv_topi (nm_r (e' := (2)) (by decide +kernel) ?_)
  refine va_sld hx hb hX hbl hbA hS (vin (by decide)) dL_law_912 ?_
  have hPc := hP.sub (ws' := [(y0, .inr (12, [.int 0, .ref (v 1), .ref (v 2), .ref (v 3), .ref (v 4), .int 0, .ref (v 6), .int 0, .int 0, .int 0, .int 0, .int 0, .int 0, .int (-1), .ref (v 14), .ref (v 15), .ref (v 16), .ref (v 17), .ref (v 18), .ref (v 19), .ref (v 20), .int 0, .ref (v 22), .int 0, .ref (v 24), .ref (v 25), .int 0, .ref (v 27), .ref (v 28), .ref (v 29), .ref (v 30), .int 0, .int 0, .int 0, .int 0, .int 0, .ref (v 36), .long 0, .ref (v 38), .ref (v 39), .ref (v 40), .ref (v 41)])), (v 1, .inl (cI, 544, .inl (upd (upd (upd (fun _ => 0) 8 1) 9 1) 17 (-1))))]) [0, 1] rfl
  have hDc := hD.sub (ws' := [(y0, .inr (12, [.int 0, .ref (v 1), .ref (v 2), .ref (v 3), .ref (v 4), .int 0, .ref (v 6), .int 0, .int 0, .int 0, .int 0, .int 0, .int 0, .int (-1), .ref (v 14), .ref (v 15), .ref (v 16), .ref (v 17), .ref (v 18), .ref (v 19), .ref (v 20), .int 0, .ref (v 22), .int 0, .ref (v 24), .ref (v 25), .int 0, .ref (v 27), .ref (v 28), .ref (v 29), .ref (v 30), .int 0, .int 0, .int 0, .int 0, .int 0, .ref (v 36), .long 0, .ref (v 38), .ref (v 39), .ref (v 40), .ref (v 41)])), (v 1, .inl (cI, 544, .inl (upd (upd (upd (fun _ => 0) 8 1) 9 1) 17 (-1))))]) [0, 1] (by decide) rfl
  have hFc := va_free (wc := [(y0, .inr (12, [.int 0, .ref (v 1), .ref (v 2), .ref (v 3), .ref (v 4), .int 0, .ref (v 6), .int 0, .int 0, .int 0, .int 0, .int 0, .int 0, .int (-1), .ref (v 14), .ref (v 15), .ref (v 16), .ref (v 17), .ref (v 18), .ref (v 19), .ref (v 20), .int 0, .ref (v 22), .int 0, .ref (v 24), .ref (v 25), .int 0, .ref (v 27), .ref (v 28), .ref (v 29), .ref (v 30), .int 0, .int 0, .int 0, .int 0, .int 0, .ref (v 36), .long 0, .ref (v 38), .ref (v 39), .ref (v 40), .ref (v 41)])), (v 1, .inl (cI, 544, .inl (upd (upd (upd (fun _ => 0) 8 1) 9 1) 17 (-1))))]) hD hS hA [0, 1] rfl
  refine va_calli (va_runV (As := [.int (xs (1 : Int32).toNatClampNeg), .int (xs (2 : Int32).toNatClampNeg)]) (rest := [.int (-2)]) ⟨hx, hb, hml, hown, hwd⟩ (c_X12_meet l dC dI cI cZ cB cJ cM y0 v (xs (1 : Int32).toNatClampNeg) (xs (2 : Int32).toNatClampNeg) H.size) (cwV 2 hwd (gV kr24_6 kr24_7 kr24_8 kr1_5 kr24_9) rfl rfl rfl (by decide +kernel) ⟨Nat.le_of_ble_eq_true rfl, Nat.le_of_ble_eq_true rfl⟩) (kPreV hPc hK hDc (ci := 12) (q0 := 0) rfl rfl) rfl rfl hl.1 rfl (lv_room (Nat.le_of_ble_eq_true rfl)) dL_law_913 ⟨Nat.le_of_ble_eq_true rfl, Nat.le_of_ble_eq_true rfl⟩) hS (fun q _ h => hFc q h) hFc (fun r3 u4 t H1 locs ht9 hvm hw hB hz1 hk1 hS => ?_)
  obtain ⟨hP, hD⟩ := va_join (wr := []) (w1 := []) hP hD [0, 1] [] rfl rfl (by decide) (by decide) hk1 hFc kP0 kD0
  generalize H1 = H at hP hS ⊢
  have hP : va_P (dC, dI) vwCl [] H := hP
  have hD : va_D (fun q : Nat => s.heap.size ≤ q) [] := hD
  subst hw
  refine lv_icmp_eq (tgt := 1731) hx hb dL_law_916 (by decide) (fun c5 => ?_) (fun c5 => absurd c5 (by decide))
  exact law_tail C0 hS (lv_sub hl [3, 0] rfl)
set_option maxHeartbeats 4000000 in
set_option maxRecDepth 100000 in
/-- the call of rowAt on two fresh objects -/
theorem lcase_25 {p : Program} {l : Launch} {e : Env} {s : State} {m : MethodId} {below : List Frame} {meth : Method} {c : Code} {b : Nat} {xs : Nat → Int32} {dC : Nat → ClassId} {dI : Nat → Nat → Nat} {cI cZ cB cJ cM : ClassId} (x0 y0 : Nat) (u v : Nat → Nat) {H : Heap} {locs : List Loc} {ls : Array Slot} (C0 : lw_At p s m meth c b 6 xs) (hK : va_K (dC, dI) vwCl [(cI, .int), (cZ, .boolean), (cB, .byte), (cJ, .long), (cM, .object RX2)] s) (hP : va_P (dC, dI) vwCl [(x0, .inr (11, [.ref (u 0), .ref (u 2), .ref (u 3), .ref (u 4), .ref (u 5), .ref (u 10), .ref (u 11), .ref (u 12), .ref (u 98), .ref (u 124)])), (u 98, .inr (2, [.int 0, .int 0, .int 0, .int 0, .int 0, .int 0, .int 0, .int 0, .int 0, .ref (u 99), .ref (u 107), .ref (u 117), .ref (u 122), .ref (u 123)])), (y0, .inr (12, [.int 0, .ref (v 1), .ref (v 2), .ref (v 3), .ref (v 4), .int 0, .ref (v 6), .int 0, .int 0, .int 0, .int 0, .int 0, .int 0, .int (-1), .ref (v 14), .ref (v 15), .ref (v 16), .ref (v 17), .ref (v 18), .ref (v 19), .ref (v 20), .int 0, .ref (v 22), .int 0, .ref (v 24), .ref (v 25), .int 0, .ref (v 27), .ref (v 28), .ref (v 29), .ref (v 30), .int 0, .int 0, .int 0, .int 0, .int 0, .ref (v 36), .long 0, .ref (v 38), .ref (v 39), .ref (v 40), .ref (v 41)])), (v 1, .inl (cI, 544, .inl (upd (upd (upd (fun _ => 0) 8 1) 9 1) 17 (-1))))] H) (hD : va_D (fun q : Nat => s.heap.size ≤ q) [(x0, .inr (11, [.ref (u 0), .ref (u 2), .ref (u 3), .ref (u 4), .ref (u 5), .ref (u 10), .ref (u 11), .ref (u 12), .ref (u 98), .ref (u 124)])), (u 98, .inr (2, [.int 0, .int 0, .int 0, .int 0, .int 0, .int 0, .int 0, .int 0, .int 0, .ref (u 99), .ref (u 107), .ref (u 117), .ref (u 122), .ref (u 123)])), (y0, .inr (12, [.int 0, .ref (v 1), .ref (v 2), .ref (v 3), .ref (v 4), .int 0, .ref (v 6), .int 0, .int 0, .int 0, .int 0, .int 0, .int 0, .int (-1), .ref (v 14), .ref (v 15), .ref (v 16), .ref (v 17), .ref (v 18), .ref (v 19), .ref (v 20), .int 0, .ref (v 22), .int 0, .ref (v 24), .ref (v 25), .int 0, .ref (v 27), .ref (v 28), .ref (v 29), .ref (v 30), .int 0, .int 0, .int 0, .int 0, .int 0, .ref (v 36), .long 0, .ref (v 38), .ref (v 39), .ref (v 40), .ref (v 41)])), (v 1, .inl (cI, 544, .inl (upd (upd (upd (fun _ => 0) 8 1) 9 1) 17 (-1))))]) (hS : va_S (fun q : Nat => s.heap.size ≤ q) s.heap H locs) (hl : lv_has ls 4 [(3, .int 0), (2, .ref y0), (1, .ref x0), (0, .ref b)]) : W p l e room_1 s m #[Value.ref b] below meth c H locs 600000 7302250 (lw_Z below #[Value.ref b] s) (F0 m 921 ls []) := by
  obtain ⟨hx, hb, hr, hml, hown0, hts, hX, hbl, hlocks, hgv⟩ := id C0
  have hb : c.code = cL_law := hb
  have hown : s.vm.findClass RL = some m.cls := hown0
  have hwd : ∀ wd ∈ wsL_law, wd.before #[Value.ref b] s = true := fun w h => hts w (wsL_law_in w h)
  have hA : ∀ q : Nat, s.heap.size ≤ q → (fun q : Nat => s.heap.size ≤ q) q := fun _ h => h
  have hbA : ¬ (fun q : Nat => s.heap.size ≤ q) b := Nat.not_le.mpr hbl
  refine lv_aload_n hx hb dL_law_921 rfl (lv_at hl 2 rfl) ?_
  refine lv_aload_n hx hb dL_law_922 rfl (lv_at hl 3 rfl) ?_
  refine lv_iload_n hx hb dL_law_923 rfl (lv_at hl 0 rfl) ?_
  refine lv_iconst (v := 1) hx hb dL_law_924 (by decide) ?_
  refine lv_iadd hx hb dL_law_925 ?_
  refine lv_topi (nm_r (e' := (1)) (by decide +kernel) ?_)
  refine va_sld hx hb hX hbl hbA hS (vin (by decide)) dL_law_926 ?_
  have hPc := hP.sub (ws' := [(x0, .inr (11, [.ref (u 0), .ref (u 2), .ref (u 3), .ref (u 4), .ref (u 5), .ref (u 10), .ref (u 11), .ref (u 12), .ref (u 98), .ref (u 124)])), (u 98, .inr (2, [.int 0, .int 0, .int 0, .int 0, .int 0, .int 0, .int 0, .int 0, .int 0, .ref (u 99), .ref (u 107), .ref (u 117), .ref (u 122), .ref (u 123)]))]) [0, 1] rfl
  have hDc := hD.sub (ws' := [(x0, .inr (11, [.ref (u 0), .ref (u 2), .ref (u 3), .ref (u 4), .ref (u 5), .ref (u 10), .ref (u 11), .ref (u 12), .ref (u 98), .ref (u 124)])), (u 98, .inr (2, [.int 0, .int 0, .int 0, .int 0, .int 0, .int 0, .int 0, .int 0, .int 0, .ref (u 99), .ref (u 107), .ref (u 117), .ref (u 122), .ref (u 123)]))]) [0, 1] (by decide) rfl
  have hFc := va_free (wc := [(x0, .inr (11, [.ref (u 0), .ref (u 2), .ref (u 3), .ref (u 4), .ref (u 5), .ref (u 10), .ref (u 11), .ref (u 12), .ref (u 98), .ref (u 124)])), (u 98, .inr (2, [.int 0, .int 0, .int 0, .int 0, .int 0, .int 0, .int 0, .int 0, .int 0, .ref (u 99), .ref (u 107), .ref (u 117), .ref (u 122), .ref (u 123)]))]) hD hS hA [0, 1] rfl
  refine va_calli (va_runV (As := [.int (xs (1 : Int32).toNatClampNeg)]) (rest := []) ⟨hx, hb, hml, hown, hwd⟩ (c_X11_rowAt l dC dI cI cZ cB cJ cM x0 (u 0) (u 2) (u 3) (u 4) (u 5) (u 10) (u 11) (u 12) (u 98) (u 124) (u 99) (u 107) (u 117) (u 122) (u 123) (xs (1 : Int32).toNatClampNeg) H.size) (cwV 1 hwd (gV kr24_10 kr24_11 kr24_12 kr1_2 kr24_13) rfl rfl rfl (by decide +kernel) ⟨Nat.le_of_ble_eq_true rfl, Nat.le_of_ble_eq_true rfl⟩) (kPreV hPc hK hDc (ci := 11) (q0 := 0) rfl rfl) rfl rfl hl.1 rfl (lv_room (Nat.le_of_ble_eq_true rfl)) dL_law_927 ⟨Nat.le_of_ble_eq_true rfl, Nat.le_of_ble_eq_true rfl⟩) hS (fun q _ h => hFc q h) hFc (fun r1 u2 t H1 locs ht9 hvm hw hB hz1 hk1 hS => ?_)
  obtain ⟨hP, hD⟩ := va_join (wr := [(y0, .inr (12, [.int 0, .ref (v 1), .ref (v 2), .ref (v 3), .ref (v 4), .int 0, .ref (v 6), .int 0, .int 0, .int 0, .int 0, .int 0, .int 0, .int (-1), .ref (v 14), .ref (v 15), .ref (v 16), .ref (v 17), .ref (v 18), .ref (v 19), .ref (v 20), .int 0, .ref (v 22), .int 0, .ref (v 24), .ref (v 25), .int 0, .ref (v 27), .ref (v 28), .ref (v 29), .ref (v 30), .int 0, .int 0, .int 0, .int 0, .int 0, .ref (v 36), .long 0, .ref (v 38), .ref (v 39), .ref (v 40), .ref (v 41)])), (v 1, .inl (cI, 544, .inl (upd (upd (upd (fun _ => 0) 8 1) 9 1) 17 (-1))))]) (w1 := []) hP hD [0, 1] [2, 3] rfl rfl (by decide) (by decide) hk1 hFc kP0 kD0
  generalize H1 = H at hP hS ⊢
  have hP : va_P (dC, dI) vwCl [(y0, .inr (12, [.int 0, .ref (v 1), .ref (v 2), .ref (v 3), .ref (v 4), .int 0, .ref (v 6), .int 0, .int 0, .int 0, .int 0, .int 0, .int 0, .int (-1), .ref (v 14), .ref (v 15), .ref (v 16), .ref (v 17), .ref (v 18), .ref (v 19), .ref (v 20), .int 0, .ref (v 22), .int 0, .ref (v 24), .ref (v 25), .int 0, .ref (v 27), .ref (v 28), .ref (v 29), .ref (v 30), .int 0, .int 0, .int 0, .int 0, .int 0, .ref (v 36), .long 0, .ref (v 38), .ref (v 39), .ref (v 40), .ref (v 41)])), (v 1, .inl (cI, 544, .inl (upd (upd (upd (fun _ => 0) 8 1) 9 1) 17 (-1))))] H := hP
  have hD : va_D (fun q : Nat => s.heap.size ≤ q) [(y0, .inr (12, [.int 0, .ref (v 1), .ref (v 2), .ref (v 3), .ref (v 4), .int 0, .ref (v 6), .int 0, .int 0, .int 0, .int 0, .int 0, .int 0, .int (-1), .ref (v 14), .ref (v 15), .ref (v 16), .ref (v 17), .ref (v 18), .ref (v 19), .ref (v 20), .int 0, .ref (v 22), .int 0, .ref (v 24), .ref (v 25), .int 0, .ref (v 27), .ref (v 28), .ref (v 29), .ref (v 30), .int 0, .int 0, .int 0, .int 0, .int 0, .ref (v 36), .long 0, .ref (v 38), .ref (v 39), .ref (v 40), .ref (v 41)])), (v 1, .inl (cI, 544, .inl (upd (upd (upd (fun _ => 0) 8 1) 9 1) 17 (-1))))] := hD
  subst hw
  refine lv_aload_n hx hb dL_law_930 rfl (lv_at hl 1 rfl) ?_
  refine lv_aload_n hx hb dL_law_931 rfl (lv_at hl 3 rfl) ?_
  refine lv_iload_n hx hb dL_law_932 rfl (lv_at hl 0 rfl) ?_
  refine lv_iconst (v := 1) hx hb dL_law_933 (by decide) ?_
  refine lv_iadd hx hb dL_law_934 ?_
  refine lv_topi (nm_r (e' := (1)) (by decide +kernel) ?_)
  refine va_sld hx hb hX hbl hbA hS (vin (by decide)) dL_law_935 ?_
  have hPc := hP.sub (ws' := [(y0, .inr (12, [.int 0, .ref (v 1), .ref (v 2), .ref (v 3), .ref (v 4), .int 0, .ref (v 6), .int 0, .int 0, .int 0, .int 0, .int 0, .int 0, .int (-1), .ref (v 14), .ref (v 15), .ref (v 16), .ref (v 17), .ref (v 18), .ref (v 19), .ref (v 20), .int 0, .ref (v 22), .int 0, .ref (v 24), .ref (v 25), .int 0, .ref (v 27), .ref (v 28), .ref (v 29), .ref (v 30), .int 0, .int 0, .int 0, .int 0, .int 0, .ref (v 36), .long 0, .ref (v 38), .ref (v 39), .ref (v 40), .ref (v 41)])), (v 1, .inl (cI, 544, .inl (upd (upd (upd (fun _ => 0) 8 1) 9 1) 17 (-1))))]) [0, 1] rfl
  have hDc := hD.sub (ws' := [(y0, .inr (12, [.int 0, .ref (v 1), .ref (v 2), .ref (v 3), .ref (v 4), .int 0, .ref (v 6), .int 0, .int 0, .int 0, .int 0, .int 0, .int 0, .int (-1), .ref (v 14), .ref (v 15), .ref (v 16), .ref (v 17), .ref (v 18), .ref (v 19), .ref (v 20), .int 0, .ref (v 22), .int 0, .ref (v 24), .ref (v 25), .int 0, .ref (v 27), .ref (v 28), .ref (v 29), .ref (v 30), .int 0, .int 0, .int 0, .int 0, .int 0, .ref (v 36), .long 0, .ref (v 38), .ref (v 39), .ref (v 40), .ref (v 41)])), (v 1, .inl (cI, 544, .inl (upd (upd (upd (fun _ => 0) 8 1) 9 1) 17 (-1))))]) [0, 1] (by decide) rfl
  have hFc := va_free (wc := [(y0, .inr (12, [.int 0, .ref (v 1), .ref (v 2), .ref (v 3), .ref (v 4), .int 0, .ref (v 6), .int 0, .int 0, .int 0, .int 0, .int 0, .int 0, .int (-1), .ref (v 14), .ref (v 15), .ref (v 16), .ref (v 17), .ref (v 18), .ref (v 19), .ref (v 20), .int 0, .ref (v 22), .int 0, .ref (v 24), .ref (v 25), .int 0, .ref (v 27), .ref (v 28), .ref (v 29), .ref (v 30), .int 0, .int 0, .int 0, .int 0, .int 0, .ref (v 36), .long 0, .ref (v 38), .ref (v 39), .ref (v 40), .ref (v 41)])), (v 1, .inl (cI, 544, .inl (upd (upd (upd (fun _ => 0) 8 1) 9 1) 17 (-1))))]) hD hS hA [0, 1] rfl
  refine va_calli (va_runV (As := [.int (xs (1 : Int32).toNatClampNeg)]) (rest := [.int (-2)]) ⟨hx, hb, hml, hown, hwd⟩ (c_X12_rowAt l dC dI cI cZ cB cJ cM y0 v (xs (1 : Int32).toNatClampNeg) H.size) (cwV 1 hwd (gV kr24_14 kr24_15 kr24_16 kr1_5 kr24_17) rfl rfl rfl (by decide +kernel) ⟨Nat.le_of_ble_eq_true rfl, Nat.le_of_ble_eq_true rfl⟩) (kPreV hPc hK hDc (ci := 12) (q0 := 0) rfl rfl) rfl rfl hl.1 rfl (lv_room (Nat.le_of_ble_eq_true rfl)) dL_law_936 ⟨Nat.le_of_ble_eq_true rfl, Nat.le_of_ble_eq_true rfl⟩) hS (fun q _ h => hFc q h) hFc (fun r3 u4 t H1 locs ht9 hvm hw hB hz1 hk1 hS => ?_)
  obtain ⟨hP, hD⟩ := va_join (wr := []) (w1 := []) hP hD [0, 1] [] rfl rfl (by decide) (by decide) hk1 hFc kP0 kD0
  generalize H1 = H at hP hS ⊢
  have hP : va_P (dC, dI) vwCl [] H := hP
  have hD : va_D (fun q : Nat => s.heap.size ≤ q) [] := hD
  subst hw
  refine lv_icmp_eq (tgt := 1731) hx hb dL_law_939 (by decide) (fun c5 => ?_) (fun c5 => absurd c5 (by decide))
  exact law_tail C0 hS (lv_sub hl [3, 0] rfl)
set_option maxHeartbeats 4000000 in
set_option maxRecDepth 100000 in
/-- the call of cut on two fresh objects -/
theorem lcase_26 {p : Program} {l : Launch} {e : Env} {s : State} {m : MethodId} {below : List Frame} {meth : Method} {c : Code} {b : Nat} {xs : Nat → Int32} {dC : Nat → ClassId} {dI : Nat → Nat → Nat} {cI cZ cB cJ cM : ClassId} (x0 y0 : Nat) (u v : Nat → Nat) {H : Heap} {locs : List Loc} {ls : Array Slot} (C0 : lw_At p s m meth c b 6 xs) (hK : va_K (dC, dI) vwCl [(cI, .int), (cZ, .boolean), (cB, .byte), (cJ, .long), (cM, .object RX2)] s) (hP : va_P (dC, dI) vwCl [(x0, .inr (11, [.ref (u 0), .ref (u 2), .ref (u 3), .ref (u 4), .ref (u 5), .ref (u 10), .ref (u 11), .ref (u 12), .ref (u 98), .ref (u 124)])), (u 98, .inr (2, [.int 0, .int 0, .int 0, .int 0, .int 0, .int 0, .int 0, .int 0, .int 0, .ref (u 99), .ref (u 107), .ref (u 117), .ref (u 122), .ref (u 123)])), (y0, .inr (12, [.int 0, .ref (v 1), .ref (v 2), .ref (v 3), .ref (v 4), .int 0, .ref (v 6), .int 0, .int 0, .int 0, .int 0, .int 0, .int 0, .int (-1), .ref (v 14), .ref (v 15), .ref (v 16), .ref (v 17), .ref (v 18), .ref (v 19), .ref (v 20), .int 0, .ref (v 22), .int 0, .ref (v 24), .ref (v 25), .int 0, .ref (v 27), .ref (v 28), .ref (v 29), .ref (v 30), .int 0, .int 0, .int 0, .int 0, .int 0, .ref (v 36), .long 0, .ref (v 38), .ref (v 39), .ref (v 40), .ref (v 41)])), (v 1, .inl (cI, 544, .inl (upd (upd (upd (fun _ => 0) 8 1) 9 1) 17 (-1))))] H) (hD : va_D (fun q : Nat => s.heap.size ≤ q) [(x0, .inr (11, [.ref (u 0), .ref (u 2), .ref (u 3), .ref (u 4), .ref (u 5), .ref (u 10), .ref (u 11), .ref (u 12), .ref (u 98), .ref (u 124)])), (u 98, .inr (2, [.int 0, .int 0, .int 0, .int 0, .int 0, .int 0, .int 0, .int 0, .int 0, .ref (u 99), .ref (u 107), .ref (u 117), .ref (u 122), .ref (u 123)])), (y0, .inr (12, [.int 0, .ref (v 1), .ref (v 2), .ref (v 3), .ref (v 4), .int 0, .ref (v 6), .int 0, .int 0, .int 0, .int 0, .int 0, .int 0, .int (-1), .ref (v 14), .ref (v 15), .ref (v 16), .ref (v 17), .ref (v 18), .ref (v 19), .ref (v 20), .int 0, .ref (v 22), .int 0, .ref (v 24), .ref (v 25), .int 0, .ref (v 27), .ref (v 28), .ref (v 29), .ref (v 30), .int 0, .int 0, .int 0, .int 0, .int 0, .ref (v 36), .long 0, .ref (v 38), .ref (v 39), .ref (v 40), .ref (v 41)])), (v 1, .inl (cI, 544, .inl (upd (upd (upd (fun _ => 0) 8 1) 9 1) 17 (-1))))]) (hS : va_S (fun q : Nat => s.heap.size ≤ q) s.heap H locs) (hl : lv_has ls 4 [(3, .int 0), (2, .ref y0), (1, .ref x0), (0, .ref b)]) : W p l e room_1 s m #[Value.ref b] below meth c H locs 600000 7302250 (lw_Z below #[Value.ref b] s) (F0 m 944 ls []) := by
  obtain ⟨hx, hb, hr, hml, hown0, hts, hX, hbl, hlocks, hgv⟩ := id C0
  have hb : c.code = cL_law := hb
  have hown : s.vm.findClass RL = some m.cls := hown0
  have hwd : ∀ wd ∈ wsL_law, wd.before #[Value.ref b] s = true := fun w h => hts w (wsL_law_in w h)
  have hA : ∀ q : Nat, s.heap.size ≤ q → (fun q : Nat => s.heap.size ≤ q) q := fun _ h => h
  have hbA : ¬ (fun q : Nat => s.heap.size ≤ q) b := Nat.not_le.mpr hbl
  refine lv_aload_n hx hb dL_law_944 rfl (lv_at hl 2 rfl) ?_
  refine lv_aload_n hx hb dL_law_945 rfl (lv_at hl 3 rfl) ?_
  refine lv_iload_n hx hb dL_law_946 rfl (lv_at hl 0 rfl) ?_
  refine lv_iconst (v := 1) hx hb dL_law_947 (by decide) ?_
  refine lv_iadd hx hb dL_law_948 ?_
  refine lv_topi (nm_r (e' := (1)) (by decide +kernel) ?_)
  refine va_sld hx hb hX hbl hbA hS (vin (by decide)) dL_law_949 ?_
  refine lv_aload_n hx hb dL_law_950 rfl (lv_at hl 3 rfl) ?_
  refine lv_iload_n hx hb dL_law_951 rfl (lv_at hl 0 rfl) ?_
  refine lv_iconst (v := 2) hx hb dL_law_952 (by decide) ?_
  refine lv_iadd hx hb dL_law_953 ?_
  refine lv_topi (nm_r (e' := (2)) (by decide +kernel) ?_)
  refine va_sld hx hb hX hbl hbA hS (vin (by decide)) dL_law_954 ?_
  refine lv_aload_n hx hb dL_law_955 rfl (lv_at hl 3 rfl) ?_
  refine lv_iload_n hx hb dL_law_956 rfl (lv_at hl 0 rfl) ?_
  refine lv_iconst (v := 3) hx hb dL_law_957 (by decide) ?_
  refine lv_iadd hx hb dL_law_958 ?_
  refine lv_topi (nm_r (e' := (3)) (by decide +kernel) ?_)
  refine va_sld hx hb hX hbl hbA hS (vin (by decide)) dL_law_959 ?_
  have hPc := hP.sub (ws' := [(x0, .inr (11, [.ref (u 0), .ref (u 2), .ref (u 3), .ref (u 4), .ref (u 5), .ref (u 10), .ref (u 11), .ref (u 12), .ref (u 98), .ref (u 124)])), (u 98, .inr (2, [.int 0, .int 0, .int 0, .int 0, .int 0, .int 0, .int 0, .int 0, .int 0, .ref (u 99), .ref (u 107), .ref (u 117), .ref (u 122), .ref (u 123)]))]) [0, 1] rfl
  have hDc := hD.sub (ws' := [(x0, .inr (11, [.ref (u 0), .ref (u 2), .ref (u 3), .ref (u 4), .ref (u 5), .ref (u 10), .ref (u 11), .ref (u 12), .ref (u 98), .ref (u 124)])), (u 98, .inr (2, [.int 0, .int 0, .int 0, .int 0, .int 0, .int 0, .int 0, .int 0, .int 0, .ref (u 99), .ref (u 107), .ref (u 117), .ref (u 122), .ref (u 123)]))]) [0, 1] (by decide) rfl
  have hFc := va_free (wc := [(x0, .inr (11, [.ref (u 0), .ref (u 2), .ref (u 3), .ref (u 4), .ref (u 5), .ref (u 10), .ref (u 11), .ref (u 12), .ref (u 98), .ref (u 124)])), (u 98, .inr (2, [.int 0, .int 0, .int 0, .int 0, .int 0, .int 0, .int 0, .int 0, .int 0, .ref (u 99), .ref (u 107), .ref (u 117), .ref (u 122), .ref (u 123)]))]) hD hS hA [0, 1] rfl
  refine va_calli (va_runV (As := [.int (xs (1 : Int32).toNatClampNeg), .int (xs (2 : Int32).toNatClampNeg), .int (xs (3 : Int32).toNatClampNeg)]) (rest := []) ⟨hx, hb, hml, hown, hwd⟩ (c_X11_cut l dC dI cI cZ cB cJ cM x0 (u 0) (u 2) (u 3) (u 4) (u 5) (u 10) (u 11) (u 12) (u 98) (u 124) (u 99) (u 107) (u 117) (u 122) (u 123) (xs (1 : Int32).toNatClampNeg) (xs (2 : Int32).toNatClampNeg) (xs (3 : Int32).toNatClampNeg) H.size) (cwV 3 hwd (gV kr24_18 kr24_19 kr24_20 kr1_2 kr24_21) rfl rfl rfl (by decide +kernel) ⟨Nat.le_of_ble_eq_true rfl, Nat.le_of_ble_eq_true rfl⟩) (kPreV hPc hK hDc (ci := 11) (q0 := 0) rfl rfl) rfl rfl hl.1 rfl (lv_room (Nat.le_of_ble_eq_true rfl)) dL_law_960 ⟨Nat.le_of_ble_eq_true rfl, Nat.le_of_ble_eq_true rfl⟩) hS (fun q _ h => hFc q h) hFc (fun r1 u2 t H1 locs ht9 hvm hw hB hz1 hk1 hS => ?_)
  obtain ⟨hP, hD⟩ := va_join (wr := [(y0, .inr (12, [.int 0, .ref (v 1), .ref (v 2), .ref (v 3), .ref (v 4), .int 0, .ref (v 6), .int 0, .int 0, .int 0, .int 0, .int 0, .int 0, .int (-1), .ref (v 14), .ref (v 15), .ref (v 16), .ref (v 17), .ref (v 18), .ref (v 19), .ref (v 20), .int 0, .ref (v 22), .int 0, .ref (v 24), .ref (v 25), .int 0, .ref (v 27), .ref (v 28), .ref (v 29), .ref (v 30), .int 0, .int 0, .int 0, .int 0, .int 0, .ref (v 36), .long 0, .ref (v 38), .ref (v 39), .ref (v 40), .ref (v 41)])), (v 1, .inl (cI, 544, .inl (upd (upd (upd (fun _ => 0) 8 1) 9 1) 17 (-1))))]) (w1 := []) hP hD [0, 1] [2, 3] rfl rfl (by decide) (by decide) hk1 hFc kP0 kD0
  generalize H1 = H at hP hS ⊢
  have hP : va_P (dC, dI) vwCl [(y0, .inr (12, [.int 0, .ref (v 1), .ref (v 2), .ref (v 3), .ref (v 4), .int 0, .ref (v 6), .int 0, .int 0, .int 0, .int 0, .int 0, .int 0, .int (-1), .ref (v 14), .ref (v 15), .ref (v 16), .ref (v 17), .ref (v 18), .ref (v 19), .ref (v 20), .int 0, .ref (v 22), .int 0, .ref (v 24), .ref (v 25), .int 0, .ref (v 27), .ref (v 28), .ref (v 29), .ref (v 30), .int 0, .int 0, .int 0, .int 0, .int 0, .ref (v 36), .long 0, .ref (v 38), .ref (v 39), .ref (v 40), .ref (v 41)])), (v 1, .inl (cI, 544, .inl (upd (upd (upd (fun _ => 0) 8 1) 9 1) 17 (-1))))] H := hP
  have hD : va_D (fun q : Nat => s.heap.size ≤ q) [(y0, .inr (12, [.int 0, .ref (v 1), .ref (v 2), .ref (v 3), .ref (v 4), .int 0, .ref (v 6), .int 0, .int 0, .int 0, .int 0, .int 0, .int 0, .int (-1), .ref (v 14), .ref (v 15), .ref (v 16), .ref (v 17), .ref (v 18), .ref (v 19), .ref (v 20), .int 0, .ref (v 22), .int 0, .ref (v 24), .ref (v 25), .int 0, .ref (v 27), .ref (v 28), .ref (v 29), .ref (v 30), .int 0, .int 0, .int 0, .int 0, .int 0, .ref (v 36), .long 0, .ref (v 38), .ref (v 39), .ref (v 40), .ref (v 41)])), (v 1, .inl (cI, 544, .inl (upd (upd (upd (fun _ => 0) 8 1) 9 1) 17 (-1))))] := hD
  subst hw
  refine lv_aload_n hx hb dL_law_963 rfl (lv_at hl 1 rfl) ?_
  refine lv_aload_n hx hb dL_law_964 rfl (lv_at hl 3 rfl) ?_
  refine lv_iload_n hx hb dL_law_965 rfl (lv_at hl 0 rfl) ?_
  refine lv_iconst (v := 1) hx hb dL_law_966 (by decide) ?_
  refine lv_iadd hx hb dL_law_967 ?_
  refine lv_topi (nm_r (e' := (1)) (by decide +kernel) ?_)
  refine va_sld hx hb hX hbl hbA hS (vin (by decide)) dL_law_968 ?_
  refine lv_aload_n hx hb dL_law_969 rfl (lv_at hl 3 rfl) ?_
  refine lv_iload_n hx hb dL_law_970 rfl (lv_at hl 0 rfl) ?_
  refine lv_iconst (v := 2) hx hb dL_law_971 (by decide) ?_
  refine lv_iadd hx hb dL_law_972 ?_
  refine lv_topi (nm_r (e' := (2)) (by decide +kernel) ?_)
  refine va_sld hx hb hX hbl hbA hS (vin (by decide)) dL_law_973 ?_
  refine lv_aload_n hx hb dL_law_974 rfl (lv_at hl 3 rfl) ?_
  refine lv_iload_n hx hb dL_law_975 rfl (lv_at hl 0 rfl) ?_
  refine lv_iconst (v := 3) hx hb dL_law_976 (by decide) ?_
  refine lv_iadd hx hb dL_law_977 ?_
  refine lv_topi (nm_r (e' := (3)) (by decide +kernel) ?_)
  refine va_sld hx hb hX hbl hbA hS (vin (by decide)) dL_law_978 ?_
  have hPc := hP.sub (ws' := [(y0, .inr (12, [.int 0, .ref (v 1), .ref (v 2), .ref (v 3), .ref (v 4), .int 0, .ref (v 6), .int 0, .int 0, .int 0, .int 0, .int 0, .int 0, .int (-1), .ref (v 14), .ref (v 15), .ref (v 16), .ref (v 17), .ref (v 18), .ref (v 19), .ref (v 20), .int 0, .ref (v 22), .int 0, .ref (v 24), .ref (v 25), .int 0, .ref (v 27), .ref (v 28), .ref (v 29), .ref (v 30), .int 0, .int 0, .int 0, .int 0, .int 0, .ref (v 36), .long 0, .ref (v 38), .ref (v 39), .ref (v 40), .ref (v 41)])), (v 1, .inl (cI, 544, .inl (upd (upd (upd (fun _ => 0) 8 1) 9 1) 17 (-1))))]) [0, 1] rfl
  have hDc := hD.sub (ws' := [(y0, .inr (12, [.int 0, .ref (v 1), .ref (v 2), .ref (v 3), .ref (v 4), .int 0, .ref (v 6), .int 0, .int 0, .int 0, .int 0, .int 0, .int 0, .int (-1), .ref (v 14), .ref (v 15), .ref (v 16), .ref (v 17), .ref (v 18), .ref (v 19), .ref (v 20), .int 0, .ref (v 22), .int 0, .ref (v 24), .ref (v 25), .int 0, .ref (v 27), .ref (v 28), .ref (v 29), .ref (v 30), .int 0, .int 0, .int 0, .int 0, .int 0, .ref (v 36), .long 0, .ref (v 38), .ref (v 39), .ref (v 40), .ref (v 41)])), (v 1, .inl (cI, 544, .inl (upd (upd (upd (fun _ => 0) 8 1) 9 1) 17 (-1))))]) [0, 1] (by decide) rfl
  have hFc := va_free (wc := [(y0, .inr (12, [.int 0, .ref (v 1), .ref (v 2), .ref (v 3), .ref (v 4), .int 0, .ref (v 6), .int 0, .int 0, .int 0, .int 0, .int 0, .int 0, .int (-1), .ref (v 14), .ref (v 15), .ref (v 16), .ref (v 17), .ref (v 18), .ref (v 19), .ref (v 20), .int 0, .ref (v 22), .int 0, .ref (v 24), .ref (v 25), .int 0, .ref (v 27), .ref (v 28), .ref (v 29), .ref (v 30), .int 0, .int 0, .int 0, .int 0, .int 0, .ref (v 36), .long 0, .ref (v 38), .ref (v 39), .ref (v 40), .ref (v 41)])), (v 1, .inl (cI, 544, .inl (upd (upd (upd (fun _ => 0) 8 1) 9 1) 17 (-1))))]) hD hS hA [0, 1] rfl
  refine va_calli (va_runV (As := [.int (xs (1 : Int32).toNatClampNeg), .int (xs (2 : Int32).toNatClampNeg), .int (xs (3 : Int32).toNatClampNeg)]) (rest := [.int (-2)]) ⟨hx, hb, hml, hown, hwd⟩ (c_X12_cut l dC dI cI cZ cB cJ cM y0 v (xs (1 : Int32).toNatClampNeg) (xs (2 : Int32).toNatClampNeg) (xs (3 : Int32).toNatClampNeg) H.size) (cwV 3 hwd (gV kr24_22 kr24_23 kr25_0 kr1_5 kr25_1) rfl rfl rfl (by decide +kernel) ⟨Nat.le_of_ble_eq_true rfl, Nat.le_of_ble_eq_true rfl⟩) (kPreV hPc hK hDc (ci := 12) (q0 := 0) rfl rfl) rfl rfl hl.1 rfl (lv_room (Nat.le_of_ble_eq_true rfl)) dL_law_979 ⟨Nat.le_of_ble_eq_true rfl, Nat.le_of_ble_eq_true rfl⟩) hS (fun q _ h => hFc q h) hFc (fun r3 u4 t H1 locs ht9 hvm hw hB hz1 hk1 hS => ?_)
  obtain ⟨hP, hD⟩ := va_join (wr := []) (w1 := []) hP hD [0, 1] [] rfl rfl (by decide) (by decide) hk1 hFc kP0 kD0
  generalize H1 = H at hP hS ⊢
  have hP : va_P (dC, dI) vwCl [] H := hP
  have hD : va_D (fun q : Nat => s.heap.size ≤ q) [] := hD
  subst hw
  refine lv_icmp_eq (tgt := 1731) hx hb dL_law_982 (by decide) (fun c5 => ?_) (fun c5 => absurd c5 (by decide))
  exact law_tail C0 hS (lv_sub hl [3, 0] rfl)
set_option maxHeartbeats 4000000 in
set_option maxRecDepth 100000 in
/-- the call of brings on two fresh objects -/
theorem lcase_27 {p : Program} {l : Launch} {e : Env} {s : State} {m : MethodId} {below : List Frame} {meth : Method} {c : Code} {b : Nat} {xs : Nat → Int32} {dC : Nat → ClassId} {dI : Nat → Nat → Nat} {cI cZ cB cJ cM : ClassId} (x0 y0 : Nat) (u v : Nat → Nat) {H : Heap} {locs : List Loc} {ls : Array Slot} (C0 : lw_At p s m meth c b 6 xs) (hK : va_K (dC, dI) vwCl [(cI, .int), (cZ, .boolean), (cB, .byte), (cJ, .long), (cM, .object RX2)] s) (hP : va_P (dC, dI) vwCl [(x0, .inr (11, [.ref (u 0), .ref (u 2), .ref (u 3), .ref (u 4), .ref (u 5), .ref (u 10), .ref (u 11), .ref (u 12), .ref (u 98), .ref (u 124)])), (u 98, .inr (2, [.int 0, .int 0, .int 0, .int 0, .int 0, .int 0, .int 0, .int 0, .int 0, .ref (u 99), .ref (u 107), .ref (u 117), .ref (u 122), .ref (u 123)])), (y0, .inr (12, [.int 0, .ref (v 1), .ref (v 2), .ref (v 3), .ref (v 4), .int 0, .ref (v 6), .int 0, .int 0, .int 0, .int 0, .int 0, .int 0, .int (-1), .ref (v 14), .ref (v 15), .ref (v 16), .ref (v 17), .ref (v 18), .ref (v 19), .ref (v 20), .int 0, .ref (v 22), .int 0, .ref (v 24), .ref (v 25), .int 0, .ref (v 27), .ref (v 28), .ref (v 29), .ref (v 30), .int 0, .int 0, .int 0, .int 0, .int 0, .ref (v 36), .long 0, .ref (v 38), .ref (v 39), .ref (v 40), .ref (v 41)])), (v 1, .inl (cI, 544, .inl (upd (upd (upd (fun _ => 0) 8 1) 9 1) 17 (-1))))] H) (hD : va_D (fun q : Nat => s.heap.size ≤ q) [(x0, .inr (11, [.ref (u 0), .ref (u 2), .ref (u 3), .ref (u 4), .ref (u 5), .ref (u 10), .ref (u 11), .ref (u 12), .ref (u 98), .ref (u 124)])), (u 98, .inr (2, [.int 0, .int 0, .int 0, .int 0, .int 0, .int 0, .int 0, .int 0, .int 0, .ref (u 99), .ref (u 107), .ref (u 117), .ref (u 122), .ref (u 123)])), (y0, .inr (12, [.int 0, .ref (v 1), .ref (v 2), .ref (v 3), .ref (v 4), .int 0, .ref (v 6), .int 0, .int 0, .int 0, .int 0, .int 0, .int 0, .int (-1), .ref (v 14), .ref (v 15), .ref (v 16), .ref (v 17), .ref (v 18), .ref (v 19), .ref (v 20), .int 0, .ref (v 22), .int 0, .ref (v 24), .ref (v 25), .int 0, .ref (v 27), .ref (v 28), .ref (v 29), .ref (v 30), .int 0, .int 0, .int 0, .int 0, .int 0, .ref (v 36), .long 0, .ref (v 38), .ref (v 39), .ref (v 40), .ref (v 41)])), (v 1, .inl (cI, 544, .inl (upd (upd (upd (fun _ => 0) 8 1) 9 1) 17 (-1))))]) (hS : va_S (fun q : Nat => s.heap.size ≤ q) s.heap H locs) (hl : lv_has ls 4 [(3, .int 0), (2, .ref y0), (1, .ref x0), (0, .ref b)]) : W p l e room_1 s m #[Value.ref b] below meth c H locs 600000 7302250 (lw_Z below #[Value.ref b] s) (F0 m 987 ls []) := by
  obtain ⟨hx, hb, hr, hml, hown0, hts, hX, hbl, hlocks, hgv⟩ := id C0
  have hb : c.code = cL_law := hb
  have hown : s.vm.findClass RL = some m.cls := hown0
  have hwd : ∀ wd ∈ wsL_law, wd.before #[Value.ref b] s = true := fun w h => hts w (wsL_law_in w h)
  have hA : ∀ q : Nat, s.heap.size ≤ q → (fun q : Nat => s.heap.size ≤ q) q := fun _ h => h
  have hbA : ¬ (fun q : Nat => s.heap.size ≤ q) b := Nat.not_le.mpr hbl
  refine lv_aload_n hx hb dL_law_987 rfl (lv_at hl 2 rfl) ?_
  refine lv_aload_n hx hb dL_law_988 rfl (lv_at hl 3 rfl) ?_
  refine lv_iload_n hx hb dL_law_989 rfl (lv_at hl 0 rfl) ?_
  refine lv_iconst (v := 1) hx hb dL_law_990 (by decide) ?_
  refine lv_iadd hx hb dL_law_991 ?_
  refine lv_topi (nm_r (e' := (1)) (by decide +kernel) ?_)
  refine va_sld hx hb hX hbl hbA hS (vin (by decide)) dL_law_992 ?_
  refine lv_aload_n hx hb dL_law_993 rfl (lv_at hl 3 rfl) ?_
  refine lv_iload_n hx hb dL_law_994 rfl (lv_at hl 0 rfl) ?_
  refine lv_iconst (v := 2) hx hb dL_law_995 (by decide) ?_
  refine lv_iadd hx hb dL_law_996 ?_
  refine lv_topi (nm_r (e' := (2)) (by decide +kernel) ?_)
  refine va_sld hx hb hX hbl hbA hS (vin (by decide)) dL_law_997 ?_
  have hPc := hP.sub (ws' := [(x0, .inr (11, [.ref (u 0), .ref (u 2), .ref (u 3), .ref (u 4), .ref (u 5), .ref (u 10), .ref (u 11), .ref (u 12), .ref (u 98), .ref (u 124)])), (u 98, .inr (2, [.int 0, .int 0, .int 0, .int 0, .int 0, .int 0, .int 0, .int 0, .int 0, .ref (u 99), .ref (u 107), .ref (u 117), .ref (u 122), .ref (u 123)]))]) [0, 1] rfl
  have hDc := hD.sub (ws' := [(x0, .inr (11, [.ref (u 0), .ref (u 2), .ref (u 3), .ref (u 4), .ref (u 5), .ref (u 10), .ref (u 11), .ref (u 12), .ref (u 98), .ref (u 124)])), (u 98, .inr (2, [.int 0, .int 0, .int 0, .int 0, .int 0, .int 0, .int 0, .int 0, .int 0, .ref (u 99), .ref (u 107), .ref (u 117), .ref (u 122), .ref (u 123)]))]) [0, 1] (by decide) rfl
  have hFc := va_free (wc := [(x0, .inr (11, [.ref (u 0), .ref (u 2), .ref (u 3), .ref (u 4), .ref (u 5), .ref (u 10), .ref (u 11), .ref (u 12), .ref (u 98), .ref (u 124)])), (u 98, .inr (2, [.int 0, .int 0, .int 0, .int 0, .int 0, .int 0, .int 0, .int 0, .int 0, .ref (u 99), .ref (u 107), .ref (u 117), .ref (u 122), .ref (u 123)]))]) hD hS hA [0, 1] rfl
  refine va_calli (va_runV (As := [.int (xs (1 : Int32).toNatClampNeg), .int (xs (2 : Int32).toNatClampNeg)]) (rest := []) ⟨hx, hb, hml, hown, hwd⟩ (c_X11_brings l dC dI cI cZ cB cJ cM x0 (u 0) (u 2) (u 3) (u 4) (u 5) (u 10) (u 11) (u 12) (u 98) (u 124) (u 99) (u 107) (u 117) (u 122) (u 123) (xs (1 : Int32).toNatClampNeg) (xs (2 : Int32).toNatClampNeg) H.size) (cwV 2 hwd (gV kr25_7 kr25_8 kr25_9 kr1_2 kr25_10) rfl rfl rfl (by decide +kernel) ⟨Nat.le_of_ble_eq_true rfl, Nat.le_of_ble_eq_true rfl⟩) (kPreV hPc hK hDc (ci := 11) (q0 := 0) rfl rfl) rfl rfl hl.1 rfl (lv_room (Nat.le_of_ble_eq_true rfl)) dL_law_998 ⟨Nat.le_of_ble_eq_true rfl, Nat.le_of_ble_eq_true rfl⟩) hS (fun q _ h => hFc q h) hFc (fun r1 u2 t H1 locs ht9 hvm hw hB hz1 hk1 hS => ?_)
  obtain ⟨hP, hD⟩ := va_join (wr := [(y0, .inr (12, [.int 0, .ref (v 1), .ref (v 2), .ref (v 3), .ref (v 4), .int 0, .ref (v 6), .int 0, .int 0, .int 0, .int 0, .int 0, .int 0, .int (-1), .ref (v 14), .ref (v 15), .ref (v 16), .ref (v 17), .ref (v 18), .ref (v 19), .ref (v 20), .int 0, .ref (v 22), .int 0, .ref (v 24), .ref (v 25), .int 0, .ref (v 27), .ref (v 28), .ref (v 29), .ref (v 30), .int 0, .int 0, .int 0, .int 0, .int 0, .ref (v 36), .long 0, .ref (v 38), .ref (v 39), .ref (v 40), .ref (v 41)])), (v 1, .inl (cI, 544, .inl (upd (upd (upd (fun _ => 0) 8 1) 9 1) 17 (-1))))]) (w1 := []) hP hD [0, 1] [2, 3] rfl rfl (by decide) (by decide) hk1 hFc kP0 kD0
  generalize H1 = H at hP hS ⊢
  have hP : va_P (dC, dI) vwCl [(y0, .inr (12, [.int 0, .ref (v 1), .ref (v 2), .ref (v 3), .ref (v 4), .int 0, .ref (v 6), .int 0, .int 0, .int 0, .int 0, .int 0, .int 0, .int (-1), .ref (v 14), .ref (v 15), .ref (v 16), .ref (v 17), .ref (v 18), .ref (v 19), .ref (v 20), .int 0, .ref (v 22), .int 0, .ref (v 24), .ref (v 25), .int 0, .ref (v 27), .ref (v 28), .ref (v 29), .ref (v 30), .int 0, .int 0, .int 0, .int 0, .int 0, .ref (v 36), .long 0, .ref (v 38), .ref (v 39), .ref (v 40), .ref (v 41)])), (v 1, .inl (cI, 544, .inl (upd (upd (upd (fun _ => 0) 8 1) 9 1) 17 (-1))))] H := hP
  have hD : va_D (fun q : Nat => s.heap.size ≤ q) [(y0, .inr (12, [.int 0, .ref (v 1), .ref (v 2), .ref (v 3), .ref (v 4), .int 0, .ref (v 6), .int 0, .int 0, .int 0, .int 0, .int 0, .int 0, .int (-1), .ref (v 14), .ref (v 15), .ref (v 16), .ref (v 17), .ref (v 18), .ref (v 19), .ref (v 20), .int 0, .ref (v 22), .int 0, .ref (v 24), .ref (v 25), .int 0, .ref (v 27), .ref (v 28), .ref (v 29), .ref (v 30), .int 0, .int 0, .int 0, .int 0, .int 0, .ref (v 36), .long 0, .ref (v 38), .ref (v 39), .ref (v 40), .ref (v 41)])), (v 1, .inl (cI, 544, .inl (upd (upd (upd (fun _ => 0) 8 1) 9 1) 17 (-1))))] := hD
  subst hw
  refine lv_aload_n hx hb dL_law_1001 rfl (lv_at hl 1 rfl) ?_
  refine lv_aload_n hx hb dL_law_1002 rfl (lv_at hl 3 rfl) ?_
  refine lv_iload_n hx hb dL_law_1003 rfl (lv_at hl 0 rfl) ?_
  refine lv_iconst (v := 1) hx hb dL_law_1004 (by decide) ?_
  refine lv_iadd hx hb dL_law_1005 ?_
  refine lv_topi (nm_r (e' := (1)) (by decide +kernel) ?_)
  refine va_sld hx hb hX hbl hbA hS (vin (by decide)) dL_law_1006 ?_
  refine lv_aload_n hx hb dL_law_1007 rfl (lv_at hl 3 rfl) ?_
  refine lv_iload_n hx hb dL_law_1008 rfl (lv_at hl 0 rfl) ?_
  refine lv_iconst (v := 2) hx hb dL_law_1009 (by decide) ?_
  refine lv_iadd hx hb dL_law_1010 ?_
  refine lv_topi (nm_r (e' := (2)) (by decide +kernel) ?_)
  refine va_sld hx hb hX hbl hbA hS (vin (by decide)) dL_law_1011 ?_
  have hPc := hP.sub (ws' := [(y0, .inr (12, [.int 0, .ref (v 1), .ref (v 2), .ref (v 3), .ref (v 4), .int 0, .ref (v 6), .int 0, .int 0, .int 0, .int 0, .int 0, .int 0, .int (-1), .ref (v 14), .ref (v 15), .ref (v 16), .ref (v 17), .ref (v 18), .ref (v 19), .ref (v 20), .int 0, .ref (v 22), .int 0, .ref (v 24), .ref (v 25), .int 0, .ref (v 27), .ref (v 28), .ref (v 29), .ref (v 30), .int 0, .int 0, .int 0, .int 0, .int 0, .ref (v 36), .long 0, .ref (v 38), .ref (v 39), .ref (v 40), .ref (v 41)])), (v 1, .inl (cI, 544, .inl (upd (upd (upd (fun _ => 0) 8 1) 9 1) 17 (-1))))]) [0, 1] rfl
  have hDc := hD.sub (ws' := [(y0, .inr (12, [.int 0, .ref (v 1), .ref (v 2), .ref (v 3), .ref (v 4), .int 0, .ref (v 6), .int 0, .int 0, .int 0, .int 0, .int 0, .int 0, .int (-1), .ref (v 14), .ref (v 15), .ref (v 16), .ref (v 17), .ref (v 18), .ref (v 19), .ref (v 20), .int 0, .ref (v 22), .int 0, .ref (v 24), .ref (v 25), .int 0, .ref (v 27), .ref (v 28), .ref (v 29), .ref (v 30), .int 0, .int 0, .int 0, .int 0, .int 0, .ref (v 36), .long 0, .ref (v 38), .ref (v 39), .ref (v 40), .ref (v 41)])), (v 1, .inl (cI, 544, .inl (upd (upd (upd (fun _ => 0) 8 1) 9 1) 17 (-1))))]) [0, 1] (by decide) rfl
  have hFc := va_free (wc := [(y0, .inr (12, [.int 0, .ref (v 1), .ref (v 2), .ref (v 3), .ref (v 4), .int 0, .ref (v 6), .int 0, .int 0, .int 0, .int 0, .int 0, .int 0, .int (-1), .ref (v 14), .ref (v 15), .ref (v 16), .ref (v 17), .ref (v 18), .ref (v 19), .ref (v 20), .int 0, .ref (v 22), .int 0, .ref (v 24), .ref (v 25), .int 0, .ref (v 27), .ref (v 28), .ref (v 29), .ref (v 30), .int 0, .int 0, .int 0, .int 0, .int 0, .ref (v 36), .long 0, .ref (v 38), .ref (v 39), .ref (v 40), .ref (v 41)])), (v 1, .inl (cI, 544, .inl (upd (upd (upd (fun _ => 0) 8 1) 9 1) 17 (-1))))]) hD hS hA [0, 1] rfl
  refine va_calli (va_runV (As := [.int (xs (1 : Int32).toNatClampNeg), .int (xs (2 : Int32).toNatClampNeg)]) (rest := [.int (-2)]) ⟨hx, hb, hml, hown, hwd⟩ (c_X12_brings l dC dI cI cZ cB cJ cM y0 v (xs (1 : Int32).toNatClampNeg) (xs (2 : Int32).toNatClampNeg) H.size) (cwV 2 hwd (gV kr25_11 kr25_12 kr25_13 kr1_5 kr25_14) rfl rfl rfl (by decide +kernel) ⟨Nat.le_of_ble_eq_true rfl, Nat.le_of_ble_eq_true rfl⟩) (kPreV hPc hK hDc (ci := 12) (q0 := 0) rfl rfl) rfl rfl hl.1 rfl (lv_room (Nat.le_of_ble_eq_true rfl)) dL_law_1012 ⟨Nat.le_of_ble_eq_true rfl, Nat.le_of_ble_eq_true rfl⟩) hS (fun q _ h => hFc q h) hFc (fun r3 u4 t H1 locs ht9 hvm hw hB hz1 hk1 hS => ?_)
  obtain ⟨hP, hD⟩ := va_join (wr := []) (w1 := []) hP hD [0, 1] [] rfl rfl (by decide) (by decide) hk1 hFc kP0 kD0
  generalize H1 = H at hP hS ⊢
  have hP : va_P (dC, dI) vwCl [] H := hP
  have hD : va_D (fun q : Nat => s.heap.size ≤ q) [] := hD
  subst hw
  refine lv_icmp_eq (tgt := 1731) hx hb dL_law_1015 (by decide) (fun c5 => ?_) (fun c5 => absurd c5 (by decide))
  exact law_tail C0 hS (lv_sub hl [3, 0] rfl)
set_option maxHeartbeats 4000000 in
set_option maxRecDepth 100000 in
/-- the call of widest on two fresh objects -/
theorem lcase_28 {p : Program} {l : Launch} {e : Env} {s : State} {m : MethodId} {below : List Frame} {meth : Method} {c : Code} {b : Nat} {xs : Nat → Int32} {dC : Nat → ClassId} {dI : Nat → Nat → Nat} {cI cZ cB cJ cM : ClassId} (x0 y0 : Nat) (u v : Nat → Nat) {H : Heap} {locs : List Loc} {ls : Array Slot} (C0 : lw_At p s m meth c b 6 xs) (hK : va_K (dC, dI) vwCl [(cI, .int), (cZ, .boolean), (cB, .byte), (cJ, .long), (cM, .object RX2)] s) (hP : va_P (dC, dI) vwCl [(x0, .inr (11, [.ref (u 0), .ref (u 2), .ref (u 3), .ref (u 4), .ref (u 5), .ref (u 10), .ref (u 11), .ref (u 12), .ref (u 98), .ref (u 124)])), (u 98, .inr (2, [.int 0, .int 0, .int 0, .int 0, .int 0, .int 0, .int 0, .int 0, .int 0, .ref (u 99), .ref (u 107), .ref (u 117), .ref (u 122), .ref (u 123)])), (y0, .inr (12, [.int 0, .ref (v 1), .ref (v 2), .ref (v 3), .ref (v 4), .int 0, .ref (v 6), .int 0, .int 0, .int 0, .int 0, .int 0, .int 0, .int (-1), .ref (v 14), .ref (v 15), .ref (v 16), .ref (v 17), .ref (v 18), .ref (v 19), .ref (v 20), .int 0, .ref (v 22), .int 0, .ref (v 24), .ref (v 25), .int 0, .ref (v 27), .ref (v 28), .ref (v 29), .ref (v 30), .int 0, .int 0, .int 0, .int 0, .int 0, .ref (v 36), .long 0, .ref (v 38), .ref (v 39), .ref (v 40), .ref (v 41)])), (v 1, .inl (cI, 544, .inl (upd (upd (upd (fun _ => 0) 8 1) 9 1) 17 (-1))))] H) (hD : va_D (fun q : Nat => s.heap.size ≤ q) [(x0, .inr (11, [.ref (u 0), .ref (u 2), .ref (u 3), .ref (u 4), .ref (u 5), .ref (u 10), .ref (u 11), .ref (u 12), .ref (u 98), .ref (u 124)])), (u 98, .inr (2, [.int 0, .int 0, .int 0, .int 0, .int 0, .int 0, .int 0, .int 0, .int 0, .ref (u 99), .ref (u 107), .ref (u 117), .ref (u 122), .ref (u 123)])), (y0, .inr (12, [.int 0, .ref (v 1), .ref (v 2), .ref (v 3), .ref (v 4), .int 0, .ref (v 6), .int 0, .int 0, .int 0, .int 0, .int 0, .int 0, .int (-1), .ref (v 14), .ref (v 15), .ref (v 16), .ref (v 17), .ref (v 18), .ref (v 19), .ref (v 20), .int 0, .ref (v 22), .int 0, .ref (v 24), .ref (v 25), .int 0, .ref (v 27), .ref (v 28), .ref (v 29), .ref (v 30), .int 0, .int 0, .int 0, .int 0, .int 0, .ref (v 36), .long 0, .ref (v 38), .ref (v 39), .ref (v 40), .ref (v 41)])), (v 1, .inl (cI, 544, .inl (upd (upd (upd (fun _ => 0) 8 1) 9 1) 17 (-1))))]) (hS : va_S (fun q : Nat => s.heap.size ≤ q) s.heap H locs) (hl : lv_has ls 4 [(3, .int 0), (2, .ref y0), (1, .ref x0), (0, .ref b)]) : W p l e room_1 s m #[Value.ref b] below meth c H locs 600000 7302250 (lw_Z below #[Value.ref b] s) (F0 m 1020 ls []) := by
  obtain ⟨hx, hb, hr, hml, hown0, hts, hX, hbl, hlocks, hgv⟩ := id C0
  have hb : c.code = cL_law := hb
  have hown : s.vm.findClass RL = some m.cls := hown0
  have hwd : ∀ wd ∈ wsL_law, wd.before #[Value.ref b] s = true := fun w h => hts w (wsL_law_in w h)
  have hA : ∀ q : Nat, s.heap.size ≤ q → (fun q : Nat => s.heap.size ≤ q) q := fun _ h => h
  have hbA : ¬ (fun q : Nat => s.heap.size ≤ q) b := Nat.not_le.mpr hbl
  refine lv_aload_n hx hb dL_law_1020 rfl (lv_at hl 2 rfl) ?_
  refine lv_aload_n hx hb dL_law_1021 rfl (lv_at hl 3 rfl) ?_
  refine lv_iload_n hx hb dL_law_1022 rfl (lv_at hl 0 rfl) ?_
  refine lv_iconst (v := 1) hx hb dL_law_1023 (by decide) ?_
  refine lv_iadd hx hb dL_law_1024 ?_
  refine lv_topi (nm_r (e' := (1)) (by decide +kernel) ?_)
  refine va_sld hx hb hX hbl hbA hS (vin (by decide)) dL_law_1025 ?_
  have hPc := hP.sub (ws' := [(x0, .inr (11, [.ref (u 0), .ref (u 2), .ref (u 3), .ref (u 4), .ref (u 5), .ref (u 10), .ref (u 11), .ref (u 12), .ref (u 98), .ref (u 124)])), (u 98, .inr (2, [.int 0, .int 0, .int 0, .int 0, .int 0, .int 0, .int 0, .int 0, .int 0, .ref (u 99), .ref (u 107), .ref (u 117), .ref (u 122), .ref (u 123)]))]) [0, 1] rfl
  have hDc := hD.sub (ws' := [(x0, .inr (11, [.ref (u 0), .ref (u 2), .ref (u 3), .ref (u 4), .ref (u 5), .ref (u 10), .ref (u 11), .ref (u 12), .ref (u 98), .ref (u 124)])), (u 98, .inr (2, [.int 0, .int 0, .int 0, .int 0, .int 0, .int 0, .int 0, .int 0, .int 0, .ref (u 99), .ref (u 107), .ref (u 117), .ref (u 122), .ref (u 123)]))]) [0, 1] (by decide) rfl
  have hFc := va_free (wc := [(x0, .inr (11, [.ref (u 0), .ref (u 2), .ref (u 3), .ref (u 4), .ref (u 5), .ref (u 10), .ref (u 11), .ref (u 12), .ref (u 98), .ref (u 124)])), (u 98, .inr (2, [.int 0, .int 0, .int 0, .int 0, .int 0, .int 0, .int 0, .int 0, .int 0, .ref (u 99), .ref (u 107), .ref (u 117), .ref (u 122), .ref (u 123)]))]) hD hS hA [0, 1] rfl
  refine va_calli (va_runV (As := [.int (xs (1 : Int32).toNatClampNeg)]) (rest := []) ⟨hx, hb, hml, hown, hwd⟩ (c_X11_widest l dC dI cI cZ cB cJ cM x0 (u 0) (u 2) (u 3) (u 4) (u 5) (u 10) (u 11) (u 12) (u 98) (u 124) (u 99) (u 107) (u 117) (u 122) (u 123) (xs (1 : Int32).toNatClampNeg) H.size) (cwV 1 hwd (gV kr25_15 kr25_16 kr25_17 kr1_2 kr25_18) rfl rfl rfl (by decide +kernel) ⟨Nat.le_of_ble_eq_true rfl, Nat.le_of_ble_eq_true rfl⟩) (kPreV hPc hK hDc (ci := 11) (q0 := 0) rfl rfl) rfl rfl hl.1 rfl (lv_room (Nat.le_of_ble_eq_true rfl)) dL_law_1026 ⟨Nat.le_of_ble_eq_true rfl, Nat.le_of_ble_eq_true rfl⟩) hS (fun q _ h => hFc q h) hFc (fun r1 u2 t H1 locs ht9 hvm hw hB hz1 hk1 hS => ?_)
  obtain ⟨hP, hD⟩ := va_join (wr := [(y0, .inr (12, [.int 0, .ref (v 1), .ref (v 2), .ref (v 3), .ref (v 4), .int 0, .ref (v 6), .int 0, .int 0, .int 0, .int 0, .int 0, .int 0, .int (-1), .ref (v 14), .ref (v 15), .ref (v 16), .ref (v 17), .ref (v 18), .ref (v 19), .ref (v 20), .int 0, .ref (v 22), .int 0, .ref (v 24), .ref (v 25), .int 0, .ref (v 27), .ref (v 28), .ref (v 29), .ref (v 30), .int 0, .int 0, .int 0, .int 0, .int 0, .ref (v 36), .long 0, .ref (v 38), .ref (v 39), .ref (v 40), .ref (v 41)])), (v 1, .inl (cI, 544, .inl (upd (upd (upd (fun _ => 0) 8 1) 9 1) 17 (-1))))]) (w1 := []) hP hD [0, 1] [2, 3] rfl rfl (by decide) (by decide) hk1 hFc kP0 kD0
  generalize H1 = H at hP hS ⊢
  have hP : va_P (dC, dI) vwCl [(y0, .inr (12, [.int 0, .ref (v 1), .ref (v 2), .ref (v 3), .ref (v 4), .int 0, .ref (v 6), .int 0, .int 0, .int 0, .int 0, .int 0, .int 0, .int (-1), .ref (v 14), .ref (v 15), .ref (v 16), .ref (v 17), .ref (v 18), .ref (v 19), .ref (v 20), .int 0, .ref (v 22), .int 0, .ref (v 24), .ref (v 25), .int 0, .ref (v 27), .ref (v 28), .ref (v 29), .ref (v 30), .int 0, .int 0, .int 0, .int 0, .int 0, .ref (v 36), .long 0, .ref (v 38), .ref (v 39), .ref (v 40), .ref (v 41)])), (v 1, .inl (cI, 544, .inl (upd (upd (upd (fun _ => 0) 8 1) 9 1) 17 (-1))))] H := hP
  have hD : va_D (fun q : Nat => s.heap.size ≤ q) [(y0, .inr (12, [.int 0, .ref (v 1), .ref (v 2), .ref (v 3), .ref (v 4), .int 0, .ref (v 6), .int 0, .int 0, .int 0, .int 0, .int 0, .int 0, .int (-1), .ref (v 14), .ref (v 15), .ref (v 16), .ref (v 17), .ref (v 18), .ref (v 19), .ref (v 20), .int 0, .ref (v 22), .int 0, .ref (v 24), .ref (v 25), .int 0, .ref (v 27), .ref (v 28), .ref (v 29), .ref (v 30), .int 0, .int 0, .int 0, .int 0, .int 0, .ref (v 36), .long 0, .ref (v 38), .ref (v 39), .ref (v 40), .ref (v 41)])), (v 1, .inl (cI, 544, .inl (upd (upd (upd (fun _ => 0) 8 1) 9 1) 17 (-1))))] := hD
  subst hw
  refine lv_aload_n hx hb dL_law_1029 rfl (lv_at hl 1 rfl) ?_
  refine lv_aload_n hx hb dL_law_1030 rfl (lv_at hl 3 rfl) ?_
  refine lv_iload_n hx hb dL_law_1031 rfl (lv_at hl 0 rfl) ?_
  refine lv_iconst (v := 1) hx hb dL_law_1032 (by decide) ?_
  refine lv_iadd hx hb dL_law_1033 ?_
  refine lv_topi (nm_r (e' := (1)) (by decide +kernel) ?_)
  refine va_sld hx hb hX hbl hbA hS (vin (by decide)) dL_law_1034 ?_
  have hPc := hP.sub (ws' := [(y0, .inr (12, [.int 0, .ref (v 1), .ref (v 2), .ref (v 3), .ref (v 4), .int 0, .ref (v 6), .int 0, .int 0, .int 0, .int 0, .int 0, .int 0, .int (-1), .ref (v 14), .ref (v 15), .ref (v 16), .ref (v 17), .ref (v 18), .ref (v 19), .ref (v 20), .int 0, .ref (v 22), .int 0, .ref (v 24), .ref (v 25), .int 0, .ref (v 27), .ref (v 28), .ref (v 29), .ref (v 30), .int 0, .int 0, .int 0, .int 0, .int 0, .ref (v 36), .long 0, .ref (v 38), .ref (v 39), .ref (v 40), .ref (v 41)])), (v 1, .inl (cI, 544, .inl (upd (upd (upd (fun _ => 0) 8 1) 9 1) 17 (-1))))]) [0, 1] rfl
  have hDc := hD.sub (ws' := [(y0, .inr (12, [.int 0, .ref (v 1), .ref (v 2), .ref (v 3), .ref (v 4), .int 0, .ref (v 6), .int 0, .int 0, .int 0, .int 0, .int 0, .int 0, .int (-1), .ref (v 14), .ref (v 15), .ref (v 16), .ref (v 17), .ref (v 18), .ref (v 19), .ref (v 20), .int 0, .ref (v 22), .int 0, .ref (v 24), .ref (v 25), .int 0, .ref (v 27), .ref (v 28), .ref (v 29), .ref (v 30), .int 0, .int 0, .int 0, .int 0, .int 0, .ref (v 36), .long 0, .ref (v 38), .ref (v 39), .ref (v 40), .ref (v 41)])), (v 1, .inl (cI, 544, .inl (upd (upd (upd (fun _ => 0) 8 1) 9 1) 17 (-1))))]) [0, 1] (by decide) rfl
  have hFc := va_free (wc := [(y0, .inr (12, [.int 0, .ref (v 1), .ref (v 2), .ref (v 3), .ref (v 4), .int 0, .ref (v 6), .int 0, .int 0, .int 0, .int 0, .int 0, .int 0, .int (-1), .ref (v 14), .ref (v 15), .ref (v 16), .ref (v 17), .ref (v 18), .ref (v 19), .ref (v 20), .int 0, .ref (v 22), .int 0, .ref (v 24), .ref (v 25), .int 0, .ref (v 27), .ref (v 28), .ref (v 29), .ref (v 30), .int 0, .int 0, .int 0, .int 0, .int 0, .ref (v 36), .long 0, .ref (v 38), .ref (v 39), .ref (v 40), .ref (v 41)])), (v 1, .inl (cI, 544, .inl (upd (upd (upd (fun _ => 0) 8 1) 9 1) 17 (-1))))]) hD hS hA [0, 1] rfl
  refine va_calli (va_runV (As := [.int (xs (1 : Int32).toNatClampNeg)]) (rest := [.int (-2)]) ⟨hx, hb, hml, hown, hwd⟩ (c_X12_widest l dC dI cI cZ cB cJ cM y0 v (xs (1 : Int32).toNatClampNeg) H.size) (cwV 1 hwd (gV kr25_19 kr25_20 kr25_21 kr1_5 kr25_22) rfl rfl rfl (by decide +kernel) ⟨Nat.le_of_ble_eq_true rfl, Nat.le_of_ble_eq_true rfl⟩) (kPreV hPc hK hDc (ci := 12) (q0 := 0) rfl rfl) rfl rfl hl.1 rfl (lv_room (Nat.le_of_ble_eq_true rfl)) dL_law_1035 ⟨Nat.le_of_ble_eq_true rfl, Nat.le_of_ble_eq_true rfl⟩) hS (fun q _ h => hFc q h) hFc (fun r3 u4 t H1 locs ht9 hvm hw hB hz1 hk1 hS => ?_)
  obtain ⟨hP, hD⟩ := va_join (wr := []) (w1 := []) hP hD [0, 1] [] rfl rfl (by decide) (by decide) hk1 hFc kP0 kD0
  generalize H1 = H at hP hS ⊢
  have hP : va_P (dC, dI) vwCl [] H := hP
  have hD : va_D (fun q : Nat => s.heap.size ≤ q) [] := hD
  subst hw
  refine lv_icmp_eq (tgt := 1731) hx hb dL_law_1038 (by decide) (fun c5 => ?_) (fun c5 => absurd c5 (by decide))
  exact law_tail C0 hS (lv_sub hl [3, 0] rfl)
set_option maxHeartbeats 4000000 in
set_option maxRecDepth 100000 in
/-- the call of hard on two fresh objects -/
theorem lcase_29 {p : Program} {l : Launch} {e : Env} {s : State} {m : MethodId} {below : List Frame} {meth : Method} {c : Code} {b : Nat} {xs : Nat → Int32} {dC : Nat → ClassId} {dI : Nat → Nat → Nat} {cI cZ cB cJ cM : ClassId} (x0 y0 : Nat) (u v : Nat → Nat) {H : Heap} {locs : List Loc} {ls : Array Slot} (C0 : lw_At p s m meth c b 6 xs) (hK : va_K (dC, dI) vwCl [(cI, .int), (cZ, .boolean), (cB, .byte), (cJ, .long), (cM, .object RX2)] s) (hP : va_P (dC, dI) vwCl [(x0, .inr (11, [.ref (u 0), .ref (u 2), .ref (u 3), .ref (u 4), .ref (u 5), .ref (u 10), .ref (u 11), .ref (u 12), .ref (u 98), .ref (u 124)])), (u 98, .inr (2, [.int 0, .int 0, .int 0, .int 0, .int 0, .int 0, .int 0, .int 0, .int 0, .ref (u 99), .ref (u 107), .ref (u 117), .ref (u 122), .ref (u 123)])), (y0, .inr (12, [.int 0, .ref (v 1), .ref (v 2), .ref (v 3), .ref (v 4), .int 0, .ref (v 6), .int 0, .int 0, .int 0, .int 0, .int 0, .int 0, .int (-1), .ref (v 14), .ref (v 15), .ref (v 16), .ref (v 17), .ref (v 18), .ref (v 19), .ref (v 20), .int 0, .ref (v 22), .int 0, .ref (v 24), .ref (v 25), .int 0, .ref (v 27), .ref (v 28), .ref (v 29), .ref (v 30), .int 0, .int 0, .int 0, .int 0, .int 0, .ref (v 36), .long 0, .ref (v 38), .ref (v 39), .ref (v 40), .ref (v 41)])), (v 1, .inl (cI, 544, .inl (upd (upd (upd (fun _ => 0) 8 1) 9 1) 17 (-1))))] H) (hD : va_D (fun q : Nat => s.heap.size ≤ q) [(x0, .inr (11, [.ref (u 0), .ref (u 2), .ref (u 3), .ref (u 4), .ref (u 5), .ref (u 10), .ref (u 11), .ref (u 12), .ref (u 98), .ref (u 124)])), (u 98, .inr (2, [.int 0, .int 0, .int 0, .int 0, .int 0, .int 0, .int 0, .int 0, .int 0, .ref (u 99), .ref (u 107), .ref (u 117), .ref (u 122), .ref (u 123)])), (y0, .inr (12, [.int 0, .ref (v 1), .ref (v 2), .ref (v 3), .ref (v 4), .int 0, .ref (v 6), .int 0, .int 0, .int 0, .int 0, .int 0, .int 0, .int (-1), .ref (v 14), .ref (v 15), .ref (v 16), .ref (v 17), .ref (v 18), .ref (v 19), .ref (v 20), .int 0, .ref (v 22), .int 0, .ref (v 24), .ref (v 25), .int 0, .ref (v 27), .ref (v 28), .ref (v 29), .ref (v 30), .int 0, .int 0, .int 0, .int 0, .int 0, .ref (v 36), .long 0, .ref (v 38), .ref (v 39), .ref (v 40), .ref (v 41)])), (v 1, .inl (cI, 544, .inl (upd (upd (upd (fun _ => 0) 8 1) 9 1) 17 (-1))))]) (hS : va_S (fun q : Nat => s.heap.size ≤ q) s.heap H locs) (hl : lv_has ls 4 [(3, .int 0), (2, .ref y0), (1, .ref x0), (0, .ref b)]) : W p l e room_1 s m #[Value.ref b] below meth c H locs 600000 7302250 (lw_Z below #[Value.ref b] s) (F0 m 1043 ls []) := by
  obtain ⟨hx, hb, hr, hml, hown0, hts, hX, hbl, hlocks, hgv⟩ := id C0
  have hb : c.code = cL_law := hb
  have hown : s.vm.findClass RL = some m.cls := hown0
  have hwd : ∀ wd ∈ wsL_law, wd.before #[Value.ref b] s = true := fun w h => hts w (wsL_law_in w h)
  have hA : ∀ q : Nat, s.heap.size ≤ q → (fun q : Nat => s.heap.size ≤ q) q := fun _ h => h
  have hbA : ¬ (fun q : Nat => s.heap.size ≤ q) b := Nat.not_le.mpr hbl
  refine lv_aload_n hx hb dL_law_1043 rfl (lv_at hl 2 rfl) ?_
  refine lv_aload_n hx hb dL_law_1044 rfl (lv_at hl 3 rfl) ?_
  refine lv_iload_n hx hb dL_law_1045 rfl (lv_at hl 0 rfl) ?_
  refine lv_iconst (v := 1) hx hb dL_law_1046 (by decide) ?_
  refine lv_iadd hx hb dL_law_1047 ?_
  refine lv_topi (nm_r (e' := (1)) (by decide +kernel) ?_)
  refine va_sld hx hb hX hbl hbA hS (vin (by decide)) dL_law_1048 ?_
  have hPc := hP.sub (ws' := [(x0, .inr (11, [.ref (u 0), .ref (u 2), .ref (u 3), .ref (u 4), .ref (u 5), .ref (u 10), .ref (u 11), .ref (u 12), .ref (u 98), .ref (u 124)])), (u 98, .inr (2, [.int 0, .int 0, .int 0, .int 0, .int 0, .int 0, .int 0, .int 0, .int 0, .ref (u 99), .ref (u 107), .ref (u 117), .ref (u 122), .ref (u 123)]))]) [0, 1] rfl
  have hDc := hD.sub (ws' := [(x0, .inr (11, [.ref (u 0), .ref (u 2), .ref (u 3), .ref (u 4), .ref (u 5), .ref (u 10), .ref (u 11), .ref (u 12), .ref (u 98), .ref (u 124)])), (u 98, .inr (2, [.int 0, .int 0, .int 0, .int 0, .int 0, .int 0, .int 0, .int 0, .int 0, .ref (u 99), .ref (u 107), .ref (u 117), .ref (u 122), .ref (u 123)]))]) [0, 1] (by decide) rfl
  have hFc := va_free (wc := [(x0, .inr (11, [.ref (u 0), .ref (u 2), .ref (u 3), .ref (u 4), .ref (u 5), .ref (u 10), .ref (u 11), .ref (u 12), .ref (u 98), .ref (u 124)])), (u 98, .inr (2, [.int 0, .int 0, .int 0, .int 0, .int 0, .int 0, .int 0, .int 0, .int 0, .ref (u 99), .ref (u 107), .ref (u 117), .ref (u 122), .ref (u 123)]))]) hD hS hA [0, 1] rfl
  refine va_calli (va_runV (As := [.int (xs (1 : Int32).toNatClampNeg)]) (rest := []) ⟨hx, hb, hml, hown, hwd⟩ (c_X11_hard l dC dI cI cZ cB cJ cM x0 (u 0) (u 2) (u 3) (u 4) (u 5) (u 10) (u 11) (u 12) (u 98) (u 124) (u 99) (u 107) (u 117) (u 122) (u 123) (xs (1 : Int32).toNatClampNeg) H.size) (cwV 1 hwd (gV kr25_23 kr26_0 kr26_1 kr1_2 kr26_2) rfl rfl rfl (by decide +kernel) ⟨Nat.le_of_ble_eq_true rfl, Nat.le_of_ble_eq_true rfl⟩) (kPreV hPc hK hDc (ci := 11) (q0 := 0) rfl rfl) rfl rfl hl.1 rfl (lv_room (Nat.le_of_ble_eq_true rfl)) dL_law_1049 ⟨Nat.le_of_ble_eq_true rfl, Nat.le_of_ble_eq_true rfl⟩) hS (fun q _ h => hFc q h) hFc (fun r1 u2 t H1 locs ht9 hvm hw hB hz1 hk1 hS => ?_)
  obtain ⟨hP, hD⟩ := va_join (wr := [(y0, .inr (12, [.int 0, .ref (v 1), .ref (v 2), .ref (v 3), .ref (v 4), .int 0, .ref (v 6), .int 0, .int 0, .int 0, .int 0, .int 0, .int 0, .int (-1), .ref (v 14), .ref (v 15), .ref (v 16), .ref (v 17), .ref (v 18), .ref (v 19), .ref (v 20), .int 0, .ref (v 22), .int 0, .ref (v 24), .ref (v 25), .int 0, .ref (v 27), .ref (v 28), .ref (v 29), .ref (v 30), .int 0, .int 0, .int 0, .int 0, .int 0, .ref (v 36), .long 0, .ref (v 38), .ref (v 39), .ref (v 40), .ref (v 41)])), (v 1, .inl (cI, 544, .inl (upd (upd (upd (fun _ => 0) 8 1) 9 1) 17 (-1))))]) (w1 := []) hP hD [0, 1] [2, 3] rfl rfl (by decide) (by decide) hk1 hFc kP0 kD0
  generalize H1 = H at hP hS ⊢
  have hP : va_P (dC, dI) vwCl [(y0, .inr (12, [.int 0, .ref (v 1), .ref (v 2), .ref (v 3), .ref (v 4), .int 0, .ref (v 6), .int 0, .int 0, .int 0, .int 0, .int 0, .int 0, .int (-1), .ref (v 14), .ref (v 15), .ref (v 16), .ref (v 17), .ref (v 18), .ref (v 19), .ref (v 20), .int 0, .ref (v 22), .int 0, .ref (v 24), .ref (v 25), .int 0, .ref (v 27), .ref (v 28), .ref (v 29), .ref (v 30), .int 0, .int 0, .int 0, .int 0, .int 0, .ref (v 36), .long 0, .ref (v 38), .ref (v 39), .ref (v 40), .ref (v 41)])), (v 1, .inl (cI, 544, .inl (upd (upd (upd (fun _ => 0) 8 1) 9 1) 17 (-1))))] H := hP
  have hD : va_D (fun q : Nat => s.heap.size ≤ q) [(y0, .inr (12, [.int 0, .ref (v 1), .ref (v 2), .ref (v 3), .ref (v 4), .int 0, .ref (v 6), .int 0, .int 0, .int 0, .int 0, .int 0, .int 0, .int (-1), .ref (v 14), .ref (v 15), .ref (v 16), .ref (v 17), .ref (v 18), .ref (v 19), .ref (v 20), .int 0, .ref (v 22), .int 0, .ref (v 24), .ref (v 25), .int 0, .ref (v 27), .ref (v 28), .ref (v 29), .ref (v 30), .int 0, .int 0, .int 0, .int 0, .int 0, .ref (v 36), .long 0, .ref (v 38), .ref (v 39), .ref (v 40), .ref (v 41)])), (v 1, .inl (cI, 544, .inl (upd (upd (upd (fun _ => 0) 8 1) 9 1) 17 (-1))))] := hD
  subst hw
  refine lv_aload_n hx hb dL_law_1052 rfl (lv_at hl 1 rfl) ?_
  refine lv_aload_n hx hb dL_law_1053 rfl (lv_at hl 3 rfl) ?_
  refine lv_iload_n hx hb dL_law_1054 rfl (lv_at hl 0 rfl) ?_
  refine lv_iconst (v := 1) hx hb dL_law_1055 (by decide) ?_
  refine lv_iadd hx hb dL_law_1056 ?_
  refine lv_topi (nm_r (e' := (1)) (by decide +kernel) ?_)
  refine va_sld hx hb hX hbl hbA hS (vin (by decide)) dL_law_1057 ?_
  have hPc := hP.sub (ws' := [(y0, .inr (12, [.int 0, .ref (v 1), .ref (v 2), .ref (v 3), .ref (v 4), .int 0, .ref (v 6), .int 0, .int 0, .int 0, .int 0, .int 0, .int 0, .int (-1), .ref (v 14), .ref (v 15), .ref (v 16), .ref (v 17), .ref (v 18), .ref (v 19), .ref (v 20), .int 0, .ref (v 22), .int 0, .ref (v 24), .ref (v 25), .int 0, .ref (v 27), .ref (v 28), .ref (v 29), .ref (v 30), .int 0, .int 0, .int 0, .int 0, .int 0, .ref (v 36), .long 0, .ref (v 38), .ref (v 39), .ref (v 40), .ref (v 41)])), (v 1, .inl (cI, 544, .inl (upd (upd (upd (fun _ => 0) 8 1) 9 1) 17 (-1))))]) [0, 1] rfl
  have hDc := hD.sub (ws' := [(y0, .inr (12, [.int 0, .ref (v 1), .ref (v 2), .ref (v 3), .ref (v 4), .int 0, .ref (v 6), .int 0, .int 0, .int 0, .int 0, .int 0, .int 0, .int (-1), .ref (v 14), .ref (v 15), .ref (v 16), .ref (v 17), .ref (v 18), .ref (v 19), .ref (v 20), .int 0, .ref (v 22), .int 0, .ref (v 24), .ref (v 25), .int 0, .ref (v 27), .ref (v 28), .ref (v 29), .ref (v 30), .int 0, .int 0, .int 0, .int 0, .int 0, .ref (v 36), .long 0, .ref (v 38), .ref (v 39), .ref (v 40), .ref (v 41)])), (v 1, .inl (cI, 544, .inl (upd (upd (upd (fun _ => 0) 8 1) 9 1) 17 (-1))))]) [0, 1] (by decide) rfl
  have hFc := va_free (wc := [(y0, .inr (12, [.int 0, .ref (v 1), .ref (v 2), .ref (v 3), .ref (v 4), .int 0, .ref (v 6), .int 0, .int 0, .int 0, .int 0, .int 0, .int 0, .int (-1), .ref (v 14), .ref (v 15), .ref (v 16), .ref (v 17), .ref (v 18), .ref (v 19), .ref (v 20), .int 0, .ref (v 22), .int 0, .ref (v 24), .ref (v 25), .int 0, .ref (v 27), .ref (v 28), .ref (v 29), .ref (v 30), .int 0, .int 0, .int 0, .int 0, .int 0, .ref (v 36), .long 0, .ref (v 38), .ref (v 39), .ref (v 40), .ref (v 41)])), (v 1, .inl (cI, 544, .inl (upd (upd (upd (fun _ => 0) 8 1) 9 1) 17 (-1))))]) hD hS hA [0, 1] rfl
  refine va_calli (va_runV (As := [.int (xs (1 : Int32).toNatClampNeg)]) (rest := [.int (-2)]) ⟨hx, hb, hml, hown, hwd⟩ (c_X12_hard l dC dI cI cZ cB cJ cM y0 v (xs (1 : Int32).toNatClampNeg) H.size) (cwV 1 hwd (gV kr26_3 kr26_4 kr26_5 kr1_5 kr26_6) rfl rfl rfl (by decide +kernel) ⟨Nat.le_of_ble_eq_true rfl, Nat.le_of_ble_eq_true rfl⟩) (kPreV hPc hK hDc (ci := 12) (q0 := 0) rfl rfl) rfl rfl hl.1 rfl (lv_room (Nat.le_of_ble_eq_true rfl)) dL_law_1058 ⟨Nat.le_of_ble_eq_true rfl, Nat.le_of_ble_eq_true rfl⟩) hS (fun q _ h => hFc q h) hFc (fun r3 u4 t H1 locs ht9 hvm hw hB hz1 hk1 hS => ?_)
  obtain ⟨hP, hD⟩ := va_join (wr := []) (w1 := []) hP hD [0, 1] [] rfl rfl (by decide) (by decide) hk1 hFc kP0 kD0
  generalize H1 = H at hP hS ⊢
  have hP : va_P (dC, dI) vwCl [] H := hP
  have hD : va_D (fun q : Nat => s.heap.size ≤ q) [] := hD
  subst hw
  refine lv_icmp_eq (tgt := 1731) hx hb dL_law_1061 (by decide) (fun c5 => ?_) (fun c5 => absurd c5 (by decide))
  exact law_tail C0 hS (lv_sub hl [3, 0] rfl)
set_option maxHeartbeats 4000000 in
set_option maxRecDepth 100000 in
/-- the call of differs on two fresh objects -/
theorem lcase_30 {p : Program} {l : Launch} {e : Env} {s : State} {m : MethodId} {below : List Frame} {meth : Method} {c : Code} {b : Nat} {xs : Nat → Int32} {dC : Nat → ClassId} {dI : Nat → Nat → Nat} {cI cZ cB cJ cM : ClassId} (x0 y0 : Nat) (u v : Nat → Nat) {H : Heap} {locs : List Loc} {ls : Array Slot} (C0 : lw_At p s m meth c b 6 xs) (hK : va_K (dC, dI) vwCl [(cI, .int), (cZ, .boolean), (cB, .byte), (cJ, .long), (cM, .object RX2)] s) (hP : va_P (dC, dI) vwCl [(x0, .inr (11, [.ref (u 0), .ref (u 2), .ref (u 3), .ref (u 4), .ref (u 5), .ref (u 10), .ref (u 11), .ref (u 12), .ref (u 98), .ref (u 124)])), (u 98, .inr (2, [.int 0, .int 0, .int 0, .int 0, .int 0, .int 0, .int 0, .int 0, .int 0, .ref (u 99), .ref (u 107), .ref (u 117), .ref (u 122), .ref (u 123)])), (u 107, .inr (1, [.int 0, .ref (u 108), .ref (u 109), .ref (u 110), .ref (u 111), .ref (u 112), .ref (u 113), .ref (u 114), .ref (u 115), .ref (u 116)])), (y0, .inr (12, [.int 0, .ref (v 1), .ref (v 2), .ref (v 3), .ref (v 4), .int 0, .ref (v 6), .int 0, .int 0, .int 0, .int 0, .int 0, .int 0, .int (-1), .ref (v 14), .ref (v 15), .ref (v 16), .ref (v 17), .ref (v 18), .ref (v 19), .ref (v 20), .int 0, .ref (v 22), .int 0, .ref (v 24), .ref (v 25), .int 0, .ref (v 27), .ref (v 28), .ref (v 29), .ref (v 30), .int 0, .int 0, .int 0, .int 0, .int 0, .ref (v 36), .long 0, .ref (v 38), .ref (v 39), .ref (v 40), .ref (v 41)])), (v 1, .inl (cI, 544, .inl (upd (upd (upd (fun _ => 0) 8 1) 9 1) 17 (-1))))] H) (hD : va_D (fun q : Nat => s.heap.size ≤ q) [(x0, .inr (11, [.ref (u 0), .ref (u 2), .ref (u 3), .ref (u 4), .ref (u 5), .ref (u 10), .ref (u 11), .ref (u 12), .ref (u 98), .ref (u 124)])), (u 98, .inr (2, [.int 0, .int 0, .int 0, .int 0, .int 0, .int 0, .int 0, .int 0, .int 0, .ref (u 99), .ref (u 107), .ref (u 117), .ref (u 122), .ref (u 123)])), (u 107, .inr (1, [.int 0, .ref (u 108), .ref (u 109), .ref (u 110), .ref (u 111), .ref (u 112), .ref (u 113), .ref (u 114), .ref (u 115), .ref (u 116)])), (y0, .inr (12, [.int 0, .ref (v 1), .ref (v 2), .ref (v 3), .ref (v 4), .int 0, .ref (v 6), .int 0, .int 0, .int 0, .int 0, .int 0, .int 0, .int (-1), .ref (v 14), .ref (v 15), .ref (v 16), .ref (v 17), .ref (v 18), .ref (v 19), .ref (v 20), .int 0, .ref (v 22), .int 0, .ref (v 24), .ref (v 25), .int 0, .ref (v 27), .ref (v 28), .ref (v 29), .ref (v 30), .int 0, .int 0, .int 0, .int 0, .int 0, .ref (v 36), .long 0, .ref (v 38), .ref (v 39), .ref (v 40), .ref (v 41)])), (v 1, .inl (cI, 544, .inl (upd (upd (upd (fun _ => 0) 8 1) 9 1) 17 (-1))))]) (hS : va_S (fun q : Nat => s.heap.size ≤ q) s.heap H locs) (hl : lv_has ls 4 [(3, .int 0), (2, .ref y0), (1, .ref x0), (0, .ref b)]) : W p l e room_1 s m #[Value.ref b] below meth c H locs 600000 7302250 (lw_Z below #[Value.ref b] s) (F0 m 1066 ls []) := by
  obtain ⟨hx, hb, hr, hml, hown0, hts, hX, hbl, hlocks, hgv⟩ := id C0
  have hb : c.code = cL_law := hb
  have hown : s.vm.findClass RL = some m.cls := hown0
  have hwd : ∀ wd ∈ wsL_law, wd.before #[Value.ref b] s = true := fun w h => hts w (wsL_law_in w h)
  have hA : ∀ q : Nat, s.heap.size ≤ q → (fun q : Nat => s.heap.size ≤ q) q := fun _ h => h
  have hbA : ¬ (fun q : Nat => s.heap.size ≤ q) b := Nat.not_le.mpr hbl
  refine lv_aload_n hx hb dL_law_1066 rfl (lv_at hl 2 rfl) ?_
  refine lv_aload_n hx hb dL_law_1067 rfl (lv_at hl 3 rfl) ?_
  refine lv_iload_n hx hb dL_law_1068 rfl (lv_at hl 0 rfl) ?_
  refine lv_iconst (v := 1) hx hb dL_law_1069 (by decide) ?_
  refine lv_iadd hx hb dL_law_1070 ?_
  refine lv_topi (nm_r (e' := (1)) (by decide +kernel) ?_)
  refine va_sld hx hb hX hbl hbA hS (vin (by decide)) dL_law_1071 ?_
  have hPc := hP.sub (ws' := [(x0, .inr (11, [.ref (u 0), .ref (u 2), .ref (u 3), .ref (u 4), .ref (u 5), .ref (u 10), .ref (u 11), .ref (u 12), .ref (u 98), .ref (u 124)])), (u 98, .inr (2, [.int 0, .int 0, .int 0, .int 0, .int 0, .int 0, .int 0, .int 0, .int 0, .ref (u 99), .ref (u 107), .ref (u 117), .ref (u 122), .ref (u 123)])), (u 107, .inr (1, [.int 0, .ref (u 108), .ref (u 109), .ref (u 110), .ref (u 111), .ref (u 112), .ref (u 113), .ref (u 114), .ref (u 115), .ref (u 116)]))]) [0, 1, 2] rfl
  have hDc := hD.sub (ws' := [(x0, .inr (11, [.ref (u 0), .ref (u 2), .ref (u 3), .ref (u 4), .ref (u 5), .ref (u 10), .ref (u 11), .ref (u 12), .ref (u 98), .ref (u 124)])), (u 98, .inr (2, [.int 0, .int 0, .int 0, .int 0, .int 0, .int 0, .int 0, .int 0, .int 0, .ref (u 99), .ref (u 107), .ref (u 117), .ref (u 122), .ref (u 123)])), (u 107, .inr (1, [.int 0, .ref (u 108), .ref (u 109), .ref (u 110), .ref (u 111), .ref (u 112), .ref (u 113), .ref (u 114), .ref (u 115), .ref (u 116)]))]) [0, 1, 2] (by decide) rfl
  have hFc := va_free (wc := [(x0, .inr (11, [.ref (u 0), .ref (u 2), .ref (u 3), .ref (u 4), .ref (u 5), .ref (u 10), .ref (u 11), .ref (u 12), .ref (u 98), .ref (u 124)])), (u 98, .inr (2, [.int 0, .int 0, .int 0, .int 0, .int 0, .int 0, .int 0, .int 0, .int 0, .ref (u 99), .ref (u 107), .ref (u 117), .ref (u 122), .ref (u 123)])), (u 107, .inr (1, [.int 0, .ref (u 108), .ref (u 109), .ref (u 110), .ref (u 111), .ref (u 112), .ref (u 113), .ref (u 114), .ref (u 115), .ref (u 116)]))]) hD hS hA [0, 1, 2] rfl
  refine va_calli (va_runV (As := [.int (xs (1 : Int32).toNatClampNeg)]) (rest := []) ⟨hx, hb, hml, hown, hwd⟩ (c_X11_differs l dC dI cI cZ cB cJ cM x0 (u 0) (u 2) (u 3) (u 4) (u 5) (u 10) (u 11) (u 12) (u 98) (u 124) (u 99) (u 107) (u 117) (u 122) (u 123) (u 108) (u 109) (u 110) (u 111) (u 112) (u 113) (u 114) (u 115) (u 116) (xs (1 : Int32).toNatClampNeg) H.size) (cwV 1 hwd (gV kr26_7 kr26_8 kr26_9 kr1_2 kr26_10) rfl rfl rfl (by decide +kernel) ⟨Nat.le_of_ble_eq_true rfl, Nat.le_of_ble_eq_true rfl⟩) (kPreV hPc hK hDc (ci := 11) (q0 := 0) rfl rfl) rfl rfl hl.1 rfl (lv_room (Nat.le_of_ble_eq_true rfl)) dL_law_1072 ⟨Nat.le_of_ble_eq_true rfl, Nat.le_of_ble_eq_true rfl⟩) hS (fun q _ h => hFc q h) hFc (fun r1 u2 t H1 locs ht9 hvm hw hB hz1 hk1 hS => ?_)
  obtain ⟨hP, hD⟩ := va_join (wr := [(y0, .inr (12, [.int 0, .ref (v 1), .ref (v 2), .ref (v 3), .ref (v 4), .int 0, .ref (v 6), .int 0, .int 0, .int 0, .int 0, .int 0, .int 0, .int (-1), .ref (v 14), .ref (v 15), .ref (v 16), .ref (v 17), .ref (v 18), .ref (v 19), .ref (v 20), .int 0, .ref (v 22), .int 0, .ref (v 24), .ref (v 25), .int 0, .ref (v 27), .ref (v 28), .ref (v 29), .ref (v 30), .int 0, .int 0, .int 0, .int 0, .int 0, .ref (v 36), .long 0, .ref (v 38), .ref (v 39), .ref (v 40), .ref (v 41)])), (v 1, .inl (cI, 544, .inl (upd (upd (upd (fun _ => 0) 8 1) 9 1) 17 (-1))))]) (w1 := []) hP hD [0, 1, 2] [3, 4] rfl rfl (by decide) (by decide) hk1 hFc kP0 kD0
  generalize H1 = H at hP hS ⊢
  have hP : va_P (dC, dI) vwCl [(y0, .inr (12, [.int 0, .ref (v 1), .ref (v 2), .ref (v 3), .ref (v 4), .int 0, .ref (v 6), .int 0, .int 0, .int 0, .int 0, .int 0, .int 0, .int (-1), .ref (v 14), .ref (v 15), .ref (v 16), .ref (v 17), .ref (v 18), .ref (v 19), .ref (v 20), .int 0, .ref (v 22), .int 0, .ref (v 24), .ref (v 25), .int 0, .ref (v 27), .ref (v 28), .ref (v 29), .ref (v 30), .int 0, .int 0, .int 0, .int 0, .int 0, .ref (v 36), .long 0, .ref (v 38), .ref (v 39), .ref (v 40), .ref (v 41)])), (v 1, .inl (cI, 544, .inl (upd (upd (upd (fun _ => 0) 8 1) 9 1) 17 (-1))))] H := hP
  have hD : va_D (fun q : Nat => s.heap.size ≤ q) [(y0, .inr (12, [.int 0, .ref (v 1), .ref (v 2), .ref (v 3), .ref (v 4), .int 0, .ref (v 6), .int 0, .int 0, .int 0, .int 0, .int 0, .int 0, .int (-1), .ref (v 14), .ref (v 15), .ref (v 16), .ref (v 17), .ref (v 18), .ref (v 19), .ref (v 20), .int 0, .ref (v 22), .int 0, .ref (v 24), .ref (v 25), .int 0, .ref (v 27), .ref (v 28), .ref (v 29), .ref (v 30), .int 0, .int 0, .int 0, .int 0, .int 0, .ref (v 36), .long 0, .ref (v 38), .ref (v 39), .ref (v 40), .ref (v 41)])), (v 1, .inl (cI, 544, .inl (upd (upd (upd (fun _ => 0) 8 1) 9 1) 17 (-1))))] := hD
  subst hw
  refine lv_aload_n hx hb dL_law_1075 rfl (lv_at hl 1 rfl) ?_
  refine lv_aload_n hx hb dL_law_1076 rfl (lv_at hl 3 rfl) ?_
  refine lv_iload_n hx hb dL_law_1077 rfl (lv_at hl 0 rfl) ?_
  refine lv_iconst (v := 1) hx hb dL_law_1078 (by decide) ?_
  refine lv_iadd hx hb dL_law_1079 ?_
  refine lv_topi (nm_r (e' := (1)) (by decide +kernel) ?_)
  refine va_sld hx hb hX hbl hbA hS (vin (by decide)) dL_law_1080 ?_
  have hPc := hP.sub (ws' := [(y0, .inr (12, [.int 0, .ref (v 1), .ref (v 2), .ref (v 3), .ref (v 4), .int 0, .ref (v 6), .int 0, .int 0, .int 0, .int 0, .int 0, .int 0, .int (-1), .ref (v 14), .ref (v 15), .ref (v 16), .ref (v 17), .ref (v 18), .ref (v 19), .ref (v 20), .int 0, .ref (v 22), .int 0, .ref (v 24), .ref (v 25), .int 0, .ref (v 27), .ref (v 28), .ref (v 29), .ref (v 30), .int 0, .int 0, .int 0, .int 0, .int 0, .ref (v 36), .long 0, .ref (v 38), .ref (v 39), .ref (v 40), .ref (v 41)])), (v 1, .inl (cI, 544, .inl (upd (upd (upd (fun _ => 0) 8 1) 9 1) 17 (-1))))]) [0, 1] rfl
  have hDc := hD.sub (ws' := [(y0, .inr (12, [.int 0, .ref (v 1), .ref (v 2), .ref (v 3), .ref (v 4), .int 0, .ref (v 6), .int 0, .int 0, .int 0, .int 0, .int 0, .int 0, .int (-1), .ref (v 14), .ref (v 15), .ref (v 16), .ref (v 17), .ref (v 18), .ref (v 19), .ref (v 20), .int 0, .ref (v 22), .int 0, .ref (v 24), .ref (v 25), .int 0, .ref (v 27), .ref (v 28), .ref (v 29), .ref (v 30), .int 0, .int 0, .int 0, .int 0, .int 0, .ref (v 36), .long 0, .ref (v 38), .ref (v 39), .ref (v 40), .ref (v 41)])), (v 1, .inl (cI, 544, .inl (upd (upd (upd (fun _ => 0) 8 1) 9 1) 17 (-1))))]) [0, 1] (by decide) rfl
  have hFc := va_free (wc := [(y0, .inr (12, [.int 0, .ref (v 1), .ref (v 2), .ref (v 3), .ref (v 4), .int 0, .ref (v 6), .int 0, .int 0, .int 0, .int 0, .int 0, .int 0, .int (-1), .ref (v 14), .ref (v 15), .ref (v 16), .ref (v 17), .ref (v 18), .ref (v 19), .ref (v 20), .int 0, .ref (v 22), .int 0, .ref (v 24), .ref (v 25), .int 0, .ref (v 27), .ref (v 28), .ref (v 29), .ref (v 30), .int 0, .int 0, .int 0, .int 0, .int 0, .ref (v 36), .long 0, .ref (v 38), .ref (v 39), .ref (v 40), .ref (v 41)])), (v 1, .inl (cI, 544, .inl (upd (upd (upd (fun _ => 0) 8 1) 9 1) 17 (-1))))]) hD hS hA [0, 1] rfl
  refine va_calli (va_runV (As := [.int (xs (1 : Int32).toNatClampNeg)]) (rest := [.int (-2)]) ⟨hx, hb, hml, hown, hwd⟩ (c_X12_differs l dC dI cI cZ cB cJ cM y0 v (xs (1 : Int32).toNatClampNeg) H.size) (cwV 1 hwd (gV kr26_11 kr26_12 kr26_13 kr1_5 kr26_14) rfl rfl rfl (by decide +kernel) ⟨Nat.le_of_ble_eq_true rfl, Nat.le_of_ble_eq_true rfl⟩) (kPreV hPc hK hDc (ci := 12) (q0 := 0) rfl rfl) rfl rfl hl.1 rfl (lv_room (Nat.le_of_ble_eq_true rfl)) dL_law_1081 ⟨Nat.le_of_ble_eq_true rfl, Nat.le_of_ble_eq_true rfl⟩) hS (fun q _ h => hFc q h) hFc (fun r3 u4 t H1 locs ht9 hvm hw hB hz1 hk1 hS => ?_)
  obtain ⟨hP, hD⟩ := va_join (wr := []) (w1 := []) hP hD [0, 1] [] rfl rfl (by decide) (by decide) hk1 hFc kP0 kD0
  generalize H1 = H at hP hS ⊢
  have hP : va_P (dC, dI) vwCl [] H := hP
  have hD : va_D (fun q : Nat => s.heap.size ≤ q) [] := hD
  subst hw
  refine lv_icmp_eq (tgt := 1731) hx hb dL_law_1084 (by decide) (fun c5 => ?_) (fun c5 => absurd c5 (by decide))
  exact law_tail C0 hS (lv_sub hl [3, 0] rfl)
set_option maxHeartbeats 4000000 in
set_option maxRecDepth 100000 in
/-- the call of phase on two fresh objects -/
theorem lcase_31 {p : Program} {l : Launch} {e : Env} {s : State} {m : MethodId} {below : List Frame} {meth : Method} {c : Code} {b : Nat} {xs : Nat → Int32} {dC : Nat → ClassId} {dI : Nat → Nat → Nat} {cI cZ cB cJ cM : ClassId} (x0 y0 : Nat) (u v : Nat → Nat) {H : Heap} {locs : List Loc} {ls : Array Slot} (C0 : lw_At p s m meth c b 6 xs) (hK : va_K (dC, dI) vwCl [(cI, .int), (cZ, .boolean), (cB, .byte), (cJ, .long), (cM, .object RX2)] s) (hP : va_P (dC, dI) vwCl [(x0, .inr (11, [.ref (u 0), .ref (u 2), .ref (u 3), .ref (u 4), .ref (u 5), .ref (u 10), .ref (u 11), .ref (u 12), .ref (u 98), .ref (u 124)])), (u 98, .inr (2, [.int 0, .int 0, .int 0, .int 0, .int 0, .int 0, .int 0, .int 0, .int 0, .ref (u 99), .ref (u 107), .ref (u 117), .ref (u 122), .ref (u 123)])), (u 107, .inr (1, [.int 0, .ref (u 108), .ref (u 109), .ref (u 110), .ref (u 111), .ref (u 112), .ref (u 113), .ref (u 114), .ref (u 115), .ref (u 116)])), (y0, .inr (12, [.int 0, .ref (v 1), .ref (v 2), .ref (v 3), .ref (v 4), .int 0, .ref (v 6), .int 0, .int 0, .int 0, .int 0, .int 0, .int 0, .int (-1), .ref (v 14), .ref (v 15), .ref (v 16), .ref (v 17), .ref (v 18), .ref (v 19), .ref (v 20), .int 0, .ref (v 22), .int 0, .ref (v 24), .ref (v 25), .int 0, .ref (v 27), .ref (v 28), .ref (v 29), .ref (v 30), .int 0, .int 0, .int 0, .int 0, .int 0, .ref (v 36), .long 0, .ref (v 38), .ref (v 39), .ref (v 40), .ref (v 41)])), (v 1, .inl (cI, 544, .inl (upd (upd (upd (fun _ => 0) 8 1) 9 1) 17 (-1))))] H) (hD : va_D (fun q : Nat => s.heap.size ≤ q) [(x0, .inr (11, [.ref (u 0), .ref (u 2), .ref (u 3), .ref (u 4), .ref (u 5), .ref (u 10), .ref (u 11), .ref (u 12), .ref (u 98), .ref (u 124)])), (u 98, .inr (2, [.int 0, .int 0, .int 0, .int 0, .int 0, .int 0, .int 0, .int 0, .int 0, .ref (u 99), .ref (u 107), .ref (u 117), .ref (u 122), .ref (u 123)])), (u 107, .inr (1, [.int 0, .ref (u 108), .ref (u 109), .ref (u 110), .ref (u 111), .ref (u 112), .ref (u 113), .ref (u 114), .ref (u 115), .ref (u 116)])), (y0, .inr (12, [.int 0, .ref (v 1), .ref (v 2), .ref (v 3), .ref (v 4), .int 0, .ref (v 6), .int 0, .int 0, .int 0, .int 0, .int 0, .int 0, .int (-1), .ref (v 14), .ref (v 15), .ref (v 16), .ref (v 17), .ref (v 18), .ref (v 19), .ref (v 20), .int 0, .ref (v 22), .int 0, .ref (v 24), .ref (v 25), .int 0, .ref (v 27), .ref (v 28), .ref (v 29), .ref (v 30), .int 0, .int 0, .int 0, .int 0, .int 0, .ref (v 36), .long 0, .ref (v 38), .ref (v 39), .ref (v 40), .ref (v 41)])), (v 1, .inl (cI, 544, .inl (upd (upd (upd (fun _ => 0) 8 1) 9 1) 17 (-1))))]) (hS : va_S (fun q : Nat => s.heap.size ≤ q) s.heap H locs) (hl : lv_has ls 4 [(3, .int 0), (2, .ref y0), (1, .ref x0), (0, .ref b)]) : W p l e room_1 s m #[Value.ref b] below meth c H locs 600000 7302250 (lw_Z below #[Value.ref b] s) (F0 m 1089 ls []) := by
  obtain ⟨hx, hb, hr, hml, hown0, hts, hX, hbl, hlocks, hgv⟩ := id C0
  have hb : c.code = cL_law := hb
  have hown : s.vm.findClass RL = some m.cls := hown0
  have hwd : ∀ wd ∈ wsL_law, wd.before #[Value.ref b] s = true := fun w h => hts w (wsL_law_in w h)
  have hA : ∀ q : Nat, s.heap.size ≤ q → (fun q : Nat => s.heap.size ≤ q) q := fun _ h => h
  have hbA : ¬ (fun q : Nat => s.heap.size ≤ q) b := Nat.not_le.mpr hbl
  refine lv_aload_n hx hb dL_law_1089 rfl (lv_at hl 2 rfl) ?_
  refine lv_aload_n hx hb dL_law_1090 rfl (lv_at hl 3 rfl) ?_
  refine lv_iload_n hx hb dL_law_1091 rfl (lv_at hl 0 rfl) ?_
  refine lv_iconst (v := 1) hx hb dL_law_1092 (by decide) ?_
  refine lv_iadd hx hb dL_law_1093 ?_
  refine lv_topi (nm_r (e' := (1)) (by decide +kernel) ?_)
  refine va_sld hx hb hX hbl hbA hS (vin (by decide)) dL_law_1094 ?_
  have hPc := hP.sub (ws' := [(x0, .inr (11, [.ref (u 0), .ref (u 2), .ref (u 3), .ref (u 4), .ref (u 5), .ref (u 10), .ref (u 11), .ref (u 12), .ref (u 98), .ref (u 124)])), (u 98, .inr (2, [.int 0, .int 0, .int 0, .int 0, .int 0, .int 0, .int 0, .int 0, .int 0, .ref (u 99), .ref (u 107), .ref (u 117), .ref (u 122), .ref (u 123)])), (u 107, .inr (1, [.int 0, .ref (u 108), .ref (u 109), .ref (u 110), .ref (u 111), .ref (u 112), .ref (u 113), .ref (u 114), .ref (u 115), .ref (u 116)]))]) [0, 1, 2] rfl
  have hDc := hD.sub (ws' := [(x0, .inr (11, [.ref (u 0), .ref (u 2), .ref (u 3), .ref (u 4), .ref (u 5), .ref (u 10), .ref (u 11), .ref (u 12), .ref (u 98), .ref (u 124)])), (u 98, .inr (2, [.int 0, .int 0, .int 0, .int 0, .int 0, .int 0, .int 0, .int 0, .int 0, .ref (u 99), .ref (u 107), .ref (u 117), .ref (u 122), .ref (u 123)])), (u 107, .inr (1, [.int 0, .ref (u 108), .ref (u 109), .ref (u 110), .ref (u 111), .ref (u 112), .ref (u 113), .ref (u 114), .ref (u 115), .ref (u 116)]))]) [0, 1, 2] (by decide) rfl
  have hFc := va_free (wc := [(x0, .inr (11, [.ref (u 0), .ref (u 2), .ref (u 3), .ref (u 4), .ref (u 5), .ref (u 10), .ref (u 11), .ref (u 12), .ref (u 98), .ref (u 124)])), (u 98, .inr (2, [.int 0, .int 0, .int 0, .int 0, .int 0, .int 0, .int 0, .int 0, .int 0, .ref (u 99), .ref (u 107), .ref (u 117), .ref (u 122), .ref (u 123)])), (u 107, .inr (1, [.int 0, .ref (u 108), .ref (u 109), .ref (u 110), .ref (u 111), .ref (u 112), .ref (u 113), .ref (u 114), .ref (u 115), .ref (u 116)]))]) hD hS hA [0, 1, 2] rfl
  refine va_calli (va_runV (As := [.int (xs (1 : Int32).toNatClampNeg)]) (rest := []) ⟨hx, hb, hml, hown, hwd⟩ (c_X11_phase l dC dI cI cZ cB cJ cM x0 (u 0) (u 2) (u 3) (u 4) (u 5) (u 10) (u 11) (u 12) (u 98) (u 124) (u 99) (u 107) (u 117) (u 122) (u 123) (u 108) (u 109) (u 110) (u 111) (u 112) (u 113) (u 114) (u 115) (u 116) (xs (1 : Int32).toNatClampNeg) H.size) (cwV 1 hwd (gV kr26_15 kr26_16 kr26_17 kr1_2 kr26_18) rfl rfl rfl (by decide +kernel) ⟨Nat.le_of_ble_eq_true rfl, Nat.le_of_ble_eq_true rfl⟩) (kPreV hPc hK hDc (ci := 11) (q0 := 0) rfl rfl) rfl rfl hl.1 rfl (lv_room (Nat.le_of_ble_eq_true rfl)) dL_law_1095 ⟨Nat.le_of_ble_eq_true rfl, Nat.le_of_ble_eq_true rfl⟩) hS (fun q _ h => hFc q h) hFc (fun r1 u2 t H1 locs ht9 hvm hw hB hz1 hk1 hS => ?_)
  obtain ⟨hP, hD⟩ := va_join (wr := [(y0, .inr (12, [.int 0, .ref (v 1), .ref (v 2), .ref (v 3), .ref (v 4), .int 0, .ref (v 6), .int 0, .int 0, .int 0, .int 0, .int 0, .int 0, .int (-1), .ref (v 14), .ref (v 15), .ref (v 16), .ref (v 17), .ref (v 18), .ref (v 19), .ref (v 20), .int 0, .ref (v 22), .int 0, .ref (v 24), .ref (v 25), .int 0, .ref (v 27), .ref (v 28), .ref (v 29), .ref (v 30), .int 0, .int 0, .int 0, .int 0, .int 0, .ref (v 36), .long 0, .ref (v 38), .ref (v 39), .ref (v 40), .ref (v 41)])), (v 1, .inl (cI, 544, .inl (upd (upd (upd (fun _ => 0) 8 1) 9 1) 17 (-1))))]) (w1 := []) hP hD [0, 1, 2] [3, 4] rfl rfl (by decide) (by decide) hk1 hFc kP0 kD0
  generalize H1 = H at hP hS ⊢
  have hP : va_P (dC, dI) vwCl [(y0, .inr (12, [.int 0, .ref (v 1), .ref (v 2), .ref (v 3), .ref (v 4), .int 0, .ref (v 6), .int 0, .int 0, .int 0, .int 0, .int 0, .int 0, .int (-1), .ref (v 14), .ref (v 15), .ref (v 16), .ref (v 17), .ref (v 18), .ref (v 19), .ref (v 20), .int 0, .ref (v 22), .int 0, .ref (v 24), .ref (v 25), .int 0, .ref (v 27), .ref (v 28), .ref (v 29), .ref (v 30), .int 0, .int 0, .int 0, .int 0, .int 0, .ref (v 36), .long 0, .ref (v 38), .ref (v 39), .ref (v 40), .ref (v 41)])), (v 1, .inl (cI, 544, .inl (upd (upd (upd (fun _ => 0) 8 1) 9 1) 17 (-1))))] H := hP
  have hD : va_D (fun q : Nat => s.heap.size ≤ q) [(y0, .inr (12, [.int 0, .ref (v 1), .ref (v 2), .ref (v 3), .ref (v 4), .int 0, .ref (v 6), .int 0, .int 0, .int 0, .int 0, .int 0, .int 0, .int (-1), .ref (v 14), .ref (v 15), .ref (v 16), .ref (v 17), .ref (v 18), .ref (v 19), .ref (v 20), .int 0, .ref (v 22), .int 0, .ref (v 24), .ref (v 25), .int 0, .ref (v 27), .ref (v 28), .ref (v 29), .ref (v 30), .int 0, .int 0, .int 0, .int 0, .int 0, .ref (v 36), .long 0, .ref (v 38), .ref (v 39), .ref (v 40), .ref (v 41)])), (v 1, .inl (cI, 544, .inl (upd (upd (upd (fun _ => 0) 8 1) 9 1) 17 (-1))))] := hD
  subst hw
  refine lv_aload_n hx hb dL_law_1098 rfl (lv_at hl 1 rfl) ?_
  refine lv_aload_n hx hb dL_law_1099 rfl (lv_at hl 3 rfl) ?_
  refine lv_iload_n hx hb dL_law_1100 rfl (lv_at hl 0 rfl) ?_
  refine lv_iconst (v := 1) hx hb dL_law_1101 (by decide) ?_
  refine lv_iadd hx hb dL_law_1102 ?_
  refine lv_topi (nm_r (e' := (1)) (by decide +kernel) ?_)
  refine va_sld hx hb hX hbl hbA hS (vin (by decide)) dL_law_1103 ?_
  have hPc := hP.sub (ws' := [(y0, .inr (12, [.int 0, .ref (v 1), .ref (v 2), .ref (v 3), .ref (v 4), .int 0, .ref (v 6), .int 0, .int 0, .int 0, .int 0, .int 0, .int 0, .int (-1), .ref (v 14), .ref (v 15), .ref (v 16), .ref (v 17), .ref (v 18), .ref (v 19), .ref (v 20), .int 0, .ref (v 22), .int 0, .ref (v 24), .ref (v 25), .int 0, .ref (v 27), .ref (v 28), .ref (v 29), .ref (v 30), .int 0, .int 0, .int 0, .int 0, .int 0, .ref (v 36), .long 0, .ref (v 38), .ref (v 39), .ref (v 40), .ref (v 41)])), (v 1, .inl (cI, 544, .inl (upd (upd (upd (fun _ => 0) 8 1) 9 1) 17 (-1))))]) [0, 1] rfl
  have hDc := hD.sub (ws' := [(y0, .inr (12, [.int 0, .ref (v 1), .ref (v 2), .ref (v 3), .ref (v 4), .int 0, .ref (v 6), .int 0, .int 0, .int 0, .int 0, .int 0, .int 0, .int (-1), .ref (v 14), .ref (v 15), .ref (v 16), .ref (v 17), .ref (v 18), .ref (v 19), .ref (v 20), .int 0, .ref (v 22), .int 0, .ref (v 24), .ref (v 25), .int 0, .ref (v 27), .ref (v 28), .ref (v 29), .ref (v 30), .int 0, .int 0, .int 0, .int 0, .int 0, .ref (v 36), .long 0, .ref (v 38), .ref (v 39), .ref (v 40), .ref (v 41)])), (v 1, .inl (cI, 544, .inl (upd (upd (upd (fun _ => 0) 8 1) 9 1) 17 (-1))))]) [0, 1] (by decide) rfl
  have hFc := va_free (wc := [(y0, .inr (12, [.int 0, .ref (v 1), .ref (v 2), .ref (v 3), .ref (v 4), .int 0, .ref (v 6), .int 0, .int 0, .int 0, .int 0, .int 0, .int 0, .int (-1), .ref (v 14), .ref (v 15), .ref (v 16), .ref (v 17), .ref (v 18), .ref (v 19), .ref (v 20), .int 0, .ref (v 22), .int 0, .ref (v 24), .ref (v 25), .int 0, .ref (v 27), .ref (v 28), .ref (v 29), .ref (v 30), .int 0, .int 0, .int 0, .int 0, .int 0, .ref (v 36), .long 0, .ref (v 38), .ref (v 39), .ref (v 40), .ref (v 41)])), (v 1, .inl (cI, 544, .inl (upd (upd (upd (fun _ => 0) 8 1) 9 1) 17 (-1))))]) hD hS hA [0, 1] rfl
  refine va_calli (va_runV (As := [.int (xs (1 : Int32).toNatClampNeg)]) (rest := [.int (-2)]) ⟨hx, hb, hml, hown, hwd⟩ (c_X12_phase l dC dI cI cZ cB cJ cM y0 v (xs (1 : Int32).toNatClampNeg) H.size) (cwV 1 hwd (gV kr26_19 kr26_20 kr26_21 kr1_5 kr26_22) rfl rfl rfl (by decide +kernel) ⟨Nat.le_of_ble_eq_true rfl, Nat.le_of_ble_eq_true rfl⟩) (kPreV hPc hK hDc (ci := 12) (q0 := 0) rfl rfl) rfl rfl hl.1 rfl (lv_room (Nat.le_of_ble_eq_true rfl)) dL_law_1104 ⟨Nat.le_of_ble_eq_true rfl, Nat.le_of_ble_eq_true rfl⟩) hS (fun q _ h => hFc q h) hFc (fun r3 u4 t H1 locs ht9 hvm hw hB hz1 hk1 hS => ?_)
  obtain ⟨hP, hD⟩ := va_join (wr := []) (w1 := []) hP hD [0, 1] [] rfl rfl (by decide) (by decide) hk1 hFc kP0 kD0
  generalize H1 = H at hP hS ⊢
  have hP : va_P (dC, dI) vwCl [] H := hP
  have hD : va_D (fun q : Nat => s.heap.size ≤ q) [] := hD
  subst hw
  refine lv_icmp_eq (tgt := 1731) hx hb dL_law_1107 (by decide) (fun c5 => ?_) (fun c5 => absurd c5 (by decide))
  exact law_tail C0 hS (lv_sub hl [3, 0] rfl)
set_option maxHeartbeats 4000000 in
set_option maxRecDepth 100000 in
/-- the call of nearest on two fresh objects -/
theorem lcase_32 {p : Program} {l : Launch} {e : Env} {s : State} {m : MethodId} {below : List Frame} {meth : Method} {c : Code} {b : Nat} {xs : Nat → Int32} {dC : Nat → ClassId} {dI : Nat → Nat → Nat} {cI cZ cB cJ cM : ClassId} (x0 y0 : Nat) (u v : Nat → Nat) {H : Heap} {locs : List Loc} {ls : Array Slot} (C0 : lw_At p s m meth c b 6 xs) (hK : va_K (dC, dI) vwCl [(cI, .int), (cZ, .boolean), (cB, .byte), (cJ, .long), (cM, .object RX2)] s) (hP : va_P (dC, dI) vwCl [(x0, .inr (11, [.ref (u 0), .ref (u 2), .ref (u 3), .ref (u 4), .ref (u 5), .ref (u 10), .ref (u 11), .ref (u 12), .ref (u 98), .ref (u 124)])), (u 98, .inr (2, [.int 0, .int 0, .int 0, .int 0, .int 0, .int 0, .int 0, .int 0, .int 0, .ref (u 99), .ref (u 107), .ref (u 117), .ref (u 122), .ref (u 123)])), (y0, .inr (12, [.int 0, .ref (v 1), .ref (v 2), .ref (v 3), .ref (v 4), .int 0, .ref (v 6), .int 0, .int 0, .int 0, .int 0, .int 0, .int 0, .int (-1), .ref (v 14), .ref (v 15), .ref (v 16), .ref (v 17), .ref (v 18), .ref (v 19), .ref (v 20), .int 0, .ref (v 22), .int 0, .ref (v 24), .ref (v 25), .int 0, .ref (v 27), .ref (v 28), .ref (v 29), .ref (v 30), .int 0, .int 0, .int 0, .int 0, .int 0, .ref (v 36), .long 0, .ref (v 38), .ref (v 39), .ref (v 40), .ref (v 41)])), (v 1, .inl (cI, 544, .inl (upd (upd (upd (fun _ => 0) 8 1) 9 1) 17 (-1))))] H) (hD : va_D (fun q : Nat => s.heap.size ≤ q) [(x0, .inr (11, [.ref (u 0), .ref (u 2), .ref (u 3), .ref (u 4), .ref (u 5), .ref (u 10), .ref (u 11), .ref (u 12), .ref (u 98), .ref (u 124)])), (u 98, .inr (2, [.int 0, .int 0, .int 0, .int 0, .int 0, .int 0, .int 0, .int 0, .int 0, .ref (u 99), .ref (u 107), .ref (u 117), .ref (u 122), .ref (u 123)])), (y0, .inr (12, [.int 0, .ref (v 1), .ref (v 2), .ref (v 3), .ref (v 4), .int 0, .ref (v 6), .int 0, .int 0, .int 0, .int 0, .int 0, .int 0, .int (-1), .ref (v 14), .ref (v 15), .ref (v 16), .ref (v 17), .ref (v 18), .ref (v 19), .ref (v 20), .int 0, .ref (v 22), .int 0, .ref (v 24), .ref (v 25), .int 0, .ref (v 27), .ref (v 28), .ref (v 29), .ref (v 30), .int 0, .int 0, .int 0, .int 0, .int 0, .ref (v 36), .long 0, .ref (v 38), .ref (v 39), .ref (v 40), .ref (v 41)])), (v 1, .inl (cI, 544, .inl (upd (upd (upd (fun _ => 0) 8 1) 9 1) 17 (-1))))]) (hS : va_S (fun q : Nat => s.heap.size ≤ q) s.heap H locs) (hl : lv_has ls 4 [(3, .int 0), (2, .ref y0), (1, .ref x0), (0, .ref b)]) : W p l e room_1 s m #[Value.ref b] below meth c H locs 600000 7302250 (lw_Z below #[Value.ref b] s) (F0 m 1112 ls []) := by
  obtain ⟨hx, hb, hr, hml, hown0, hts, hX, hbl, hlocks, hgv⟩ := id C0
  have hb : c.code = cL_law := hb
  have hown : s.vm.findClass RL = some m.cls := hown0
  have hwd : ∀ wd ∈ wsL_law, wd.before #[Value.ref b] s = true := fun w h => hts w (wsL_law_in w h)
  have hA : ∀ q : Nat, s.heap.size ≤ q → (fun q : Nat => s.heap.size ≤ q) q := fun _ h => h
  have hbA : ¬ (fun q : Nat => s.heap.size ≤ q) b := Nat.not_le.mpr hbl
  refine lv_aload_n hx hb dL_law_1112 rfl (lv_at hl 2 rfl) ?_
  have hPc := hP.sub (ws' := [(x0, .inr (11, [.ref (u 0), .ref (u 2), .ref (u 3), .ref (u 4), .ref (u 5), .ref (u 10), .ref (u 11), .ref (u 12), .ref (u 98), .ref (u 124)])), (u 98, .inr (2, [.int 0, .int 0, .int 0, .int 0, .int 0, .int 0, .int 0, .int 0, .int 0, .ref (u 99), .ref (u 107), .ref (u 117), .ref (u 122), .ref (u 123)]))]) [0, 1] rfl
  have hDc := hD.sub (ws' := [(x0, .inr (11, [.ref (u 0), .ref (u 2), .ref (u 3), .ref (u 4), .ref (u 5), .ref (u 10), .ref (u 11), .ref (u 12), .ref (u 98), .ref (u 124)])), (u 98, .inr (2, [.int 0, .int 0, .int 0, .int 0, .int 0, .int 0, .int 0, .int 0, .int 0, .ref (u 99), .ref (u 107), .ref (u 117), .ref (u 122), .ref (u 123)]))]) [0, 1] (by decide) rfl
  have hFc := va_free (wc := [(x0, .inr (11, [.ref (u 0), .ref (u 2), .ref (u 3), .ref (u 4), .ref (u 5), .ref (u 10), .ref (u 11), .ref (u 12), .ref (u 98), .ref (u 124)])), (u 98, .inr (2, [.int 0, .int 0, .int 0, .int 0, .int 0, .int 0, .int 0, .int 0, .int 0, .ref (u 99), .ref (u 107), .ref (u 117), .ref (u 122), .ref (u 123)]))]) hD hS hA [0, 1] rfl
  refine va_calli (va_runV (As := []) (rest := []) ⟨hx, hb, hml, hown, hwd⟩ (c_X11_nearest l dC dI cI cZ cB cJ cM x0 (u 0) (u 2) (u 3) (u 4) (u 5) (u 10) (u 11) (u 12) (u 98) (u 124) (u 99) (u 107) (u 117) (u 122) (u 123) H.size) (cwV 0 hwd (gV kr26_23 kr27_0 kr27_1 kr1_2 kr27_2) rfl rfl rfl (by decide +kernel) ⟨Nat.le_of_ble_eq_true rfl, Nat.le_of_ble_eq_true rfl⟩) (kPreV hPc hK hDc (ci := 11) (q0 := 0) rfl rfl) rfl rfl hl.1 rfl (lv_room (Nat.le_of_ble_eq_true rfl)) dL_law_1113 ⟨Nat.le_of_ble_eq_true rfl, Nat.le_of_ble_eq_true rfl⟩) hS (fun q _ h => hFc q h) hFc (fun r1 u2 t H1 locs ht9 hvm hw hB hz1 hk1 hS => ?_)
  obtain ⟨hP, hD⟩ := va_join (wr := [(y0, .inr (12, [.int 0, .ref (v 1), .ref (v 2), .ref (v 3), .ref (v 4), .int 0, .ref (v 6), .int 0, .int 0, .int 0, .int 0, .int 0, .int 0, .int (-1), .ref (v 14), .ref (v 15), .ref (v 16), .ref (v 17), .ref (v 18), .ref (v 19), .ref (v 20), .int 0, .ref (v 22), .int 0, .ref (v 24), .ref (v 25), .int 0, .ref (v 27), .ref (v 28), .ref (v 29), .ref (v 30), .int 0, .int 0, .int 0, .int 0, .int 0, .ref (v 36), .long 0, .ref (v 38), .ref (v 39), .ref (v 40), .ref (v 41)])), (v 1, .inl (cI, 544, .inl (upd (upd (upd (fun _ => 0) 8 1) 9 1) 17 (-1))))]) (w1 := []) hP hD [0, 1] [2, 3] rfl rfl (by decide) (by decide) hk1 hFc kP0 kD0
  generalize H1 = H at hP hS ⊢
  have hP : va_P (dC, dI) vwCl [(y0, .inr (12, [.int 0, .ref (v 1), .ref (v 2), .ref (v 3), .ref (v 4), .int 0, .ref (v 6), .int 0, .int 0, .int 0, .int 0, .int 0, .int 0, .int (-1), .ref (v 14), .ref (v 15), .ref (v 16), .ref (v 17), .ref (v 18), .ref (v 19), .ref (v 20), .int 0, .ref (v 22), .int 0, .ref (v 24), .ref (v 25), .int 0, .ref (v 27), .ref (v 28), .ref (v 29), .ref (v 30), .int 0, .int 0, .int 0, .int 0, .int 0, .ref (v 36), .long 0, .ref (v 38), .ref (v 39), .ref (v 40), .ref (v 41)])), (v 1, .inl (cI, 544, .inl (upd (upd (upd (fun _ => 0) 8 1) 9 1) 17 (-1))))] H := hP
  have hD : va_D (fun q : Nat => s.heap.size ≤ q) [(y0, .inr (12, [.int 0, .ref (v 1), .ref (v 2), .ref (v 3), .ref (v 4), .int 0, .ref (v 6), .int 0, .int 0, .int 0, .int 0, .int 0, .int 0, .int (-1), .ref (v 14), .ref (v 15), .ref (v 16), .ref (v 17), .ref (v 18), .ref (v 19), .ref (v 20), .int 0, .ref (v 22), .int 0, .ref (v 24), .ref (v 25), .int 0, .ref (v 27), .ref (v 28), .ref (v 29), .ref (v 30), .int 0, .int 0, .int 0, .int 0, .int 0, .ref (v 36), .long 0, .ref (v 38), .ref (v 39), .ref (v 40), .ref (v 41)])), (v 1, .inl (cI, 544, .inl (upd (upd (upd (fun _ => 0) 8 1) 9 1) 17 (-1))))] := hD
  subst hw
  refine lv_aload_n hx hb dL_law_1116 rfl (lv_at hl 1 rfl) ?_
  have hPc := hP.sub (ws' := [(y0, .inr (12, [.int 0, .ref (v 1), .ref (v 2), .ref (v 3), .ref (v 4), .int 0, .ref (v 6), .int 0, .int 0, .int 0, .int 0, .int 0, .int 0, .int (-1), .ref (v 14), .ref (v 15), .ref (v 16), .ref (v 17), .ref (v 18), .ref (v 19), .ref (v 20), .int 0, .ref (v 22), .int 0, .ref (v 24), .ref (v 25), .int 0, .ref (v 27), .ref (v 28), .ref (v 29), .ref (v 30), .int 0, .int 0, .int 0, .int 0, .int 0, .ref (v 36), .long 0, .ref (v 38), .ref (v 39), .ref (v 40), .ref (v 41)])), (v 1, .inl (cI, 544, .inl (upd (upd (upd (fun _ => 0) 8 1) 9 1) 17 (-1))))]) [0, 1] rfl
  have hDc := hD.sub (ws' := [(y0, .inr (12, [.int 0, .ref (v 1), .ref (v 2), .ref (v 3), .ref (v 4), .int 0, .ref (v 6), .int 0, .int 0, .int 0, .int 0, .int 0, .int 0, .int (-1), .ref (v 14), .ref (v 15), .ref (v 16), .ref (v 17), .ref (v 18), .ref (v 19), .ref (v 20), .int 0, .ref (v 22), .int 0, .ref (v 24), .ref (v 25), .int 0, .ref (v 27), .ref (v 28), .ref (v 29), .ref (v 30), .int 0, .int 0, .int 0, .int 0, .int 0, .ref (v 36), .long 0, .ref (v 38), .ref (v 39), .ref (v 40), .ref (v 41)])), (v 1, .inl (cI, 544, .inl (upd (upd (upd (fun _ => 0) 8 1) 9 1) 17 (-1))))]) [0, 1] (by decide) rfl
  have hFc := va_free (wc := [(y0, .inr (12, [.int 0, .ref (v 1), .ref (v 2), .ref (v 3), .ref (v 4), .int 0, .ref (v 6), .int 0, .int 0, .int 0, .int 0, .int 0, .int 0, .int (-1), .ref (v 14), .ref (v 15), .ref (v 16), .ref (v 17), .ref (v 18), .ref (v 19), .ref (v 20), .int 0, .ref (v 22), .int 0, .ref (v 24), .ref (v 25), .int 0, .ref (v 27), .ref (v 28), .ref (v 29), .ref (v 30), .int 0, .int 0, .int 0, .int 0, .int 0, .ref (v 36), .long 0, .ref (v 38), .ref (v 39), .ref (v 40), .ref (v 41)])), (v 1, .inl (cI, 544, .inl (upd (upd (upd (fun _ => 0) 8 1) 9 1) 17 (-1))))]) hD hS hA [0, 1] rfl
  refine va_calli (va_runV (As := []) (rest := [.int (-2)]) ⟨hx, hb, hml, hown, hwd⟩ (c_X12_nearest l dC dI cI cZ cB cJ cM y0 v H.size) (cwV 0 hwd (gV kr27_3 kr27_4 kr27_5 kr1_5 kr27_6) rfl rfl rfl (by decide +kernel) ⟨Nat.le_of_ble_eq_true rfl, Nat.le_of_ble_eq_true rfl⟩) (kPreV hPc hK hDc (ci := 12) (q0 := 0) rfl rfl) rfl rfl hl.1 rfl (lv_room (Nat.le_of_ble_eq_true rfl)) dL_law_1117 ⟨Nat.le_of_ble_eq_true rfl, Nat.le_of_ble_eq_true rfl⟩) hS (fun q _ h => hFc q h) hFc (fun r3 u4 t H1 locs ht9 hvm hw hB hz1 hk1 hS => ?_)
  obtain ⟨hP, hD⟩ := va_join (wr := []) (w1 := []) hP hD [0, 1] [] rfl rfl (by decide) (by decide) hk1 hFc kP0 kD0
  generalize H1 = H at hP hS ⊢
  have hP : va_P (dC, dI) vwCl [] H := hP
  have hD : va_D (fun q : Nat => s.heap.size ≤ q) [] := hD
  subst hw
  refine lv_icmp_eq (tgt := 1731) hx hb dL_law_1120 (by decide) (fun c5 => ?_) (fun c5 => absurd c5 (by decide))
  exact law_tail C0 hS (lv_sub hl [3, 0] rfl)
set_option maxHeartbeats 4000000 in
set_option maxRecDepth 100000 in
/-- the call of fewest on two fresh objects -/
theorem lcase_33 {p : Program} {l : Launch} {e : Env} {s : State} {m : MethodId} {below : List Frame} {meth : Method} {c : Code} {b : Nat} {xs : Nat → Int32} {dC : Nat → ClassId} {dI : Nat → Nat → Nat} {cI cZ cB cJ cM : ClassId} (x0 y0 : Nat) (u v : Nat → Nat) {H : Heap} {locs : List Loc} {ls : Array Slot} (C0 : lw_At p s m meth c b 6 xs) (hK : va_K (dC, dI) vwCl [(cI, .int), (cZ, .boolean), (cB, .byte), (cJ, .long), (cM, .object RX2)] s) (hP : va_P (dC, dI) vwCl [(x0, .inr (11, [.ref (u 0), .ref (u 2), .ref (u 3), .ref (u 4), .ref (u 5), .ref (u 10), .ref (u 11), .ref (u 12), .ref (u 98), .ref (u 124)])), (u 98, .inr (2, [.int 0, .int 0, .int 0, .int 0, .int 0, .int 0, .int 0, .int 0, .int 0, .ref (u 99), .ref (u 107), .ref (u 117), .ref (u 122), .ref (u 123)])), (y0, .inr (12, [.int 0, .ref (v 1), .ref (v 2), .ref (v 3), .ref (v 4), .int 0, .ref (v 6), .int 0, .int 0, .int 0, .int 0, .int 0, .int 0, .int (-1), .ref (v 14), .ref (v 15), .ref (v 16), .ref (v 17), .ref (v 18), .ref (v 19), .ref (v 20), .int 0, .ref (v 22), .int 0, .ref (v 24), .ref (v 25), .int 0, .ref (v 27), .ref (v 28), .ref (v 29), .ref (v 30), .int 0, .int 0, .int 0, .int 0, .int 0, .ref (v 36), .long 0, .ref (v 38), .ref (v 39), .ref (v 40), .ref (v 41)])), (v 1, .inl (cI, 544, .inl (upd (upd (upd (fun _ => 0) 8 1) 9 1) 17 (-1))))] H) (hD : va_D (fun q : Nat => s.heap.size ≤ q) [(x0, .inr (11, [.ref (u 0), .ref (u 2), .ref (u 3), .ref (u 4), .ref (u 5), .ref (u 10), .ref (u 11), .ref (u 12), .ref (u 98), .ref (u 124)])), (u 98, .inr (2, [.int 0, .int 0, .int 0, .int 0, .int 0, .int 0, .int 0, .int 0, .int 0, .ref (u 99), .ref (u 107), .ref (u 117), .ref (u 122), .ref (u 123)])), (y0, .inr (12, [.int 0, .ref (v 1), .ref (v 2), .ref (v 3), .ref (v 4), .int 0, .ref (v 6), .int 0, .int 0, .int 0, .int 0, .int 0, .int 0, .int (-1), .ref (v 14), .ref (v 15), .ref (v 16), .ref (v 17), .ref (v 18), .ref (v 19), .ref (v 20), .int 0, .ref (v 22), .int 0, .ref (v 24), .ref (v 25), .int 0, .ref (v 27), .ref (v 28), .ref (v 29), .ref (v 30), .int 0, .int 0, .int 0, .int 0, .int 0, .ref (v 36), .long 0, .ref (v 38), .ref (v 39), .ref (v 40), .ref (v 41)])), (v 1, .inl (cI, 544, .inl (upd (upd (upd (fun _ => 0) 8 1) 9 1) 17 (-1))))]) (hS : va_S (fun q : Nat => s.heap.size ≤ q) s.heap H locs) (hl : lv_has ls 4 [(3, .int 0), (2, .ref y0), (1, .ref x0), (0, .ref b)]) : W p l e room_1 s m #[Value.ref b] below meth c H locs 600000 7302250 (lw_Z below #[Value.ref b] s) (F0 m 1125 ls []) := by
  obtain ⟨hx, hb, hr, hml, hown0, hts, hX, hbl, hlocks, hgv⟩ := id C0
  have hb : c.code = cL_law := hb
  have hown : s.vm.findClass RL = some m.cls := hown0
  have hwd : ∀ wd ∈ wsL_law, wd.before #[Value.ref b] s = true := fun w h => hts w (wsL_law_in w h)
  have hA : ∀ q : Nat, s.heap.size ≤ q → (fun q : Nat => s.heap.size ≤ q) q := fun _ h => h
  have hbA : ¬ (fun q : Nat => s.heap.size ≤ q) b := Nat.not_le.mpr hbl
  refine lv_aload_n hx hb dL_law_1125 rfl (lv_at hl 2 rfl) ?_
  refine lv_aload_n hx hb dL_law_1126 rfl (lv_at hl 3 rfl) ?_
  refine lv_iload_n hx hb dL_law_1127 rfl (lv_at hl 0 rfl) ?_
  refine lv_iconst (v := 1) hx hb dL_law_1128 (by decide) ?_
  refine lv_iadd hx hb dL_law_1129 ?_
  refine lv_topi (nm_r (e' := (1)) (by decide +kernel) ?_)
  refine va_sld hx hb hX hbl hbA hS (vin (by decide)) dL_law_1130 ?_
  have hPc := hP.sub (ws' := [(x0, .inr (11, [.ref (u 0), .ref (u 2), .ref (u 3), .ref (u 4), .ref (u 5), .ref (u 10), .ref (u 11), .ref (u 12), .ref (u 98), .ref (u 124)])), (u 98, .inr (2, [.int 0, .int 0, .int 0, .int 0, .int 0, .int 0, .int 0, .int 0, .int 0, .ref (u 99), .ref (u 107), .ref (u 117), .ref (u 122), .ref (u 123)]))]) [0, 1] rfl
  have hDc := hD.sub (ws' := [(x0, .inr (11, [.ref (u 0), .ref (u 2), .ref (u 3), .ref (u 4), .ref (u 5), .ref (u 10), .ref (u 11), .ref (u 12), .ref (u 98), .ref (u 124)])), (u 98, .inr (2, [.int 0, .int 0, .int 0, .int 0, .int 0, .int 0, .int 0, .int 0, .int 0, .ref (u 99), .ref (u 107), .ref (u 117), .ref (u 122), .ref (u 123)]))]) [0, 1] (by decide) rfl
  have hFc := va_free (wc := [(x0, .inr (11, [.ref (u 0), .ref (u 2), .ref (u 3), .ref (u 4), .ref (u 5), .ref (u 10), .ref (u 11), .ref (u 12), .ref (u 98), .ref (u 124)])), (u 98, .inr (2, [.int 0, .int 0, .int 0, .int 0, .int 0, .int 0, .int 0, .int 0, .int 0, .ref (u 99), .ref (u 107), .ref (u 117), .ref (u 122), .ref (u 123)]))]) hD hS hA [0, 1] rfl
  refine va_calli (va_runV (As := [.int (xs (1 : Int32).toNatClampNeg)]) (rest := []) ⟨hx, hb, hml, hown, hwd⟩ (c_X11_fewest l dC dI cI cZ cB cJ cM x0 (u 0) (u 2) (u 3) (u 4) (u 5) (u 10) (u 11) (u 12) (u 98) (u 124) (u 99) (u 107) (u 117) (u 122) (u 123) (xs (1 : Int32).toNatClampNeg) H.size) (cwV 1 hwd (gV kr27_7 kr27_8 kr27_9 kr1_2 kr27_10) rfl rfl rfl (by decide +kernel) ⟨Nat.le_of_ble_eq_true rfl, Nat.le_of_ble_eq_true rfl⟩) (kPreV hPc hK hDc (ci := 11) (q0 := 0) rfl rfl) rfl rfl hl.1 rfl (lv_room (Nat.le_of_ble_eq_true rfl)) dL_law_1131 ⟨Nat.le_of_ble_eq_true rfl, Nat.le_of_ble_eq_true rfl⟩) hS (fun q _ h => hFc q h) hFc (fun r1 u2 t H1 locs ht9 hvm hw hB hz1 hk1 hS => ?_)
  obtain ⟨hP, hD⟩ := va_join (wr := [(y0, .inr (12, [.int 0, .ref (v 1), .ref (v 2), .ref (v 3), .ref (v 4), .int 0, .ref (v 6), .int 0, .int 0, .int 0, .int 0, .int 0, .int 0, .int (-1), .ref (v 14), .ref (v 15), .ref (v 16), .ref (v 17), .ref (v 18), .ref (v 19), .ref (v 20), .int 0, .ref (v 22), .int 0, .ref (v 24), .ref (v 25), .int 0, .ref (v 27), .ref (v 28), .ref (v 29), .ref (v 30), .int 0, .int 0, .int 0, .int 0, .int 0, .ref (v 36), .long 0, .ref (v 38), .ref (v 39), .ref (v 40), .ref (v 41)])), (v 1, .inl (cI, 544, .inl (upd (upd (upd (fun _ => 0) 8 1) 9 1) 17 (-1))))]) (w1 := []) hP hD [0, 1] [2, 3] rfl rfl (by decide) (by decide) hk1 hFc kP0 kD0
  generalize H1 = H at hP hS ⊢
  have hP : va_P (dC, dI) vwCl [(y0, .inr (12, [.int 0, .ref (v 1), .ref (v 2), .ref (v 3), .ref (v 4), .int 0, .ref (v 6), .int 0, .int 0, .int 0, .int 0, .int 0, .int 0, .int (-1), .ref (v 14), .ref (v 15), .ref (v 16), .ref (v 17), .ref (v 18), .ref (v 19), .ref (v 20), .int 0, .ref (v 22), .int 0, .ref (v 24), .ref (v 25), .int 0, .ref (v 27), .ref (v 28), .ref (v 29), .ref (v 30), .int 0, .int 0, .int 0, .int 0, .int 0, .ref (v 36), .long 0, .ref (v 38), .ref (v 39), .ref (v 40), .ref (v 41)])), (v 1, .inl (cI, 544, .inl (upd (upd (upd (fun _ => 0) 8 1) 9 1) 17 (-1))))] H := hP
  have hD : va_D (fun q : Nat => s.heap.size ≤ q) [(y0, .inr (12, [.int 0, .ref (v 1), .ref (v 2), .ref (v 3), .ref (v 4), .int 0, .ref (v 6), .int 0, .int 0, .int 0, .int 0, .int 0, .int 0, .int (-1), .ref (v 14), .ref (v 15), .ref (v 16), .ref (v 17), .ref (v 18), .ref (v 19), .ref (v 20), .int 0, .ref (v 22), .int 0, .ref (v 24), .ref (v 25), .int 0, .ref (v 27), .ref (v 28), .ref (v 29), .ref (v 30), .int 0, .int 0, .int 0, .int 0, .int 0, .ref (v 36), .long 0, .ref (v 38), .ref (v 39), .ref (v 40), .ref (v 41)])), (v 1, .inl (cI, 544, .inl (upd (upd (upd (fun _ => 0) 8 1) 9 1) 17 (-1))))] := hD
  subst hw
  refine lv_aload_n hx hb dL_law_1134 rfl (lv_at hl 1 rfl) ?_
  refine lv_aload_n hx hb dL_law_1135 rfl (lv_at hl 3 rfl) ?_
  refine lv_iload_n hx hb dL_law_1136 rfl (lv_at hl 0 rfl) ?_
  refine lv_iconst (v := 1) hx hb dL_law_1137 (by decide) ?_
  refine lv_iadd hx hb dL_law_1138 ?_
  refine lv_topi (nm_r (e' := (1)) (by decide +kernel) ?_)
  refine va_sld hx hb hX hbl hbA hS (vin (by decide)) dL_law_1139 ?_
  have hPc := hP.sub (ws' := [(y0, .inr (12, [.int 0, .ref (v 1), .ref (v 2), .ref (v 3), .ref (v 4), .int 0, .ref (v 6), .int 0, .int 0, .int 0, .int 0, .int 0, .int 0, .int (-1), .ref (v 14), .ref (v 15), .ref (v 16), .ref (v 17), .ref (v 18), .ref (v 19), .ref (v 20), .int 0, .ref (v 22), .int 0, .ref (v 24), .ref (v 25), .int 0, .ref (v 27), .ref (v 28), .ref (v 29), .ref (v 30), .int 0, .int 0, .int 0, .int 0, .int 0, .ref (v 36), .long 0, .ref (v 38), .ref (v 39), .ref (v 40), .ref (v 41)])), (v 1, .inl (cI, 544, .inl (upd (upd (upd (fun _ => 0) 8 1) 9 1) 17 (-1))))]) [0, 1] rfl
  have hDc := hD.sub (ws' := [(y0, .inr (12, [.int 0, .ref (v 1), .ref (v 2), .ref (v 3), .ref (v 4), .int 0, .ref (v 6), .int 0, .int 0, .int 0, .int 0, .int 0, .int 0, .int (-1), .ref (v 14), .ref (v 15), .ref (v 16), .ref (v 17), .ref (v 18), .ref (v 19), .ref (v 20), .int 0, .ref (v 22), .int 0, .ref (v 24), .ref (v 25), .int 0, .ref (v 27), .ref (v 28), .ref (v 29), .ref (v 30), .int 0, .int 0, .int 0, .int 0, .int 0, .ref (v 36), .long 0, .ref (v 38), .ref (v 39), .ref (v 40), .ref (v 41)])), (v 1, .inl (cI, 544, .inl (upd (upd (upd (fun _ => 0) 8 1) 9 1) 17 (-1))))]) [0, 1] (by decide) rfl
  have hFc := va_free (wc := [(y0, .inr (12, [.int 0, .ref (v 1), .ref (v 2), .ref (v 3), .ref (v 4), .int 0, .ref (v 6), .int 0, .int 0, .int 0, .int 0, .int 0, .int 0, .int (-1), .ref (v 14), .ref (v 15), .ref (v 16), .ref (v 17), .ref (v 18), .ref (v 19), .ref (v 20), .int 0, .ref (v 22), .int 0, .ref (v 24), .ref (v 25), .int 0, .ref (v 27), .ref (v 28), .ref (v 29), .ref (v 30), .int 0, .int 0, .int 0, .int 0, .int 0, .ref (v 36), .long 0, .ref (v 38), .ref (v 39), .ref (v 40), .ref (v 41)])), (v 1, .inl (cI, 544, .inl (upd (upd (upd (fun _ => 0) 8 1) 9 1) 17 (-1))))]) hD hS hA [0, 1] rfl
  refine va_calli (va_runV (As := [.int (xs (1 : Int32).toNatClampNeg)]) (rest := [.int (-2)]) ⟨hx, hb, hml, hown, hwd⟩ (c_X12_fewest l dC dI cI cZ cB cJ cM y0 v (xs (1 : Int32).toNatClampNeg) H.size) (cwV 1 hwd (gV kr27_22 kr27_23 kr28_0 kr1_5 kr28_1) rfl rfl rfl (by decide +kernel) ⟨Nat.le_of_ble_eq_true rfl, Nat.le_of_ble_eq_true rfl⟩) (kPreV hPc hK hDc (ci := 12) (q0 := 0) rfl rfl) rfl rfl hl.1 rfl (lv_room (Nat.le_of_ble_eq_true rfl)) dL_law_1140 ⟨Nat.le_of_ble_eq_true rfl, Nat.le_of_ble_eq_true rfl⟩) hS (fun q _ h => hFc q h) hFc (fun r3 u4 t H1 locs ht9 hvm hw hB hz1 hk1 hS => ?_)
  obtain ⟨hP, hD⟩ := va_join (wr := []) (w1 := []) hP hD [0, 1] [] rfl rfl (by decide) (by decide) hk1 hFc kP0 kD0
  generalize H1 = H at hP hS ⊢
  have hP : va_P (dC, dI) vwCl [] H := hP
  have hD : va_D (fun q : Nat => s.heap.size ≤ q) [] := hD
  subst hw
  refine lv_icmp_eq (tgt := 1731) hx hb dL_law_1143 (by decide) (fun c5 => ?_) (fun c5 => absurd c5 (by decide))
  exact law_tail C0 hS (lv_sub hl [3, 0] rfl)
set_option maxHeartbeats 4000000 in
set_option maxRecDepth 100000 in
/-- the call of place on two fresh objects -/
theorem lcase_34 {p : Program} {l : Launch} {e : Env} {s : State} {m : MethodId} {below : List Frame} {meth : Method} {c : Code} {b : Nat} {xs : Nat → Int32} {dC : Nat → ClassId} {dI : Nat → Nat → Nat} {cI cZ cB cJ cM : ClassId} (x0 y0 : Nat) (u v : Nat → Nat) {H : Heap} {locs : List Loc} {ls : Array Slot} (C0 : lw_At p s m meth c b 6 xs) (hK : va_K (dC, dI) vwCl [(cI, .int), (cZ, .boolean), (cB, .byte), (cJ, .long), (cM, .object RX2)] s) (hP : va_P (dC, dI) vwCl [(x0, .inr (11, [.ref (u 0), .ref (u 2), .ref (u 3), .ref (u 4), .ref (u 5), .ref (u 10), .ref (u 11), .ref (u 12), .ref (u 98), .ref (u 124)])), (u 98, .inr (2, [.int 0, .int 0, .int 0, .int 0, .int 0, .int 0, .int 0, .int 0, .int 0, .ref (u 99), .ref (u 107), .ref (u 117), .ref (u 122), .ref (u 123)])), (y0, .inr (12, [.int 0, .ref (v 1), .ref (v 2), .ref (v 3), .ref (v 4), .int 0, .ref (v 6), .int 0, .int 0, .int 0, .int 0, .int 0, .int 0, .int (-1), .ref (v 14), .ref (v 15), .ref (v 16), .ref (v 17), .ref (v 18), .ref (v 19), .ref (v 20), .int 0, .ref (v 22), .int 0, .ref (v 24), .ref (v 25), .int 0, .ref (v 27), .ref (v 28), .ref (v 29), .ref (v 30), .int 0, .int 0, .int 0, .int 0, .int 0, .ref (v 36), .long 0, .ref (v 38), .ref (v 39), .ref (v 40), .ref (v 41)])), (v 1, .inl (cI, 544, .inl (upd (upd (upd (fun _ => 0) 8 1) 9 1) 17 (-1))))] H) (hD : va_D (fun q : Nat => s.heap.size ≤ q) [(x0, .inr (11, [.ref (u 0), .ref (u 2), .ref (u 3), .ref (u 4), .ref (u 5), .ref (u 10), .ref (u 11), .ref (u 12), .ref (u 98), .ref (u 124)])), (u 98, .inr (2, [.int 0, .int 0, .int 0, .int 0, .int 0, .int 0, .int 0, .int 0, .int 0, .ref (u 99), .ref (u 107), .ref (u 117), .ref (u 122), .ref (u 123)])), (y0, .inr (12, [.int 0, .ref (v 1), .ref (v 2), .ref (v 3), .ref (v 4), .int 0, .ref (v 6), .int 0, .int 0, .int 0, .int 0, .int 0, .int 0, .int (-1), .ref (v 14), .ref (v 15), .ref (v 16), .ref (v 17), .ref (v 18), .ref (v 19), .ref (v 20), .int 0, .ref (v 22), .int 0, .ref (v 24), .ref (v 25), .int 0, .ref (v 27), .ref (v 28), .ref (v 29), .ref (v 30), .int 0, .int 0, .int 0, .int 0, .int 0, .ref (v 36), .long 0, .ref (v 38), .ref (v 39), .ref (v 40), .ref (v 41)])), (v 1, .inl (cI, 544, .inl (upd (upd (upd (fun _ => 0) 8 1) 9 1) 17 (-1))))]) (hS : va_S (fun q : Nat => s.heap.size ≤ q) s.heap H locs) (hl : lv_has ls 4 [(3, .int 0), (2, .ref y0), (1, .ref x0), (0, .ref b)]) : W p l e room_1 s m #[Value.ref b] below meth c H locs 600000 7302250 (lw_Z below #[Value.ref b] s) (F0 m 1148 ls []) := by
  obtain ⟨hx, hb, hr, hml, hown0, hts, hX, hbl, hlocks, hgv⟩ := id C0
  have hb : c.code = cL_law := hb
  have hown : s.vm.findClass RL = some m.cls := hown0
  have hwd : ∀ wd ∈ wsL_law, wd.before #[Value.ref b] s = true := fun w h => hts w (wsL_law_in w h)
  have hA : ∀ q : Nat, s.heap.size ≤ q → (fun q : Nat => s.heap.size ≤ q) q := fun _ h => h
  have hbA : ¬ (fun q : Nat => s.heap.size ≤ q) b := Nat.not_le.mpr hbl
  refine lv_aload_n hx hb dL_law_1148 rfl (lv_at hl 2 rfl) ?_
  refine lv_aload_n hx hb dL_law_1149 rfl (lv_at hl 3 rfl) ?_
  refine lv_iload_n hx hb dL_law_1150 rfl (lv_at hl 0 rfl) ?_
  refine lv_iconst (v := 1) hx hb dL_law_1151 (by decide) ?_
  refine lv_iadd hx hb dL_law_1152 ?_
  refine lv_topi (nm_r (e' := (1)) (by decide +kernel) ?_)
  refine va_sld hx hb hX hbl hbA hS (vin (by decide)) dL_law_1153 ?_
  refine lv_aload_n hx hb dL_law_1154 rfl (lv_at hl 3 rfl) ?_
  refine lv_iload_n hx hb dL_law_1155 rfl (lv_at hl 0 rfl) ?_
  refine lv_iconst (v := 2) hx hb dL_law_1156 (by decide) ?_
  refine lv_iadd hx hb dL_law_1157 ?_
  refine lv_topi (nm_r (e' := (2)) (by decide +kernel) ?_)
  refine va_sld hx hb hX hbl hbA hS (vin (by decide)) dL_law_1158 ?_
  have hPc := hP.sub (ws' := [(x0, .inr (11, [.ref (u 0), .ref (u 2), .ref (u 3), .ref (u 4), .ref (u 5), .ref (u 10), .ref (u 11), .ref (u 12), .ref (u 98), .ref (u 124)])), (u 98, .inr (2, [.int 0, .int 0, .int 0, .int 0, .int 0, .int 0, .int 0, .int 0, .int 0, .ref (u 99), .ref (u 107), .ref (u 117), .ref (u 122), .ref (u 123)]))]) [0, 1] rfl
  have hDc := hD.sub (ws' := [(x0, .inr (11, [.ref (u 0), .ref (u 2), .ref (u 3), .ref (u 4), .ref (u 5), .ref (u 10), .ref (u 11), .ref (u 12), .ref (u 98), .ref (u 124)])), (u 98, .inr (2, [.int 0, .int 0, .int 0, .int 0, .int 0, .int 0, .int 0, .int 0, .int 0, .ref (u 99), .ref (u 107), .ref (u 117), .ref (u 122), .ref (u 123)]))]) [0, 1] (by decide) rfl
  have hFc := va_free (wc := [(x0, .inr (11, [.ref (u 0), .ref (u 2), .ref (u 3), .ref (u 4), .ref (u 5), .ref (u 10), .ref (u 11), .ref (u 12), .ref (u 98), .ref (u 124)])), (u 98, .inr (2, [.int 0, .int 0, .int 0, .int 0, .int 0, .int 0, .int 0, .int 0, .int 0, .ref (u 99), .ref (u 107), .ref (u 117), .ref (u 122), .ref (u 123)]))]) hD hS hA [0, 1] rfl
  refine va_calli (va_runV (As := [.int (xs (1 : Int32).toNatClampNeg), .int (xs (2 : Int32).toNatClampNeg)]) (rest := []) ⟨hx, hb, hml, hown, hwd⟩ (c_X11_place l dC dI cI cZ cB cJ cM x0 (u 0) (u 2) (u 3) (u 4) (u 5) (u 10) (u 11) (u 12) (u 98) (u 124) (u 99) (u 107) (u 117) (u 122) (u 123) (xs (1 : Int32).toNatClampNeg) (xs (2 : Int32).toNatClampNeg) H.size) (cwV 2 hwd (gV kr28_10 kr28_11 kr28_12 kr1_2 kr28_13) rfl rfl rfl (by decide +kernel) ⟨Nat.le_of_ble_eq_true rfl, Nat.le_of_ble_eq_true rfl⟩) (kPreV hPc hK hDc (ci := 11) (q0 := 0) rfl rfl) rfl rfl hl.1 rfl (lv_room (Nat.le_of_ble_eq_true rfl)) dL_law_1159 ⟨Nat.le_of_ble_eq_true rfl, Nat.le_of_ble_eq_true rfl⟩) hS (fun q _ h => hFc q h) hFc (fun r1 u2 t H1 locs ht9 hvm hw hB hz1 hk1 hS => ?_)
  obtain ⟨hP, hD⟩ := va_join (wr := [(y0, .inr (12, [.int 0, .ref (v 1), .ref (v 2), .ref (v 3), .ref (v 4), .int 0, .ref (v 6), .int 0, .int 0, .int 0, .int 0, .int 0, .int 0, .int (-1), .ref (v 14), .ref (v 15), .ref (v 16), .ref (v 17), .ref (v 18), .ref (v 19), .ref (v 20), .int 0, .ref (v 22), .int 0, .ref (v 24), .ref (v 25), .int 0, .ref (v 27), .ref (v 28), .ref (v 29), .ref (v 30), .int 0, .int 0, .int 0, .int 0, .int 0, .ref (v 36), .long 0, .ref (v 38), .ref (v 39), .ref (v 40), .ref (v 41)])), (v 1, .inl (cI, 544, .inl (upd (upd (upd (fun _ => 0) 8 1) 9 1) 17 (-1))))]) (w1 := []) hP hD [0, 1] [2, 3] rfl rfl (by decide) (by decide) hk1 hFc kP0 kD0
  generalize H1 = H at hP hS ⊢
  have hP : va_P (dC, dI) vwCl [(y0, .inr (12, [.int 0, .ref (v 1), .ref (v 2), .ref (v 3), .ref (v 4), .int 0, .ref (v 6), .int 0, .int 0, .int 0, .int 0, .int 0, .int 0, .int (-1), .ref (v 14), .ref (v 15), .ref (v 16), .ref (v 17), .ref (v 18), .ref (v 19), .ref (v 20), .int 0, .ref (v 22), .int 0, .ref (v 24), .ref (v 25), .int 0, .ref (v 27), .ref (v 28), .ref (v 29), .ref (v 30), .int 0, .int 0, .int 0, .int 0, .int 0, .ref (v 36), .long 0, .ref (v 38), .ref (v 39), .ref (v 40), .ref (v 41)])), (v 1, .inl (cI, 544, .inl (upd (upd (upd (fun _ => 0) 8 1) 9 1) 17 (-1))))] H := hP
  have hD : va_D (fun q : Nat => s.heap.size ≤ q) [(y0, .inr (12, [.int 0, .ref (v 1), .ref (v 2), .ref (v 3), .ref (v 4), .int 0, .ref (v 6), .int 0, .int 0, .int 0, .int 0, .int 0, .int 0, .int (-1), .ref (v 14), .ref (v 15), .ref (v 16), .ref (v 17), .ref (v 18), .ref (v 19), .ref (v 20), .int 0, .ref (v 22), .int 0, .ref (v 24), .ref (v 25), .int 0, .ref (v 27), .ref (v 28), .ref (v 29), .ref (v 30), .int 0, .int 0, .int 0, .int 0, .int 0, .ref (v 36), .long 0, .ref (v 38), .ref (v 39), .ref (v 40), .ref (v 41)])), (v 1, .inl (cI, 544, .inl (upd (upd (upd (fun _ => 0) 8 1) 9 1) 17 (-1))))] := hD
  subst hw
  refine lv_aload_n hx hb dL_law_1162 rfl (lv_at hl 1 rfl) ?_
  refine lv_aload_n hx hb dL_law_1163 rfl (lv_at hl 3 rfl) ?_
  refine lv_iload_n hx hb dL_law_1164 rfl (lv_at hl 0 rfl) ?_
  refine lv_iconst (v := 1) hx hb dL_law_1165 (by decide) ?_
  refine lv_iadd hx hb dL_law_1166 ?_
  refine lv_topi (nm_r (e' := (1)) (by decide +kernel) ?_)
  refine va_sld hx hb hX hbl hbA hS (vin (by decide)) dL_law_1167 ?_
  refine lv_aload_n hx hb dL_law_1168 rfl (lv_at hl 3 rfl) ?_
  refine lv_iload_n hx hb dL_law_1169 rfl (lv_at hl 0 rfl) ?_
  refine lv_iconst (v := 2) hx hb dL_law_1170 (by decide) ?_
  refine lv_iadd hx hb dL_law_1171 ?_
  refine lv_topi (nm_r (e' := (2)) (by decide +kernel) ?_)
  refine va_sld hx hb hX hbl hbA hS (vin (by decide)) dL_law_1172 ?_
  have hPc := hP.sub (ws' := [(y0, .inr (12, [.int 0, .ref (v 1), .ref (v 2), .ref (v 3), .ref (v 4), .int 0, .ref (v 6), .int 0, .int 0, .int 0, .int 0, .int 0, .int 0, .int (-1), .ref (v 14), .ref (v 15), .ref (v 16), .ref (v 17), .ref (v 18), .ref (v 19), .ref (v 20), .int 0, .ref (v 22), .int 0, .ref (v 24), .ref (v 25), .int 0, .ref (v 27), .ref (v 28), .ref (v 29), .ref (v 30), .int 0, .int 0, .int 0, .int 0, .int 0, .ref (v 36), .long 0, .ref (v 38), .ref (v 39), .ref (v 40), .ref (v 41)])), (v 1, .inl (cI, 544, .inl (upd (upd (upd (fun _ => 0) 8 1) 9 1) 17 (-1))))]) [0, 1] rfl
  have hDc := hD.sub (ws' := [(y0, .inr (12, [.int 0, .ref (v 1), .ref (v 2), .ref (v 3), .ref (v 4), .int 0, .ref (v 6), .int 0, .int 0, .int 0, .int 0, .int 0, .int 0, .int (-1), .ref (v 14), .ref (v 15), .ref (v 16), .ref (v 17), .ref (v 18), .ref (v 19), .ref (v 20), .int 0, .ref (v 22), .int 0, .ref (v 24), .ref (v 25), .int 0, .ref (v 27), .ref (v 28), .ref (v 29), .ref (v 30), .int 0, .int 0, .int 0, .int 0, .int 0, .ref (v 36), .long 0, .ref (v 38), .ref (v 39), .ref (v 40), .ref (v 41)])), (v 1, .inl (cI, 544, .inl (upd (upd (upd (fun _ => 0) 8 1) 9 1) 17 (-1))))]) [0, 1] (by decide) rfl
  have hFc := va_free (wc := [(y0, .inr (12, [.int 0, .ref (v 1), .ref (v 2), .ref (v 3), .ref (v 4), .int 0, .ref (v 6), .int 0, .int 0, .int 0, .int 0, .int 0, .int 0, .int (-1), .ref (v 14), .ref (v 15), .ref (v 16), .ref (v 17), .ref (v 18), .ref (v 19), .ref (v 20), .int 0, .ref (v 22), .int 0, .ref (v 24), .ref (v 25), .int 0, .ref (v 27), .ref (v 28), .ref (v 29), .ref (v 30), .int 0, .int 0, .int 0, .int 0, .int 0, .ref (v 36), .long 0, .ref (v 38), .ref (v 39), .ref (v 40), .ref (v 41)])), (v 1, .inl (cI, 544, .inl (upd (upd (upd (fun _ => 0) 8 1) 9 1) 17 (-1))))]) hD hS hA [0, 1] rfl
  refine va_calli (va_runV (As := [.int (xs (1 : Int32).toNatClampNeg), .int (xs (2 : Int32).toNatClampNeg)]) (rest := [.int (-2)]) ⟨hx, hb, hml, hown, hwd⟩ (c_X12_place l dC dI cI cZ cB cJ cM y0 v (xs (1 : Int32).toNatClampNeg) (xs (2 : Int32).toNatClampNeg) H.size) (cwV 2 hwd (gV kr28_14 kr28_15 kr28_16 kr1_5 kr28_17) rfl rfl rfl (by decide +kernel) ⟨Nat.le_of_ble_eq_true rfl, Nat.le_of_ble_eq_true rfl⟩) (kPreV hPc hK hDc (ci := 12) (q0 := 0) rfl rfl) rfl rfl hl.1 rfl (lv_room (Nat.le_of_ble_eq_true rfl)) dL_law_1173 ⟨Nat.le_of_ble_eq_true rfl, Nat.le_of_ble_eq_true rfl⟩) hS (fun q _ h => hFc q h) hFc (fun r3 u4 t H1 locs ht9 hvm hw hB hz1 hk1 hS => ?_)
  obtain ⟨hP, hD⟩ := va_join (wr := []) (w1 := []) hP hD [0, 1] [] rfl rfl (by decide) (by decide) hk1 hFc kP0 kD0
  generalize H1 = H at hP hS ⊢
  have hP : va_P (dC, dI) vwCl [] H := hP
  have hD : va_D (fun q : Nat => s.heap.size ≤ q) [] := hD
  subst hw
  refine lv_icmp_eq (tgt := 1731) hx hb dL_law_1176 (by decide) (fun c5 => ?_) (fun c5 => absurd c5 (by decide))
  exact law_tail C0 hS (lv_sub hl [3, 0] rfl)
set_option maxHeartbeats 4000000 in
set_option maxRecDepth 100000 in
/-- the call of clash on two fresh objects -/
theorem lcase_35 {p : Program} {l : Launch} {e : Env} {s : State} {m : MethodId} {below : List Frame} {meth : Method} {c : Code} {b : Nat} {xs : Nat → Int32} {dC : Nat → ClassId} {dI : Nat → Nat → Nat} {cI cZ cB cJ cM : ClassId} (x0 y0 : Nat) (u v : Nat → Nat) {H : Heap} {locs : List Loc} {ls : Array Slot} (C0 : lw_At p s m meth c b 6 xs) (hK : va_K (dC, dI) vwCl [(cI, .int), (cZ, .boolean), (cB, .byte), (cJ, .long), (cM, .object RX2)] s) (hP : va_P (dC, dI) vwCl [(x0, .inr (11, [.ref (u 0), .ref (u 2), .ref (u 3), .ref (u 4), .ref (u 5), .ref (u 10), .ref (u 11), .ref (u 12), .ref (u 98), .ref (u 124)])), (u 98, .inr (2, [.int 0, .int 0, .int 0, .int 0, .int 0, .int 0, .int 0, .int 0, .int 0, .ref (u 99), .ref (u 107), .ref (u 117), .ref (u 122), .ref (u 123)])), (y0, .inr (12, [.int 0, .ref (v 1), .ref (v 2), .ref (v 3), .ref (v 4), .int 0, .ref (v 6), .int 0, .int 0, .int 0, .int 0, .int 0, .int 0, .int (-1), .ref (v 14), .ref (v 15), .ref (v 16), .ref (v 17), .ref (v 18), .ref (v 19), .ref (v 20), .int 0, .ref (v 22), .int 0, .ref (v 24), .ref (v 25), .int 0, .ref (v 27), .ref (v 28), .ref (v 29), .ref (v 30), .int 0, .int 0, .int 0, .int 0, .int 0, .ref (v 36), .long 0, .ref (v 38), .ref (v 39), .ref (v 40), .ref (v 41)])), (v 1, .inl (cI, 544, .inl (upd (upd (upd (fun _ => 0) 8 1) 9 1) 17 (-1))))] H) (hD : va_D (fun q : Nat => s.heap.size ≤ q) [(x0, .inr (11, [.ref (u 0), .ref (u 2), .ref (u 3), .ref (u 4), .ref (u 5), .ref (u 10), .ref (u 11), .ref (u 12), .ref (u 98), .ref (u 124)])), (u 98, .inr (2, [.int 0, .int 0, .int 0, .int 0, .int 0, .int 0, .int 0, .int 0, .int 0, .ref (u 99), .ref (u 107), .ref (u 117), .ref (u 122), .ref (u 123)])), (y0, .inr (12, [.int 0, .ref (v 1), .ref (v 2), .ref (v 3), .ref (v 4), .int 0, .ref (v 6), .int 0, .int 0, .int 0, .int 0, .int 0, .int 0, .int (-1), .ref (v 14), .ref (v 15), .ref (v 16), .ref (v 17), .ref (v 18), .ref (v 19), .ref (v 20), .int 0, .ref (v 22), .int 0, .ref (v 24), .ref (v 25), .int 0, .ref (v 27), .ref (v 28), .ref (v 29), .ref (v 30), .int 0, .int 0, .int 0, .int 0, .int 0, .ref (v 36), .long 0, .ref (v 38), .ref (v 39), .ref (v 40), .ref (v 41)])), (v 1, .inl (cI, 544, .inl (upd (upd (upd (fun _ => 0) 8 1) 9 1) 17 (-1))))]) (hS : va_S (fun q : Nat => s.heap.size ≤ q) s.heap H locs) (hl : lv_has ls 4 [(3, .int 0), (2, .ref y0), (1, .ref x0), (0, .ref b)]) : W p l e room_1 s m #[Value.ref b] below meth c H locs 600000 7302250 (lw_Z below #[Value.ref b] s) (F0 m 1181 ls []) := by
  obtain ⟨hx, hb, hr, hml, hown0, hts, hX, hbl, hlocks, hgv⟩ := id C0
  have hb : c.code = cL_law := hb
  have hown : s.vm.findClass RL = some m.cls := hown0
  have hwd : ∀ wd ∈ wsL_law, wd.before #[Value.ref b] s = true := fun w h => hts w (wsL_law_in w h)
  have hA : ∀ q : Nat, s.heap.size ≤ q → (fun q : Nat => s.heap.size ≤ q) q := fun _ h => h
  have hbA : ¬ (fun q : Nat => s.heap.size ≤ q) b := Nat.not_le.mpr hbl
  refine lv_aload_n hx hb dL_law_1181 rfl (lv_at hl 2 rfl) ?_
  refine lv_aload_n hx hb dL_law_1182 rfl (lv_at hl 3 rfl) ?_
  refine lv_iload_n hx hb dL_law_1183 rfl (lv_at hl 0 rfl) ?_
  refine lv_iconst (v := 1) hx hb dL_law_1184 (by decide) ?_
  refine lv_iadd hx hb dL_law_1185 ?_
  refine lv_topi (nm_r (e' := (1)) (by decide +kernel) ?_)
  refine va_sld hx hb hX hbl hbA hS (vin (by decide)) dL_law_1186 ?_
  have hPc := hP.sub (ws' := [(x0, .inr (11, [.ref (u 0), .ref (u 2), .ref (u 3), .ref (u 4), .ref (u 5), .ref (u 10), .ref (u 11), .ref (u 12), .ref (u 98), .ref (u 124)])), (u 98, .inr (2, [.int 0, .int 0, .int 0, .int 0, .int 0, .int 0, .int 0, .int 0, .int 0, .ref (u 99), .ref (u 107), .ref (u 117), .ref (u 122), .ref (u 123)]))]) [0, 1] rfl
  have hDc := hD.sub (ws' := [(x0, .inr (11, [.ref (u 0), .ref (u 2), .ref (u 3), .ref (u 4), .ref (u 5), .ref (u 10), .ref (u 11), .ref (u 12), .ref (u 98), .ref (u 124)])), (u 98, .inr (2, [.int 0, .int 0, .int 0, .int 0, .int 0, .int 0, .int 0, .int 0, .int 0, .ref (u 99), .ref (u 107), .ref (u 117), .ref (u 122), .ref (u 123)]))]) [0, 1] (by decide) rfl
  have hFc := va_free (wc := [(x0, .inr (11, [.ref (u 0), .ref (u 2), .ref (u 3), .ref (u 4), .ref (u 5), .ref (u 10), .ref (u 11), .ref (u 12), .ref (u 98), .ref (u 124)])), (u 98, .inr (2, [.int 0, .int 0, .int 0, .int 0, .int 0, .int 0, .int 0, .int 0, .int 0, .ref (u 99), .ref (u 107), .ref (u 117), .ref (u 122), .ref (u 123)]))]) hD hS hA [0, 1] rfl
  refine va_calli (va_runV (As := [.int (xs (1 : Int32).toNatClampNeg)]) (rest := []) ⟨hx, hb, hml, hown, hwd⟩ (c_X11_clash l dC dI cI cZ cB cJ cM x0 (u 0) (u 2) (u 3) (u 4) (u 5) (u 10) (u 11) (u 12) (u 98) (u 124) (u 99) (u 107) (u 117) (u 122) (u 123) (xs (1 : Int32).toNatClampNeg) H.size) (cwV 1 hwd (gV kr28_18 kr28_19 kr28_20 kr1_2 kr28_21) rfl rfl rfl (by decide +kernel) ⟨Nat.le_of_ble_eq_true rfl, Nat.le_of_ble_eq_true rfl⟩) (kPreV hPc hK hDc (ci := 11) (q0 := 0) rfl rfl) rfl rfl hl.1 rfl (lv_room (Nat.le_of_ble_eq_true rfl)) dL_law_1187 ⟨Nat.le_of_ble_eq_true rfl, Nat.le_of_ble_eq_true rfl⟩) hS (fun q _ h => hFc q h) hFc (fun r1 u2 t H1 locs ht9 hvm hw hB hz1 hk1 hS => ?_)
  obtain ⟨hP, hD⟩ := va_join (wr := [(y0, .inr (12, [.int 0, .ref (v 1), .ref (v 2), .ref (v 3), .ref (v 4), .int 0, .ref (v 6), .int 0, .int 0, .int 0, .int 0, .int 0, .int 0, .int (-1), .ref (v 14), .ref (v 15), .ref (v 16), .ref (v 17), .ref (v 18), .ref (v 19), .ref (v 20), .int 0, .ref (v 22), .int 0, .ref (v 24), .ref (v 25), .int 0, .ref (v 27), .ref (v 28), .ref (v 29), .ref (v 30), .int 0, .int 0, .int 0, .int 0, .int 0, .ref (v 36), .long 0, .ref (v 38), .ref (v 39), .ref (v 40), .ref (v 41)])), (v 1, .inl (cI, 544, .inl (upd (upd (upd (fun _ => 0) 8 1) 9 1) 17 (-1))))]) (w1 := []) hP hD [0, 1] [2, 3] rfl rfl (by decide) (by decide) hk1 hFc kP0 kD0
  generalize H1 = H at hP hS ⊢
  have hP : va_P (dC, dI) vwCl [(y0, .inr (12, [.int 0, .ref (v 1), .ref (v 2), .ref (v 3), .ref (v 4), .int 0, .ref (v 6), .int 0, .int 0, .int 0, .int 0, .int 0, .int 0, .int (-1), .ref (v 14), .ref (v 15), .ref (v 16), .ref (v 17), .ref (v 18), .ref (v 19), .ref (v 20), .int 0, .ref (v 22), .int 0, .ref (v 24), .ref (v 25), .int 0, .ref (v 27), .ref (v 28), .ref (v 29), .ref (v 30), .int 0, .int 0, .int 0, .int 0, .int 0, .ref (v 36), .long 0, .ref (v 38), .ref (v 39), .ref (v 40), .ref (v 41)])), (v 1, .inl (cI, 544, .inl (upd (upd (upd (fun _ => 0) 8 1) 9 1) 17 (-1))))] H := hP
  have hD : va_D (fun q : Nat => s.heap.size ≤ q) [(y0, .inr (12, [.int 0, .ref (v 1), .ref (v 2), .ref (v 3), .ref (v 4), .int 0, .ref (v 6), .int 0, .int 0, .int 0, .int 0, .int 0, .int 0, .int (-1), .ref (v 14), .ref (v 15), .ref (v 16), .ref (v 17), .ref (v 18), .ref (v 19), .ref (v 20), .int 0, .ref (v 22), .int 0, .ref (v 24), .ref (v 25), .int 0, .ref (v 27), .ref (v 28), .ref (v 29), .ref (v 30), .int 0, .int 0, .int 0, .int 0, .int 0, .ref (v 36), .long 0, .ref (v 38), .ref (v 39), .ref (v 40), .ref (v 41)])), (v 1, .inl (cI, 544, .inl (upd (upd (upd (fun _ => 0) 8 1) 9 1) 17 (-1))))] := hD
  subst hw
  refine lv_aload_n hx hb dL_law_1190 rfl (lv_at hl 1 rfl) ?_
  refine lv_aload_n hx hb dL_law_1191 rfl (lv_at hl 3 rfl) ?_
  refine lv_iload_n hx hb dL_law_1192 rfl (lv_at hl 0 rfl) ?_
  refine lv_iconst (v := 1) hx hb dL_law_1193 (by decide) ?_
  refine lv_iadd hx hb dL_law_1194 ?_
  refine lv_topi (nm_r (e' := (1)) (by decide +kernel) ?_)
  refine va_sld hx hb hX hbl hbA hS (vin (by decide)) dL_law_1195 ?_
  have hPc := hP.sub (ws' := [(y0, .inr (12, [.int 0, .ref (v 1), .ref (v 2), .ref (v 3), .ref (v 4), .int 0, .ref (v 6), .int 0, .int 0, .int 0, .int 0, .int 0, .int 0, .int (-1), .ref (v 14), .ref (v 15), .ref (v 16), .ref (v 17), .ref (v 18), .ref (v 19), .ref (v 20), .int 0, .ref (v 22), .int 0, .ref (v 24), .ref (v 25), .int 0, .ref (v 27), .ref (v 28), .ref (v 29), .ref (v 30), .int 0, .int 0, .int 0, .int 0, .int 0, .ref (v 36), .long 0, .ref (v 38), .ref (v 39), .ref (v 40), .ref (v 41)])), (v 1, .inl (cI, 544, .inl (upd (upd (upd (fun _ => 0) 8 1) 9 1) 17 (-1))))]) [0, 1] rfl
  have hDc := hD.sub (ws' := [(y0, .inr (12, [.int 0, .ref (v 1), .ref (v 2), .ref (v 3), .ref (v 4), .int 0, .ref (v 6), .int 0, .int 0, .int 0, .int 0, .int 0, .int 0, .int (-1), .ref (v 14), .ref (v 15), .ref (v 16), .ref (v 17), .ref (v 18), .ref (v 19), .ref (v 20), .int 0, .ref (v 22), .int 0, .ref (v 24), .ref (v 25), .int 0, .ref (v 27), .ref (v 28), .ref (v 29), .ref (v 30), .int 0, .int 0, .int 0, .int 0, .int 0, .ref (v 36), .long 0, .ref (v 38), .ref (v 39), .ref (v 40), .ref (v 41)])), (v 1, .inl (cI, 544, .inl (upd (upd (upd (fun _ => 0) 8 1) 9 1) 17 (-1))))]) [0, 1] (by decide) rfl
  have hFc := va_free (wc := [(y0, .inr (12, [.int 0, .ref (v 1), .ref (v 2), .ref (v 3), .ref (v 4), .int 0, .ref (v 6), .int 0, .int 0, .int 0, .int 0, .int 0, .int 0, .int (-1), .ref (v 14), .ref (v 15), .ref (v 16), .ref (v 17), .ref (v 18), .ref (v 19), .ref (v 20), .int 0, .ref (v 22), .int 0, .ref (v 24), .ref (v 25), .int 0, .ref (v 27), .ref (v 28), .ref (v 29), .ref (v 30), .int 0, .int 0, .int 0, .int 0, .int 0, .ref (v 36), .long 0, .ref (v 38), .ref (v 39), .ref (v 40), .ref (v 41)])), (v 1, .inl (cI, 544, .inl (upd (upd (upd (fun _ => 0) 8 1) 9 1) 17 (-1))))]) hD hS hA [0, 1] rfl
  refine va_calli (va_runV (As := [.int (xs (1 : Int32).toNatClampNeg)]) (rest := [.int (-2)]) ⟨hx, hb, hml, hown, hwd⟩ (c_X12_clash l dC dI cI cZ cB cJ cM y0 v (xs (1 : Int32).toNatClampNeg) H.size) (cwV 1 hwd (gV kr28_22 kr28_23 kr29_0 kr1_5 kr29_1) rfl rfl rfl (by decide +kernel) ⟨Nat.le_of_ble_eq_true rfl, Nat.le_of_ble_eq_true rfl⟩) (kPreV hPc hK hDc (ci := 12) (q0 := 0) rfl rfl) rfl rfl hl.1 rfl (lv_room (Nat.le_of_ble_eq_true rfl)) dL_law_1196 ⟨Nat.le_of_ble_eq_true rfl, Nat.le_of_ble_eq_true rfl⟩) hS (fun q _ h => hFc q h) hFc (fun r3 u4 t H1 locs ht9 hvm hw hB hz1 hk1 hS => ?_)
  obtain ⟨hP, hD⟩ := va_join (wr := []) (w1 := []) hP hD [0, 1] [] rfl rfl (by decide) (by decide) hk1 hFc kP0 kD0
  generalize H1 = H at hP hS ⊢
  have hP : va_P (dC, dI) vwCl [] H := hP
  have hD : va_D (fun q : Nat => s.heap.size ≤ q) [] := hD
  subst hw
  refine lv_icmp_eq (tgt := 1731) hx hb dL_law_1199 (by decide) (fun c5 => ?_) (fun c5 => absurd c5 (by decide))
  exact law_tail C0 hS (lv_sub hl [3, 0] rfl)
