theorem dL_law_985 : decode cL_law 985 = .ok (.iconst 1, 1) := by decide +kernel
theorem dL_law_986 : decode cL_law 986 = .ok (.iadd, 1) := by decide +kernel
theorem dL_law_987 : decode cL_law 987 = .ok (.iaload, 1) := by decide +kernel
theorem dL_law_988 : decode cL_law 988 = .ok (.aload_n 0, 1) := by decide +kernel
theorem dL_law_989 : decode cL_law 989 = .ok (.iload_n 3, 1) := by decide +kernel
theorem dL_law_990 : decode cL_law 990 = .ok (.iconst 2, 1) := by decide +kernel
theorem dL_law_991 : decode cL_law 991 = .ok (.iadd, 1) := by decide +kernel
theorem dL_law_992 : decode cL_law 992 = .ok (.iaload, 1) := by decide +kernel
theorem dL_law_993 : decode cL_law 993 = .ok (.invokevirtual 131, 3) := by decide +kernel
theorem dL_law_996 : decode cL_law 996 = .ok (.if_icmp .eq 490, 3) := by decide +kernel
set_option maxRecDepth 20000 in
theorem ggL_law_X11_feed : GoodIn wsL_law wsX11_feed := goodIn_r _ [841, 38, 842, 843, 844, 37, 845, 846, 102, 1181, 1182, 1183, 1184, 1185, 1186, 1187, 1188, 1189, 1190, 1191, 1192, 1193, 1194, 1195, 1196, 1239, 1240] (by decide +kernel) (by decide +kernel)
set_option maxRecDepth 20000 in
theorem gL_law_X11_feed : GoodIn wsL_law (wsV RL 132 RX11 yX11_feed wsX11_feed) := goodIn_app (goodIn_of _ (by decide +kernel)) ggL_law_X11_feed
set_option maxRecDepth 20000 in
theorem ggL_law_X12_feed : GoodIn wsL_law wsX12_feed := goodIn_r _ (850 :: 293 :: 141 :: 167 :: 168 :: 5 :: 169 :: 1197 :: 1198 :: 1199 :: 1200 :: 1201 :: 1202 :: 1203 :: 1204 :: 1205 :: 1206 :: 1207 :: 1208 :: 1209 :: 1210 :: 1211 :: 1212 :: 1213 :: 1214 :: 1215 :: 1216 :: 1217 :: 1218 :: 1219 :: 1220 :: []) (by decide +kernel) (by decide +kernel)
set_option maxRecDepth 20000 in
theorem gL_law_X12_feed : GoodIn wsL_law (wsV RL 135 RX12 yX12_feed wsX12_feed) := goodIn_app (goodIn_of _ (by decide +kernel)) ggL_law_X12_feed
theorem dL_law_1001 : decode cL_law 1001 = .ok (.aload_n 1, 1) := by decide +kernel
theorem dL_law_1002 : decode cL_law 1002 = .ok (.aload_n 0, 1) := by decide +kernel
theorem dL_law_1003 : decode cL_law 1003 = .ok (.iload_n 3, 1) := by decide +kernel
theorem dL_law_1004 : decode cL_law 1004 = .ok (.iconst 1, 1) := by decide +kernel
theorem dL_law_1005 : decode cL_law 1005 = .ok (.iadd, 1) := by decide +kernel
theorem dL_law_1006 : decode cL_law 1006 = .ok (.iaload, 1) := by decide +kernel
theorem dL_law_1007 : decode cL_law 1007 = .ok (.aload_n 0, 1) := by decide +kernel
theorem dL_law_1008 : decode cL_law 1008 = .ok (.iload_n 3, 1) := by decide +kernel
theorem dL_law_1009 : decode cL_law 1009 = .ok (.iconst 2, 1) := by decide +kernel
theorem dL_law_1010 : decode cL_law 1010 = .ok (.iadd, 1) := by decide +kernel
theorem dL_law_1011 : decode cL_law 1011 = .ok (.iaload, 1) := by decide +kernel
theorem dL_law_1012 : decode cL_law 1012 = .ok (.invokevirtual 132, 3) := by decide +kernel
theorem dL_law_1015 : decode cL_law 1015 = .ok (.aload_n 2, 1) := by decide +kernel
theorem dL_law_1016 : decode cL_law 1016 = .ok (.aload_n 0, 1) := by decide +kernel
theorem dL_law_1017 : decode cL_law 1017 = .ok (.iload_n 3, 1) := by decide +kernel
theorem dL_law_1018 : decode cL_law 1018 = .ok (.iconst 1, 1) := by decide +kernel
theorem dL_law_1019 : decode cL_law 1019 = .ok (.iadd, 1) := by decide +kernel
theorem dL_law_1020 : decode cL_law 1020 = .ok (.iaload, 1) := by decide +kernel
theorem dL_law_1021 : decode cL_law 1021 = .ok (.aload_n 0, 1) := by decide +kernel
theorem dL_law_1022 : decode cL_law 1022 = .ok (.iload_n 3, 1) := by decide +kernel
theorem dL_law_1023 : decode cL_law 1023 = .ok (.iconst 2, 1) := by decide +kernel
theorem dL_law_1024 : decode cL_law 1024 = .ok (.iadd, 1) := by decide +kernel
theorem dL_law_1025 : decode cL_law 1025 = .ok (.iaload, 1) := by decide +kernel
theorem dL_law_1026 : decode cL_law 1026 = .ok (.invokevirtual 135, 3) := by decide +kernel
theorem dL_law_1029 : decode cL_law 1029 = .ok (.if_icmp .eq 457, 3) := by decide +kernel
set_option maxRecDepth 20000 in
theorem ggL_law_X11_wipe : GoodIn wsL_law wsX11_wipe := goodIn_r _ [854, 38, 855, 856, 857, 37, 858, 846, 1181, 1182, 1183, 1184, 1185, 1186, 1187, 1188, 1189, 1190, 1191, 1192, 1193, 1194, 1195, 1196, 1239, 1240] (by decide +kernel) (by decide +kernel)
set_option maxRecDepth 20000 in
theorem gL_law_X11_wipe : GoodIn wsL_law (wsV RL 136 RX11 yX11_wipe wsX11_wipe) := goodIn_app (goodIn_of _ (by decide +kernel)) ggL_law_X11_wipe
set_option maxRecDepth 20000 in
theorem ggL_law_X12_wipe : GoodIn wsL_law wsX12_wipe := goodIn_r _ [862, 293, 1197, 1198, 1199, 1200, 1201, 1202, 1203, 1204, 1205, 1206, 1207, 1208, 1209, 1210, 1211, 1212, 1213, 1214, 1215, 1216, 1217, 1218, 1219, 1220] (by decide +kernel) (by decide +kernel)
set_option maxRecDepth 20000 in
theorem gL_law_X12_wipe : GoodIn wsL_law (wsV RL 140 RX12 yX12_wipe wsX12_wipe) := goodIn_app (goodIn_of _ (by decide +kernel)) ggL_law_X12_wipe
theorem dL_law_1034 : decode cL_law 1034 = .ok (.aload_n 1, 1) := by decide +kernel
theorem dL_law_1035 : decode cL_law 1035 = .ok (.invokevirtual 136, 3) := by decide +kernel
theorem dL_law_1038 : decode cL_law 1038 = .ok (.aload_n 2, 1) := by decide +kernel
theorem dL_law_1039 : decode cL_law 1039 = .ok (.invokevirtual 140, 3) := by decide +kernel
theorem dL_law_1042 : decode cL_law 1042 = .ok (.if_icmp .eq 444, 3) := by decide +kernel
set_option maxRecDepth 20000 in
theorem ggL_law_X11_text : GoodIn wsL_law wsX11_text := goodIn_r _ (866 :: 42 :: 38 :: 15 :: 867 :: 868 :: 869 :: 41 :: 870 :: 107 :: 871 :: 872 :: 873 :: 874 :: 875 :: 876 :: 877 :: 108 :: 878 :: 879 :: 880 :: 881 :: 882 :: 37 :: 883 :: 846 :: 102 :: 884 :: 885 :: 886 :: 887 :: 888 :: 889 :: 890 :: 891 :: 892 :: 893 :: 894 :: 895 :: 896 :: 897 :: 898 :: 109 :: 899 :: 179 :: 180 :: 14 :: 181 :: 157 :: 900 :: 901 :: 902 :: 903 :: 904 :: 905 :: 906 :: 907 :: 908 :: 909 :: 910 :: 911 :: 912 :: 229 :: 230 :: 231 :: 232 :: 233 :: 234 :: 855 :: 856 :: 857 :: 858 :: 913 :: 914 :: 915 :: 916 :: 917 :: 183 :: 184 :: 185 :: 60 :: 186 :: 175 :: 176 :: 177 :: 178 :: 918 :: 188 :: 189 :: 190 :: 161 :: 1181 :: 1182 :: 1183 :: 1184 :: 1185 :: 1186 :: 1187 :: 1188 :: 1189 :: 1190 :: 1191 :: 1192 :: 1193 :: 1194 :: 1195 :: 1196 :: 1241 :: 1242 :: 1243 :: 1244 :: 1245 :: 1246 :: 1247 :: 1248 :: 1239 :: 1240 :: 1221 :: 1222 :: 1223 :: []) (by decide +kernel) (by decide +kernel)
set_option maxRecDepth 20000 in
theorem gL_law_X11_text : GoodIn wsL_law (wsV RL 141 RX11 yX11_text wsX11_text) := goodIn_app (goodIn_of _ (by decide +kernel)) ggL_law_X11_text
set_option maxRecDepth 20000 in
theorem ggL_law_X12_text : GoodIn wsL_law wsX12_text := goodIn_r _ (922 :: 923 :: 293 :: 924 :: 925 :: 926 :: 927 :: 5 :: 928 :: 148 :: 166 :: 133 :: 134 :: 929 :: 930 :: 931 :: 932 :: 933 :: 934 :: 935 :: 936 :: 937 :: 938 :: 939 :: 141 :: 940 :: 941 :: 942 :: 943 :: 167 :: 168 :: 169 :: 944 :: 945 :: 946 :: 947 :: 298 :: 299 :: 300 :: 948 :: 949 :: 950 :: 951 :: 199 :: 200 :: 201 :: 202 :: 316 :: 317 :: 318 :: 952 :: 953 :: 954 :: 955 :: 203 :: 204 :: 205 :: 206 :: 956 :: 957 :: 958 :: 959 :: 960 :: 961 :: 962 :: 963 :: 1197 :: 1198 :: 1199 :: 1200 :: 1201 :: 1202 :: 1203 :: 1204 :: 1205 :: 1206 :: 1207 :: 1208 :: 1209 :: 1210 :: 1211 :: 1212 :: 1213 :: 1214 :: 1215 :: 1216 :: 1217 :: 1218 :: 1219 :: 1220 :: []) (by decide +kernel) (by decide +kernel)
set_option maxRecDepth 20000 in
theorem gL_law_X12_text : GoodIn wsL_law (wsV RL 144 RX12 yX12_text wsX12_text) := goodIn_app (goodIn_of _ (by decide +kernel)) ggL_law_X12_text
theorem dL_law_1047 : decode cL_law 1047 = .ok (.aload_n 1, 1) := by decide +kernel
theorem dL_law_1048 : decode cL_law 1048 = .ok (.invokevirtual 141, 3) := by decide +kernel
theorem dL_law_1051 : decode cL_law 1051 = .ok (.aload_n 2, 1) := by decide +kernel
theorem dL_law_1052 : decode cL_law 1052 = .ok (.invokevirtual 144, 3) := by decide +kernel
theorem dL_law_1055 : decode cL_law 1055 = .ok (.if_icmp .eq 431, 3) := by decide +kernel
set_option maxRecDepth 20000 in
theorem ggL_law_X11_seed : GoodIn wsL_law wsX11_seed := goodIn_r _ [967, 34, 1181, 1182, 1183, 1184, 1185, 1186, 1187, 1188, 1189, 1190, 1191, 1192, 1193, 1194, 1195, 1196, 1238] (by decide +kernel) (by decide +kernel)
set_option maxRecDepth 20000 in
theorem gL_law_X11_seed : GoodIn wsL_law (wsV RL 145 RX11 yX11_seed wsX11_seed) := goodIn_app (goodIn_of _ (by decide +kernel)) ggL_law_X11_seed
set_option maxRecDepth 20000 in
theorem ggL_law_X12_seed : GoodIn wsL_law wsX12_seed := goodIn_r _ [971, 133, 1197, 1198, 1199, 1200, 1201, 1202, 1203, 1204, 1205, 1206, 1207, 1208, 1209, 1210, 1211, 1212, 1213, 1214, 1215, 1216, 1217, 1218, 1219, 1220] (by decide +kernel) (by decide +kernel)
set_option maxRecDepth 20000 in
theorem gL_law_X12_seed : GoodIn wsL_law (wsV RL 148 RX12 yX12_seed wsX12_seed) := goodIn_app (goodIn_of _ (by decide +kernel)) ggL_law_X12_seed
theorem dL_law_1060 : decode cL_law 1060 = .ok (.aload_n 1, 1) := by decide +kernel
theorem dL_law_1061 : decode cL_law 1061 = .ok (.aload_n 0, 1) := by decide +kernel
theorem dL_law_1062 : decode cL_law 1062 = .ok (.iload_n 3, 1) := by decide +kernel
theorem dL_law_1063 : decode cL_law 1063 = .ok (.iconst 1, 1) := by decide +kernel
theorem dL_law_1064 : decode cL_law 1064 = .ok (.iadd, 1) := by decide +kernel
theorem dL_law_1065 : decode cL_law 1065 = .ok (.iaload, 1) := by decide +kernel
theorem dL_law_1066 : decode cL_law 1066 = .ok (.invokevirtual 145, 3) := by decide +kernel
theorem dL_law_1069 : decode cL_law 1069 = .ok (.aload_n 2, 1) := by decide +kernel
theorem dL_law_1070 : decode cL_law 1070 = .ok (.aload_n 0, 1) := by decide +kernel
theorem dL_law_1071 : decode cL_law 1071 = .ok (.iload_n 3, 1) := by decide +kernel
theorem dL_law_1072 : decode cL_law 1072 = .ok (.iconst 1, 1) := by decide +kernel
theorem dL_law_1073 : decode cL_law 1073 = .ok (.iadd, 1) := by decide +kernel
theorem dL_law_1074 : decode cL_law 1074 = .ok (.iaload, 1) := by decide +kernel
theorem dL_law_1075 : decode cL_law 1075 = .ok (.invokevirtual 148, 3) := by decide +kernel
theorem dL_law_1078 : decode cL_law 1078 = .ok (.if_icmp .eq 408, 3) := by decide +kernel
set_option maxRecDepth 20000 in
theorem ggL_law_X11_deal : GoodIn wsL_law wsX11_deal := goodIn_r _ (975 :: 15 :: 34 :: 976 :: 977 :: 2 :: 978 :: 979 :: 980 :: 981 :: 14 :: 982 :: 157 :: 983 :: 984 :: 985 :: 986 :: 60 :: 161 :: 987 :: 154 :: 155 :: 156 :: 158 :: 159 :: 78 :: 160 :: 988 :: 989 :: 990 :: 33 :: 991 :: 98 :: 992 :: 918 :: 188 :: 189 :: 190 :: 186 :: 175 :: 176 :: 177 :: 178 :: 179 :: 180 :: 181 :: 224 :: 225 :: 226 :: 227 :: 228 :: 229 :: 230 :: 231 :: 232 :: 233 :: 234 :: 1181 :: 1182 :: 1183 :: 1184 :: 1185 :: 1186 :: 1187 :: 1188 :: 1189 :: 1190 :: 1191 :: 1192 :: 1193 :: 1194 :: 1195 :: 1196 :: 1221 :: 1222 :: 1223 :: 1238 :: []) (by decide +kernel) (by decide +kernel)
set_option maxRecDepth 20000 in
theorem gL_law_X11_deal : GoodIn wsL_law (wsV RL 149 RX11 yX11_deal wsX11_deal) := goodIn_app (goodIn_of _ (by decide +kernel)) ggL_law_X11_deal
set_option maxRecDepth 20000 in
theorem ggL_law_X12_deal : GoodIn wsL_law wsX12_deal := goodIn_r _ (996 :: 167 :: 168 :: 5 :: 169 :: 997 :: 998 :: 999 :: 1000 :: 166 :: 134 :: 1001 :: 1002 :: 1003 :: 1004 :: 133 :: 1005 :: 203 :: 204 :: 205 :: 206 :: 294 :: 295 :: 296 :: 297 :: 298 :: 299 :: 300 :: 1197 :: 1198 :: 1199 :: 1200 :: 1201 :: 1202 :: 1203 :: 1204 :: 1205 :: 1206 :: 1207 :: 1208 :: 1209 :: 1210 :: 1211 :: 1212 :: 1213 :: 1214 :: 1215 :: 1216 :: 1217 :: 1218 :: 1219 :: 1220 :: []) (by decide +kernel) (by decide +kernel)
set_option maxRecDepth 20000 in
theorem gL_law_X12_deal : GoodIn wsL_law (wsV RL 152 RX12 yX12_deal wsX12_deal) := goodIn_app (goodIn_of _ (by decide +kernel)) ggL_law_X12_deal
theorem dL_law_1083 : decode cL_law 1083 = .ok (.aload_n 1, 1) := by decide +kernel
theorem dL_law_1084 : decode cL_law 1084 = .ok (.aload_n 0, 1) := by decide +kernel
theorem dL_law_1085 : decode cL_law 1085 = .ok (.iload_n 3, 1) := by decide +kernel
theorem dL_law_1086 : decode cL_law 1086 = .ok (.iconst 1, 1) := by decide +kernel
theorem dL_law_1087 : decode cL_law 1087 = .ok (.iadd, 1) := by decide +kernel
theorem dL_law_1088 : decode cL_law 1088 = .ok (.iaload, 1) := by decide +kernel
theorem dL_law_1089 : decode cL_law 1089 = .ok (.aload_n 0, 1) := by decide +kernel
theorem dL_law_1090 : decode cL_law 1090 = .ok (.iload_n 3, 1) := by decide +kernel
theorem dL_law_1091 : decode cL_law 1091 = .ok (.iconst 2, 1) := by decide +kernel
theorem dL_law_1092 : decode cL_law 1092 = .ok (.iadd, 1) := by decide +kernel
theorem dL_law_1093 : decode cL_law 1093 = .ok (.iaload, 1) := by decide +kernel
theorem dL_law_1094 : decode cL_law 1094 = .ok (.invokevirtual 149, 3) := by decide +kernel
theorem dL_law_1097 : decode cL_law 1097 = .ok (.aload_n 2, 1) := by decide +kernel
theorem dL_law_1098 : decode cL_law 1098 = .ok (.aload_n 0, 1) := by decide +kernel
theorem dL_law_1099 : decode cL_law 1099 = .ok (.iload_n 3, 1) := by decide +kernel
theorem dL_law_1100 : decode cL_law 1100 = .ok (.iconst 1, 1) := by decide +kernel
theorem dL_law_1101 : decode cL_law 1101 = .ok (.iadd, 1) := by decide +kernel
theorem dL_law_1102 : decode cL_law 1102 = .ok (.iaload, 1) := by decide +kernel
theorem dL_law_1103 : decode cL_law 1103 = .ok (.aload_n 0, 1) := by decide +kernel
theorem dL_law_1104 : decode cL_law 1104 = .ok (.iload_n 3, 1) := by decide +kernel
theorem dL_law_1105 : decode cL_law 1105 = .ok (.iconst 2, 1) := by decide +kernel
theorem dL_law_1106 : decode cL_law 1106 = .ok (.iadd, 1) := by decide +kernel
theorem dL_law_1107 : decode cL_law 1107 = .ok (.iaload, 1) := by decide +kernel
theorem dL_law_1108 : decode cL_law 1108 = .ok (.invokevirtual 152, 3) := by decide +kernel
theorem dL_law_1111 : decode cL_law 1111 = .ok (.if_icmp .eq 375, 3) := by decide +kernel
set_option maxRecDepth 20000 in
theorem ggL_law_X11_times : GoodIn wsL_law wsX11_times := goodIn_r _ (1009 :: 34 :: 28 :: 29 :: 976 :: 977 :: 2 :: 978 :: 979 :: 980 :: 981 :: 14 :: 982 :: 157 :: 983 :: 984 :: 985 :: 986 :: 60 :: 161 :: 987 :: 154 :: 155 :: 156 :: 158 :: 159 :: 78 :: 160 :: 988 :: 989 :: 990 :: 33 :: 991 :: 98 :: 992 :: 918 :: 188 :: 189 :: 190 :: 186 :: 175 :: 176 :: 177 :: 178 :: 179 :: 180 :: 181 :: 235 :: 236 :: 237 :: 238 :: 270 :: 271 :: 272 :: 18 :: 273 :: 265 :: 229 :: 230 :: 231 :: 232 :: 233 :: 234 :: 274 :: 240 :: 241 :: 242 :: 243 :: 244 :: 245 :: 246 :: 247 :: 70 :: 68 :: 69 :: 248 :: 249 :: 250 :: 67 :: 251 :: 75 :: 80 :: 252 :: 253 :: 254 :: 255 :: 256 :: 257 :: 258 :: 259 :: 260 :: 261 :: 262 :: 263 :: 264 :: 266 :: 267 :: 268 :: 269 :: 1181 :: 1182 :: 1183 :: 1184 :: 1185 :: 1186 :: 1187 :: 1188 :: 1189 :: 1190 :: 1191 :: 1192 :: 1193 :: 1194 :: 1195 :: 1196 :: 1238 :: 1221 :: 1222 :: 1223 :: 1224 :: 1225 :: 1226 :: 1227 :: 1260 :: 1261 :: []) (by decide +kernel) (by decide +kernel)
set_option maxRecDepth 20000 in
theorem gL_law_X11_times : GoodIn wsL_law (wsV RL 153 RX11 yX11_times wsX11_times) := goodIn_app (goodIn_of _ (by decide +kernel)) ggL_law_X11_times
set_option maxRecDepth 20000 in
theorem ggL_law_X12_times : GoodIn wsL_law wsX12_times := goodIn_r _ (1013 :: 167 :: 168 :: 5 :: 169 :: 925 :: 926 :: 927 :: 928 :: 148 :: 166 :: 133 :: 134 :: 997 :: 998 :: 999 :: 1000 :: 1001 :: 1002 :: 1003 :: 1004 :: 1005 :: 203 :: 204 :: 205 :: 206 :: 319 :: 320 :: 321 :: 322 :: 301 :: 302 :: 303 :: 304 :: 135 :: 305 :: 306 :: 307 :: 308 :: 136 :: 309 :: 310 :: 311 :: 312 :: 313 :: 314 :: 315 :: 316 :: 317 :: 318 :: 960 :: 961 :: 962 :: 963 :: 1197 :: 1198 :: 1199 :: 1200 :: 1201 :: 1202 :: 1203 :: 1204 :: 1205 :: 1206 :: 1207 :: 1208 :: 1209 :: 1210 :: 1211 :: 1212 :: 1213 :: 1214 :: 1215 :: 1216 :: 1217 :: 1218 :: 1219 :: 1220 :: []) (by decide +kernel) (by decide +kernel)
set_option maxRecDepth 20000 in
theorem gL_law_X12_times : GoodIn wsL_law (wsV RL 157 RX12 yX12_times wsX12_times) := goodIn_app (goodIn_of _ (by decide +kernel)) ggL_law_X12_times
