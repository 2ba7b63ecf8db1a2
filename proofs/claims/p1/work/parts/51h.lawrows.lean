theorem dL_law_1116 : decode cL_law 1116 = .ok (.aload_n 1, 1) := by decide +kernel
theorem dL_law_1117 : decode cL_law 1117 = .ok (.aload_n 0, 1) := by decide +kernel
theorem dL_law_1118 : decode cL_law 1118 = .ok (.iload_n 3, 1) := by decide +kernel
theorem dL_law_1119 : decode cL_law 1119 = .ok (.iconst 1, 1) := by decide +kernel
theorem dL_law_1120 : decode cL_law 1120 = .ok (.iadd, 1) := by decide +kernel
theorem dL_law_1121 : decode cL_law 1121 = .ok (.iaload, 1) := by decide +kernel
theorem dL_law_1122 : decode cL_law 1122 = .ok (.aload_n 0, 1) := by decide +kernel
theorem dL_law_1123 : decode cL_law 1123 = .ok (.iload_n 3, 1) := by decide +kernel
theorem dL_law_1124 : decode cL_law 1124 = .ok (.iconst 2, 1) := by decide +kernel
theorem dL_law_1125 : decode cL_law 1125 = .ok (.iadd, 1) := by decide +kernel
theorem dL_law_1126 : decode cL_law 1126 = .ok (.iaload, 1) := by decide +kernel
theorem dL_law_1127 : decode cL_law 1127 = .ok (.aload_n 0, 1) := by decide +kernel
theorem dL_law_1128 : decode cL_law 1128 = .ok (.iload_n 3, 1) := by decide +kernel
theorem dL_law_1129 : decode cL_law 1129 = .ok (.iconst 3, 1) := by decide +kernel
theorem dL_law_1130 : decode cL_law 1130 = .ok (.iadd, 1) := by decide +kernel
theorem dL_law_1131 : decode cL_law 1131 = .ok (.iaload, 1) := by decide +kernel
theorem dL_law_1132 : decode cL_law 1132 = .ok (.aload_n 0, 1) := by decide +kernel
theorem dL_law_1133 : decode cL_law 1133 = .ok (.iload_n 3, 1) := by decide +kernel
theorem dL_law_1134 : decode cL_law 1134 = .ok (.iconst 4, 1) := by decide +kernel
theorem dL_law_1135 : decode cL_law 1135 = .ok (.iadd, 1) := by decide +kernel
theorem dL_law_1136 : decode cL_law 1136 = .ok (.iaload, 1) := by decide +kernel
theorem dL_law_1137 : decode cL_law 1137 = .ok (.invokevirtual 153, 3) := by decide +kernel
theorem dL_law_1140 : decode cL_law 1140 = .ok (.aload_n 2, 1) := by decide +kernel
theorem dL_law_1141 : decode cL_law 1141 = .ok (.aload_n 0, 1) := by decide +kernel
theorem dL_law_1142 : decode cL_law 1142 = .ok (.iload_n 3, 1) := by decide +kernel
theorem dL_law_1143 : decode cL_law 1143 = .ok (.iconst 1, 1) := by decide +kernel
theorem dL_law_1144 : decode cL_law 1144 = .ok (.iadd, 1) := by decide +kernel
theorem dL_law_1145 : decode cL_law 1145 = .ok (.iaload, 1) := by decide +kernel
theorem dL_law_1146 : decode cL_law 1146 = .ok (.aload_n 0, 1) := by decide +kernel
theorem dL_law_1147 : decode cL_law 1147 = .ok (.iload_n 3, 1) := by decide +kernel
theorem dL_law_1148 : decode cL_law 1148 = .ok (.iconst 2, 1) := by decide +kernel
theorem dL_law_1149 : decode cL_law 1149 = .ok (.iadd, 1) := by decide +kernel
theorem dL_law_1150 : decode cL_law 1150 = .ok (.iaload, 1) := by decide +kernel
theorem dL_law_1151 : decode cL_law 1151 = .ok (.aload_n 0, 1) := by decide +kernel
theorem dL_law_1152 : decode cL_law 1152 = .ok (.iload_n 3, 1) := by decide +kernel
theorem dL_law_1153 : decode cL_law 1153 = .ok (.iconst 3, 1) := by decide +kernel
theorem dL_law_1154 : decode cL_law 1154 = .ok (.iadd, 1) := by decide +kernel
theorem dL_law_1155 : decode cL_law 1155 = .ok (.iaload, 1) := by decide +kernel
theorem dL_law_1156 : decode cL_law 1156 = .ok (.aload_n 0, 1) := by decide +kernel
theorem dL_law_1157 : decode cL_law 1157 = .ok (.iload_n 3, 1) := by decide +kernel
theorem dL_law_1158 : decode cL_law 1158 = .ok (.iconst 4, 1) := by decide +kernel
theorem dL_law_1159 : decode cL_law 1159 = .ok (.iadd, 1) := by decide +kernel
theorem dL_law_1160 : decode cL_law 1160 = .ok (.iaload, 1) := by decide +kernel
theorem dL_law_1161 : decode cL_law 1161 = .ok (.invokevirtual 157, 3) := by decide +kernel
theorem dL_law_1164 : decode cL_law 1164 = .ok (.if_icmp .eq 322, 3) := by decide +kernel
set_option maxRecDepth 20000 in
theorem ggL_law_X11_shelf : GoodIn wsL_law wsX11_shelf := goodIn_r _ (1017 :: 53 :: 1018 :: 1019 :: 2 :: 1020 :: 1021 :: 1022 :: 1023 :: 1024 :: 15 :: 23 :: 211 :: 179 :: 180 :: 14 :: 181 :: 157 :: 423 :: 424 :: 425 :: 22 :: 426 :: 86 :: 85 :: 427 :: 428 :: 429 :: 18 :: 430 :: 70 :: 359 :: 236 :: 237 :: 238 :: 274 :: 240 :: 241 :: 242 :: 243 :: 244 :: 245 :: 246 :: 247 :: 68 :: 69 :: 248 :: 249 :: 250 :: 67 :: 251 :: 75 :: 80 :: 252 :: 253 :: 254 :: 255 :: 256 :: 257 :: 230 :: 258 :: 259 :: 260 :: 261 :: 262 :: 263 :: 264 :: 265 :: 229 :: 231 :: 232 :: 233 :: 234 :: 266 :: 267 :: 268 :: 269 :: 431 :: 213 :: 214 :: 215 :: 60 :: 178 :: 1025 :: 1026 :: 1027 :: 52 :: 1028 :: 122 :: 123 :: 1029 :: 1030 :: 1031 :: 1032 :: 444 :: 445 :: 446 :: 447 :: 448 :: 449 :: 450 :: 451 :: 452 :: 476 :: 477 :: 478 :: 479 :: 279 :: 280 :: 281 :: 282 :: 283 :: 284 :: 285 :: 286 :: 287 :: 288 :: 1033 :: 1034 :: 1035 :: 1036 :: 335 :: 336 :: 337 :: 338 :: 1037 :: 1038 :: 1039 :: 1040 :: 44 :: 680 :: 681 :: 682 :: 683 :: 684 :: 685 :: 686 :: 687 :: 688 :: 689 :: 55 :: 690 :: 128 :: 1181 :: 1182 :: 1183 :: 1184 :: 1185 :: 1186 :: 1187 :: 1188 :: 1189 :: 1190 :: 1191 :: 1192 :: 1193 :: 1194 :: 1195 :: 1196 :: 1221 :: 1222 :: 1223 :: 1228 :: 1229 :: 1224 :: 1225 :: 1226 :: 1227 :: 1260 :: 1261 :: 1255 :: 1256 :: 1257 :: 1258 :: 1259 :: []) (by decide +kernel) (by decide +kernel)
set_option maxRecDepth 20000 in
theorem gL_law_X11_shelf : GoodIn wsL_law (wsV RL 158 RX11 yX11_shelf wsX11_shelf) := goodIn_app (goodIn_of _ (by decide +kernel)) ggL_law_X11_shelf
set_option maxRecDepth 20000 in
theorem ggL_law_X12_shelf : GoodIn wsL_law wsX12_shelf := goodIn_r _ (1044 :: 142 :: 145 :: 146 :: 143 :: 147 :: 1045 :: 1046 :: 5 :: 1047 :: 167 :: 168 :: 169 :: 199 :: 200 :: 201 :: 202 :: 166 :: 343 :: 344 :: 345 :: 346 :: 309 :: 310 :: 311 :: 312 :: 713 :: 714 :: 715 :: 485 :: 486 :: 487 :: 488 :: 468 :: 469 :: 470 :: 471 :: 305 :: 306 :: 307 :: 308 :: 136 :: 135 :: 134 :: 313 :: 314 :: 315 :: 316 :: 317 :: 318 :: 436 :: 437 :: 438 :: 439 :: 412 :: 413 :: 414 :: 415 :: 327 :: 328 :: 329 :: 330 :: 1048 :: 433 :: 434 :: 435 :: 1197 :: 1198 :: 1199 :: 1200 :: 1201 :: 1202 :: 1203 :: 1204 :: 1205 :: 1206 :: 1207 :: 1208 :: 1209 :: 1210 :: 1211 :: 1212 :: 1213 :: 1214 :: 1215 :: 1216 :: 1217 :: 1218 :: 1219 :: 1220 :: []) (by decide +kernel) (by decide +kernel)
set_option maxRecDepth 20000 in
theorem gL_law_X12_shelf : GoodIn wsL_law (wsV RL 161 RX12 yX12_shelf wsX12_shelf) := goodIn_app (goodIn_of _ (by decide +kernel)) ggL_law_X12_shelf
theorem dL_law_1169 : decode cL_law 1169 = .ok (.aload_n 1, 1) := by decide +kernel
theorem dL_law_1170 : decode cL_law 1170 = .ok (.aload_n 0, 1) := by decide +kernel
theorem dL_law_1171 : decode cL_law 1171 = .ok (.iload_n 3, 1) := by decide +kernel
theorem dL_law_1172 : decode cL_law 1172 = .ok (.iconst 1, 1) := by decide +kernel
theorem dL_law_1173 : decode cL_law 1173 = .ok (.iadd, 1) := by decide +kernel
theorem dL_law_1174 : decode cL_law 1174 = .ok (.iaload, 1) := by decide +kernel
theorem dL_law_1175 : decode cL_law 1175 = .ok (.aload_n 0, 1) := by decide +kernel
theorem dL_law_1176 : decode cL_law 1176 = .ok (.iload_n 3, 1) := by decide +kernel
theorem dL_law_1177 : decode cL_law 1177 = .ok (.iconst 2, 1) := by decide +kernel
theorem dL_law_1178 : decode cL_law 1178 = .ok (.iadd, 1) := by decide +kernel
theorem dL_law_1179 : decode cL_law 1179 = .ok (.iaload, 1) := by decide +kernel
theorem dL_law_1180 : decode cL_law 1180 = .ok (.aload_n 0, 1) := by decide +kernel
theorem dL_law_1181 : decode cL_law 1181 = .ok (.iload_n 3, 1) := by decide +kernel
theorem dL_law_1182 : decode cL_law 1182 = .ok (.iconst 3, 1) := by decide +kernel
theorem dL_law_1183 : decode cL_law 1183 = .ok (.iadd, 1) := by decide +kernel
theorem dL_law_1184 : decode cL_law 1184 = .ok (.iaload, 1) := by decide +kernel
theorem dL_law_1185 : decode cL_law 1185 = .ok (.invokevirtual 158, 3) := by decide +kernel
theorem dL_law_1188 : decode cL_law 1188 = .ok (.aload_n 2, 1) := by decide +kernel
theorem dL_law_1189 : decode cL_law 1189 = .ok (.aload_n 0, 1) := by decide +kernel
theorem dL_law_1190 : decode cL_law 1190 = .ok (.iload_n 3, 1) := by decide +kernel
theorem dL_law_1191 : decode cL_law 1191 = .ok (.iconst 1, 1) := by decide +kernel
theorem dL_law_1192 : decode cL_law 1192 = .ok (.iadd, 1) := by decide +kernel
theorem dL_law_1193 : decode cL_law 1193 = .ok (.iaload, 1) := by decide +kernel
theorem dL_law_1194 : decode cL_law 1194 = .ok (.aload_n 0, 1) := by decide +kernel
theorem dL_law_1195 : decode cL_law 1195 = .ok (.iload_n 3, 1) := by decide +kernel
theorem dL_law_1196 : decode cL_law 1196 = .ok (.iconst 2, 1) := by decide +kernel
theorem dL_law_1197 : decode cL_law 1197 = .ok (.iadd, 1) := by decide +kernel
theorem dL_law_1198 : decode cL_law 1198 = .ok (.iaload, 1) := by decide +kernel
theorem dL_law_1199 : decode cL_law 1199 = .ok (.aload_n 0, 1) := by decide +kernel
theorem dL_law_1200 : decode cL_law 1200 = .ok (.iload_n 3, 1) := by decide +kernel
theorem dL_law_1201 : decode cL_law 1201 = .ok (.iconst 3, 1) := by decide +kernel
theorem dL_law_1202 : decode cL_law 1202 = .ok (.iadd, 1) := by decide +kernel
theorem dL_law_1203 : decode cL_law 1203 = .ok (.iaload, 1) := by decide +kernel
theorem dL_law_1204 : decode cL_law 1204 = .ok (.invokevirtual 161, 3) := by decide +kernel
theorem dL_law_1207 : decode cL_law 1207 = .ok (.if_icmp .eq 279, 3) := by decide +kernel
set_option maxRecDepth 20000 in
theorem ggL_law_X11_taken : GoodIn wsL_law wsX11_taken := goodIn_r _ (1052 :: 53 :: 1053 :: 1054 :: 2 :: 1055 :: 1018 :: 1019 :: 1020 :: 831 :: 832 :: 833 :: 1056 :: 1057 :: 1058 :: 52 :: 1059 :: 122 :: 1060 :: 1061 :: 1062 :: 1063 :: 1064 :: 1065 :: 1066 :: 1067 :: 1068 :: 1069 :: 1070 :: 1071 :: 1072 :: 123 :: 1181 :: 1182 :: 1183 :: 1184 :: 1185 :: 1186 :: 1187 :: 1188 :: 1189 :: 1190 :: 1191 :: 1192 :: 1193 :: 1194 :: 1195 :: 1196 :: 1255 :: 1256 :: []) (by decide +kernel) (by decide +kernel)
set_option maxRecDepth 20000 in
theorem gL_law_X11_taken : GoodIn wsL_law (wsV RL 162 RX11 yX11_taken wsX11_taken) := goodIn_app (goodIn_of _ (by decide +kernel)) ggL_law_X11_taken
set_option maxRecDepth 20000 in
theorem ggL_law_X12_taken : GoodIn wsL_law wsX12_taken := goodIn_r _ (1076 :: 145 :: 147 :: 146 :: 1045 :: 1046 :: 5 :: 1047 :: 167 :: 168 :: 169 :: 1077 :: 1078 :: 1079 :: 1080 :: 1081 :: 1082 :: 1197 :: 1198 :: 1199 :: 1200 :: 1201 :: 1202 :: 1203 :: 1204 :: 1205 :: 1206 :: 1207 :: 1208 :: 1209 :: 1210 :: 1211 :: 1212 :: 1213 :: 1214 :: 1215 :: 1216 :: 1217 :: 1218 :: 1219 :: 1220 :: []) (by decide +kernel) (by decide +kernel)
set_option maxRecDepth 20000 in
theorem gL_law_X12_taken : GoodIn wsL_law (wsV RL 165 RX12 yX12_taken wsX12_taken) := goodIn_app (goodIn_of _ (by decide +kernel)) ggL_law_X12_taken
theorem dL_law_1212 : decode cL_law 1212 = .ok (.aload_n 1, 1) := by decide +kernel
theorem dL_law_1213 : decode cL_law 1213 = .ok (.aload_n 0, 1) := by decide +kernel
theorem dL_law_1214 : decode cL_law 1214 = .ok (.iload_n 3, 1) := by decide +kernel
theorem dL_law_1215 : decode cL_law 1215 = .ok (.iconst 1, 1) := by decide +kernel
theorem dL_law_1216 : decode cL_law 1216 = .ok (.iadd, 1) := by decide +kernel
theorem dL_law_1217 : decode cL_law 1217 = .ok (.iaload, 1) := by decide +kernel
theorem dL_law_1218 : decode cL_law 1218 = .ok (.aload_n 0, 1) := by decide +kernel
theorem dL_law_1219 : decode cL_law 1219 = .ok (.iload_n 3, 1) := by decide +kernel
theorem dL_law_1220 : decode cL_law 1220 = .ok (.iconst 2, 1) := by decide +kernel
theorem dL_law_1221 : decode cL_law 1221 = .ok (.iadd, 1) := by decide +kernel
theorem dL_law_1222 : decode cL_law 1222 = .ok (.iaload, 1) := by decide +kernel
theorem dL_law_1223 : decode cL_law 1223 = .ok (.invokevirtual 162, 3) := by decide +kernel
theorem dL_law_1226 : decode cL_law 1226 = .ok (.aload_n 2, 1) := by decide +kernel
theorem dL_law_1227 : decode cL_law 1227 = .ok (.aload_n 0, 1) := by decide +kernel
theorem dL_law_1228 : decode cL_law 1228 = .ok (.iload_n 3, 1) := by decide +kernel
theorem dL_law_1229 : decode cL_law 1229 = .ok (.iconst 1, 1) := by decide +kernel
theorem dL_law_1230 : decode cL_law 1230 = .ok (.iadd, 1) := by decide +kernel
theorem dL_law_1231 : decode cL_law 1231 = .ok (.iaload, 1) := by decide +kernel
theorem dL_law_1232 : decode cL_law 1232 = .ok (.aload_n 0, 1) := by decide +kernel
theorem dL_law_1233 : decode cL_law 1233 = .ok (.iload_n 3, 1) := by decide +kernel
theorem dL_law_1234 : decode cL_law 1234 = .ok (.iconst 2, 1) := by decide +kernel
