/-- the world of the law, once both objects are made -/
def lawW (cI cS : ClassId) (mp n nl pr pm pmc pu puc pa wi we tn tnl tp tm tmc tu tuc im iml dr ta tb re rl sh s0 sn0 s1 sn1 s2 sn2 s3 sn3 to ta1 ta2 ta3 ot tb1 tb2 tb3 sv sk sw mo m_near m_pairs m_gw m_szw m_mates m_way m_others m_tape m_sort m_size m_items m_hk m_hset m_hsort m_kept : Nat) : va_W := ((mp, .inr (11, [.ref n, .ref pr, .ref pa, .ref wi, .ref tn, .ref tp, .ref im, .int 0, .int 0, .ref dr, .ref ta, .ref re, .ref sh, .ref to, .ref ot, .ref sv])) :: (n, .inr (2, [.ref nl, .int 0, .int 0])) :: (nl, .inl (cI, 12, .inl (fun _ => 0))) :: (pr, .inr (3, [.ref n, .ref pm, .ref pu, .int 0])) :: (pm, .inr (1, [.ref pmc, .int 1])) :: (pmc, .inl (cI, 4096, .inl (fun _ => 0))) :: (pu, .inr (1, [.ref puc, .int 1])) :: (puc, .inl (cI, 0, .inl (fun _ => 0))) :: (pa, .inr (4, [.ref n, .ref pr])) :: (wi, .inr (10, [.ref n, .ref pr, .ref we, .int 0, .int 0, .int 0, .int 0, .int (-1)])) :: (we, .inl (cI, 5, .inl (fun _ => 0))) :: (tn, .inr (2, [.ref tnl, .int 0, .int 0])) :: (tnl, .inl (cI, 12, .inl (fun _ => 0))) :: (tp, .inr (3, [.ref tn, .ref tm, .ref tu, .int 0])) :: (tm, .inr (1, [.ref tmc, .int 1])) :: (tmc, .inl (cI, 4096, .inl (fun _ => 0))) :: (tu, .inr (1, [.ref tuc, .int 1])) :: (tuc, .inl (cI, 0, .inl (fun _ => 0))) :: (im, .inr (2, [.ref iml, .int 0, .int 0])) :: (iml, .inl (cI, 12, .inl (fun _ => 0))) :: (dr, .inr (0, [.int 1])) :: (ta, .inr (8, [.ref tb, .int 0])) :: (tb, .inl (cI, 120, .inl (fun _ => 0))) :: (re, .inr (5, [.ref ta, .ref n, .ref rl, .int 0, .int 0, .int 0, .int 0, .int 0])) :: (rl, .inl (cI, 12, .inl (fun _ => 0))) :: (sh, .inl (cS, 4, .inr (.inr (.inr (.inr (fun k => [s0, s1, s2, s3][k]?)))))) :: (s0, .inr (6, [.ref sn0, .int (-1), .int 0])) :: (sn0, .inl (cI, 40, .inl (fun _ => 0))) :: (s1, .inr (6, [.ref sn1, .int (-1), .int 0])) :: (sn1, .inl (cI, 40, .inl (fun _ => 0))) :: (s2, .inr (6, [.ref sn2, .int (-1), .int 0])) :: (sn2, .inl (cI, 40, .inl (fun _ => 0))) :: (s3, .inr (6, [.ref sn3, .int (-1), .int 0])) :: (sn3, .inl (cI, 40, .inl (fun _ => 0))) :: (to, .inr (9, [.ref n, .ref pr, .ref ta1, .ref ta2, .ref ta3, .int 0])) :: (ta1, .inl (cI, 12, .inl (fun _ => 0))) :: (ta2, .inl (cI, 12, .inl (fun _ => 0))) :: (ta3, .inl (cI, 12, .inl (fun _ => 0))) :: (ot, .inr (9, [.ref n, .ref pr, .ref tb1, .ref tb2, .ref tb3, .int 0])) :: (tb1, .inl (cI, 12, .inl (fun _ => 0))) :: (tb2, .inl (cI, 12, .inl (fun _ => 0))) :: (tb3, .inl (cI, 12, .inl (fun _ => 0))) :: (sv, .inr (7, [.ref sk, .ref sw])) :: (sk, .inl (cI, 4, .inl (fun _ => -1))) :: (sw, .inl (cI, 4, .inl (fun _ => 0))) :: (mo, .inr (12, [.int 0, .int 1, .ref m_near, .ref m_pairs, .ref m_gw, .ref m_szw, .ref m_mates, .ref m_way, .ref m_others, .ref m_tape, .int 0, .int 0, .int 0, .int 0, .int 0, .int 0, .ref m_sort, .ref m_size, .ref m_items, .ref m_hk, .ref m_hset, .ref m_hsort, .ref m_kept, .int 0])) :: (m_near, .inl (cI, 12, .inl (fun _ => 0))) :: (m_pairs, .inl (cI, 4096, .inl (fun _ => 0))) :: (m_gw, .inl (cI, 4096, .inl (fun _ => 0))) :: (m_szw, .inl (cI, 28672, .inl (fun _ => 0))) :: (m_mates, .inl (cI, 12, .inl (fun _ => 0))) :: (m_way, .inl (cI, 12, .inl (fun _ => 0))) :: (m_others, .inl (cI, 12, .inl (fun _ => 0))) :: (m_tape, .inl (cI, 120, .inl (fun _ => 0))) :: (m_sort, .inl (cI, 4, .inl (fun _ => -1))) :: (m_size, .inl (cI, 4, .inl (fun _ => 0))) :: (m_items, .inl (cI, 160, .inl (fun _ => 0))) :: (m_hk, .inl (cI, 4, .inl (fun _ => -1))) :: (m_hset, .inl (cI, 4, .inl (fun _ => 0))) :: (m_hsort, .inl (cI, 4, .inl (fun _ => 0))) :: (m_kept, .inl (cI, 28, .inl (fun _ => 0))) :: [])
theorem eq_times (x0 x1 x2 x3 : Int32) : timesR x0 x1 x2 x3 = timesR x0 x1 x2 x3 := rfl
theorem eq_deal (x0 x1 : Int32) : dealR x0 x1 = dealR x0 x1 := rfl
set_option maxRecDepth 20000 in
theorem ggL_law_X11_points : GoodIn wsL_law wsX11_points := goodIn_r _ (152 :: 15 :: 153 :: 154 :: 155 :: 14 :: 156 :: 157 :: 158 :: 159 :: 78 :: 160 :: 161 :: 1181 :: 1182 :: 1183 :: 1184 :: 1185 :: 1186 :: 1187 :: 1188 :: 1189 :: 1190 :: 1191 :: 1192 :: 1193 :: 1194 :: 1195 :: 1196 :: 1221 :: 1222 :: 1223 :: []) (by decide +kernel) (by decide +kernel)
set_option maxRecDepth 20000 in
theorem gL_law_X11_points : GoodIn wsL_law (wsV RL 13 RX11 yX11_points wsX11_points) := goodIn_app (goodIn_of _ (by decide +kernel)) ggL_law_X11_points
set_option maxRecDepth 20000 in
theorem ggL_law_X12_points : GoodIn wsL_law wsX12_points := goodIn_r _ (165 :: 166 :: 134 :: 167 :: 168 :: 5 :: 169 :: 1197 :: 1198 :: 1199 :: 1200 :: 1201 :: 1202 :: 1203 :: 1204 :: 1205 :: 1206 :: 1207 :: 1208 :: 1209 :: 1210 :: 1211 :: 1212 :: 1213 :: 1214 :: 1215 :: 1216 :: 1217 :: 1218 :: 1219 :: 1220 :: []) (by decide +kernel) (by decide +kernel)
set_option maxRecDepth 20000 in
theorem gL_law_X12_points : GoodIn wsL_law (wsV RL 17 RX12 yX12_points wsX12_points) := goodIn_app (goodIn_of _ (by decide +kernel)) ggL_law_X12_points
theorem dL_law_224 : decode cL_law 224 = .ok (.aload_n 1, 1) := by decide +kernel
theorem dL_law_225 : decode cL_law 225 = .ok (.aload_n 0, 1) := by decide +kernel
theorem dL_law_226 : decode cL_law 226 = .ok (.iload_n 3, 1) := by decide +kernel
theorem dL_law_227 : decode cL_law 227 = .ok (.iconst 1, 1) := by decide +kernel
theorem dL_law_228 : decode cL_law 228 = .ok (.iadd, 1) := by decide +kernel
theorem dL_law_229 : decode cL_law 229 = .ok (.iaload, 1) := by decide +kernel
theorem dL_law_230 : decode cL_law 230 = .ok (.invokevirtual 13, 3) := by decide +kernel
theorem dL_law_233 : decode cL_law 233 = .ok (.aload_n 2, 1) := by decide +kernel
theorem dL_law_234 : decode cL_law 234 = .ok (.aload_n 0, 1) := by decide +kernel
theorem dL_law_235 : decode cL_law 235 = .ok (.iload_n 3, 1) := by decide +kernel
theorem dL_law_236 : decode cL_law 236 = .ok (.iconst 1, 1) := by decide +kernel
theorem dL_law_237 : decode cL_law 237 = .ok (.iadd, 1) := by decide +kernel
theorem dL_law_238 : decode cL_law 238 = .ok (.iaload, 1) := by decide +kernel
theorem dL_law_239 : decode cL_law 239 = .ok (.invokevirtual 17, 3) := by decide +kernel
theorem dL_law_242 : decode cL_law 242 = .ok (.if_icmp .eq 1244, 3) := by decide +kernel
set_option maxRecDepth 20000 in
theorem ggL_law_X11_line : GoodIn wsL_law wsX11_line := goodIn_r _ (173 :: 15 :: 174 :: 175 :: 176 :: 14 :: 177 :: 178 :: 179 :: 180 :: 181 :: 157 :: 182 :: 183 :: 184 :: 185 :: 60 :: 186 :: 187 :: 188 :: 189 :: 190 :: 161 :: 1181 :: 1182 :: 1183 :: 1184 :: 1185 :: 1186 :: 1187 :: 1188 :: 1189 :: 1190 :: 1191 :: 1192 :: 1193 :: 1194 :: 1195 :: 1196 :: 1221 :: 1222 :: 1223 :: []) (by decide +kernel) (by decide +kernel)
set_option maxRecDepth 20000 in
theorem gL_law_X11_line : GoodIn wsL_law (wsV RL 18 RX11 yX11_line wsX11_line) := goodIn_app (goodIn_of _ (by decide +kernel)) ggL_law_X11_line
set_option maxRecDepth 20000 in
theorem ggL_law_X12_line : GoodIn wsL_law wsX12_line := goodIn_r _ (194 :: 134 :: 195 :: 196 :: 197 :: 5 :: 198 :: 199 :: 200 :: 201 :: 202 :: 166 :: 167 :: 168 :: 169 :: 203 :: 204 :: 205 :: 206 :: 1197 :: 1198 :: 1199 :: 1200 :: 1201 :: 1202 :: 1203 :: 1204 :: 1205 :: 1206 :: 1207 :: 1208 :: 1209 :: 1210 :: 1211 :: 1212 :: 1213 :: 1214 :: 1215 :: 1216 :: 1217 :: 1218 :: 1219 :: 1220 :: []) (by decide +kernel) (by decide +kernel)
set_option maxRecDepth 20000 in
theorem gL_law_X12_line : GoodIn wsL_law (wsV RL 22 RX12 yX12_line wsX12_line) := goodIn_app (goodIn_of _ (by decide +kernel)) ggL_law_X12_line
theorem dL_law_247 : decode cL_law 247 = .ok (.aload_n 1, 1) := by decide +kernel
theorem dL_law_248 : decode cL_law 248 = .ok (.aload_n 0, 1) := by decide +kernel
theorem dL_law_249 : decode cL_law 249 = .ok (.iload_n 3, 1) := by decide +kernel
theorem dL_law_250 : decode cL_law 250 = .ok (.iconst 1, 1) := by decide +kernel
theorem dL_law_251 : decode cL_law 251 = .ok (.iadd, 1) := by decide +kernel
theorem dL_law_252 : decode cL_law 252 = .ok (.iaload, 1) := by decide +kernel
theorem dL_law_253 : decode cL_law 253 = .ok (.aload_n 0, 1) := by decide +kernel
theorem dL_law_254 : decode cL_law 254 = .ok (.iload_n 3, 1) := by decide +kernel
theorem dL_law_255 : decode cL_law 255 = .ok (.iconst 2, 1) := by decide +kernel
theorem dL_law_256 : decode cL_law 256 = .ok (.iadd, 1) := by decide +kernel
theorem dL_law_257 : decode cL_law 257 = .ok (.iaload, 1) := by decide +kernel
theorem dL_law_258 : decode cL_law 258 = .ok (.aload_n 0, 1) := by decide +kernel
theorem dL_law_259 : decode cL_law 259 = .ok (.iload_n 3, 1) := by decide +kernel
theorem dL_law_260 : decode cL_law 260 = .ok (.iconst 3, 1) := by decide +kernel
theorem dL_law_261 : decode cL_law 261 = .ok (.iadd, 1) := by decide +kernel
theorem dL_law_262 : decode cL_law 262 = .ok (.iaload, 1) := by decide +kernel
theorem dL_law_263 : decode cL_law 263 = .ok (.invokevirtual 18, 3) := by decide +kernel
theorem dL_law_266 : decode cL_law 266 = .ok (.aload_n 2, 1) := by decide +kernel
theorem dL_law_267 : decode cL_law 267 = .ok (.aload_n 0, 1) := by decide +kernel
theorem dL_law_268 : decode cL_law 268 = .ok (.iload_n 3, 1) := by decide +kernel
theorem dL_law_269 : decode cL_law 269 = .ok (.iconst 1, 1) := by decide +kernel
theorem dL_law_270 : decode cL_law 270 = .ok (.iadd, 1) := by decide +kernel
theorem dL_law_271 : decode cL_law 271 = .ok (.iaload, 1) := by decide +kernel
theorem dL_law_272 : decode cL_law 272 = .ok (.aload_n 0, 1) := by decide +kernel
theorem dL_law_273 : decode cL_law 273 = .ok (.iload_n 3, 1) := by decide +kernel
theorem dL_law_274 : decode cL_law 274 = .ok (.iconst 2, 1) := by decide +kernel
theorem dL_law_275 : decode cL_law 275 = .ok (.iadd, 1) := by decide +kernel
theorem dL_law_276 : decode cL_law 276 = .ok (.iaload, 1) := by decide +kernel
theorem dL_law_277 : decode cL_law 277 = .ok (.aload_n 0, 1) := by decide +kernel
theorem dL_law_278 : decode cL_law 278 = .ok (.iload_n 3, 1) := by decide +kernel
theorem dL_law_279 : decode cL_law 279 = .ok (.iconst 3, 1) := by decide +kernel
theorem dL_law_280 : decode cL_law 280 = .ok (.iadd, 1) := by decide +kernel
theorem dL_law_281 : decode cL_law 281 = .ok (.iaload, 1) := by decide +kernel
theorem dL_law_282 : decode cL_law 282 = .ok (.invokevirtual 22, 3) := by decide +kernel
theorem dL_law_285 : decode cL_law 285 = .ok (.if_icmp .eq 1201, 3) := by decide +kernel
set_option maxRecDepth 20000 in
theorem ggL_law_X11_next : GoodIn wsL_law wsX11_next := goodIn_r _ (210 :: 15 :: 211 :: 179 :: 180 :: 14 :: 181 :: 157 :: 212 :: 213 :: 214 :: 215 :: 60 :: 178 :: 1181 :: 1182 :: 1183 :: 1184 :: 1185 :: 1186 :: 1187 :: 1188 :: 1189 :: 1190 :: 1191 :: 1192 :: 1193 :: 1194 :: 1195 :: 1196 :: 1221 :: 1222 :: 1223 :: []) (by decide +kernel) (by decide +kernel)
set_option maxRecDepth 20000 in
theorem gL_law_X11_next : GoodIn wsL_law (wsV RL 23 RX11 yX11_next wsX11_next) := goodIn_app (goodIn_of _ (by decide +kernel)) ggL_law_X11_next
set_option maxRecDepth 20000 in
theorem ggL_law_X12_next : GoodIn wsL_law wsX12_next := goodIn_r _ (219 :: 134 :: 199 :: 200 :: 201 :: 5 :: 202 :: 166 :: 167 :: 168 :: 169 :: 1197 :: 1198 :: 1199 :: 1200 :: 1201 :: 1202 :: 1203 :: 1204 :: 1205 :: 1206 :: 1207 :: 1208 :: 1209 :: 1210 :: 1211 :: 1212 :: 1213 :: 1214 :: 1215 :: 1216 :: 1217 :: 1218 :: 1219 :: 1220 :: []) (by decide +kernel) (by decide +kernel)
set_option maxRecDepth 20000 in
theorem gL_law_X12_next : GoodIn wsL_law (wsV RL 26 RX12 yX12_next wsX12_next) := goodIn_app (goodIn_of _ (by decide +kernel)) ggL_law_X12_next
theorem dL_law_290 : decode cL_law 290 = .ok (.aload_n 1, 1) := by decide +kernel
theorem dL_law_291 : decode cL_law 291 = .ok (.aload_n 0, 1) := by decide +kernel
theorem dL_law_292 : decode cL_law 292 = .ok (.iload_n 3, 1) := by decide +kernel
theorem dL_law_293 : decode cL_law 293 = .ok (.iconst 1, 1) := by decide +kernel
theorem dL_law_294 : decode cL_law 294 = .ok (.iadd, 1) := by decide +kernel
theorem dL_law_295 : decode cL_law 295 = .ok (.iaload, 1) := by decide +kernel
theorem dL_law_296 : decode cL_law 296 = .ok (.invokevirtual 23, 3) := by decide +kernel
theorem dL_law_299 : decode cL_law 299 = .ok (.aload_n 2, 1) := by decide +kernel
theorem dL_law_300 : decode cL_law 300 = .ok (.aload_n 0, 1) := by decide +kernel
theorem dL_law_301 : decode cL_law 301 = .ok (.iload_n 3, 1) := by decide +kernel
theorem dL_law_302 : decode cL_law 302 = .ok (.iconst 1, 1) := by decide +kernel
theorem dL_law_303 : decode cL_law 303 = .ok (.iadd, 1) := by decide +kernel
theorem dL_law_304 : decode cL_law 304 = .ok (.iaload, 1) := by decide +kernel
theorem dL_law_305 : decode cL_law 305 = .ok (.invokevirtual 26, 3) := by decide +kernel
theorem dL_law_308 : decode cL_law 308 = .ok (.if_icmp .eq 1178, 3) := by decide +kernel
set_option maxRecDepth 20000 in
theorem ggL_law_X11_count : GoodIn wsL_law wsX11_count := goodIn_r _ (223 :: 15 :: 19 :: 38 :: 34 :: 224 :: 225 :: 226 :: 14 :: 227 :: 157 :: 60 :: 228 :: 229 :: 230 :: 231 :: 232 :: 233 :: 234 :: 235 :: 236 :: 237 :: 238 :: 239 :: 240 :: 241 :: 18 :: 242 :: 243 :: 244 :: 245 :: 246 :: 247 :: 70 :: 68 :: 69 :: 248 :: 249 :: 250 :: 67 :: 251 :: 75 :: 80 :: 252 :: 253 :: 254 :: 255 :: 256 :: 257 :: 258 :: 259 :: 260 :: 261 :: 262 :: 263 :: 264 :: 265 :: 266 :: 267 :: 268 :: 269 :: 270 :: 271 :: 272 :: 273 :: 274 :: 275 :: 276 :: 277 :: 278 :: 279 :: 280 :: 281 :: 282 :: 283 :: 284 :: 285 :: 286 :: 287 :: 288 :: 1181 :: 1182 :: 1183 :: 1184 :: 1185 :: 1186 :: 1187 :: 1188 :: 1189 :: 1190 :: 1191 :: 1192 :: 1193 :: 1194 :: 1195 :: 1196 :: 1221 :: 1222 :: 1223 :: 1239 :: 1240 :: 1238 :: 1224 :: 1225 :: 1226 :: 1227 :: 1260 :: 1261 :: []) (by decide +kernel) (by decide +kernel)
set_option maxRecDepth 20000 in
theorem gL_law_X11_count : GoodIn wsL_law (wsV RL 27 RX11 yX11_count wsX11_count) := goodIn_app (goodIn_of _ (by decide +kernel)) ggL_law_X11_count
set_option maxRecDepth 20000 in
theorem ggL_law_X12_count : GoodIn wsL_law wsX12_count := goodIn_r _ (292 :: 166 :: 293 :: 133 :: 294 :: 295 :: 296 :: 5 :: 297 :: 134 :: 298 :: 299 :: 300 :: 301 :: 302 :: 303 :: 304 :: 135 :: 305 :: 306 :: 307 :: 308 :: 136 :: 309 :: 310 :: 311 :: 312 :: 313 :: 314 :: 315 :: 316 :: 317 :: 318 :: 319 :: 320 :: 321 :: 322 :: 323 :: 324 :: 325 :: 326 :: 327 :: 328 :: 329 :: 330 :: 1197 :: 1198 :: 1199 :: 1200 :: 1201 :: 1202 :: 1203 :: 1204 :: 1205 :: 1206 :: 1207 :: 1208 :: 1209 :: 1210 :: 1211 :: 1212 :: 1213 :: 1214 :: 1215 :: 1216 :: 1217 :: 1218 :: 1219 :: 1220 :: []) (by decide +kernel) (by decide +kernel)
set_option maxRecDepth 20000 in
theorem gL_law_X12_count : GoodIn wsL_law (wsV RL 30 RX12 yX12_count wsX12_count) := goodIn_app (goodIn_of _ (by decide +kernel)) ggL_law_X12_count
theorem dL_law_313 : decode cL_law 313 = .ok (.aload_n 1, 1) := by decide +kernel
theorem dL_law_314 : decode cL_law 314 = .ok (.aload_n 0, 1) := by decide +kernel
theorem dL_law_315 : decode cL_law 315 = .ok (.iload_n 3, 1) := by decide +kernel
theorem dL_law_316 : decode cL_law 316 = .ok (.iconst 1, 1) := by decide +kernel
theorem dL_law_317 : decode cL_law 317 = .ok (.iadd, 1) := by decide +kernel
theorem dL_law_318 : decode cL_law 318 = .ok (.iaload, 1) := by decide +kernel
theorem dL_law_319 : decode cL_law 319 = .ok (.invokevirtual 27, 3) := by decide +kernel
theorem dL_law_322 : decode cL_law 322 = .ok (.aload_n 2, 1) := by decide +kernel
theorem dL_law_323 : decode cL_law 323 = .ok (.aload_n 0, 1) := by decide +kernel
theorem dL_law_324 : decode cL_law 324 = .ok (.iload_n 3, 1) := by decide +kernel
theorem dL_law_325 : decode cL_law 325 = .ok (.iconst 1, 1) := by decide +kernel
theorem dL_law_326 : decode cL_law 326 = .ok (.iadd, 1) := by decide +kernel
theorem dL_law_327 : decode cL_law 327 = .ok (.iaload, 1) := by decide +kernel
theorem dL_law_328 : decode cL_law 328 = .ok (.invokevirtual 30, 3) := by decide +kernel
theorem dL_law_331 : decode cL_law 331 = .ok (.if_icmp .eq 1155, 3) := by decide +kernel
set_option maxRecDepth 20000 in
theorem ggL_law_X11_most : GoodIn wsL_law wsX11_most := goodIn_r _ (334 :: 15 :: 19 :: 335 :: 336 :: 337 :: 14 :: 338 :: 279 :: 236 :: 237 :: 238 :: 157 :: 239 :: 240 :: 241 :: 18 :: 242 :: 243 :: 244 :: 245 :: 246 :: 247 :: 70 :: 68 :: 69 :: 248 :: 249 :: 250 :: 67 :: 251 :: 75 :: 80 :: 252 :: 253 :: 254 :: 255 :: 256 :: 257 :: 230 :: 258 :: 259 :: 260 :: 261 :: 262 :: 263 :: 264 :: 265 :: 229 :: 231 :: 232 :: 233 :: 234 :: 266 :: 267 :: 268 :: 269 :: 1181 :: 1182 :: 1183 :: 1184 :: 1185 :: 1186 :: 1187 :: 1188 :: 1189 :: 1190 :: 1191 :: 1192 :: 1193 :: 1194 :: 1195 :: 1196 :: 1221 :: 1222 :: 1223 :: 1224 :: 1225 :: 1226 :: 1227 :: 1260 :: 1261 :: []) (by decide +kernel) (by decide +kernel)
set_option maxRecDepth 20000 in
theorem gL_law_X11_most : GoodIn wsL_law (wsV RL 31 RX11 yX11_most wsX11_most) := goodIn_app (goodIn_of _ (by decide +kernel)) ggL_law_X11_most
set_option maxRecDepth 20000 in
theorem ggL_law_X12_most : GoodIn wsL_law wsX12_most := goodIn_r _ (342 :: 135 :: 343 :: 344 :: 345 :: 5 :: 346 :: 309 :: 310 :: 311 :: 312 :: 166 :: 305 :: 306 :: 307 :: 308 :: 136 :: 134 :: 313 :: 314 :: 315 :: 316 :: 317 :: 318 :: 1197 :: 1198 :: 1199 :: 1200 :: 1201 :: 1202 :: 1203 :: 1204 :: 1205 :: 1206 :: 1207 :: 1208 :: 1209 :: 1210 :: 1211 :: 1212 :: 1213 :: 1214 :: 1215 :: 1216 :: 1217 :: 1218 :: 1219 :: 1220 :: []) (by decide +kernel) (by decide +kernel)
set_option maxRecDepth 20000 in
theorem gL_law_X12_most : GoodIn wsL_law (wsV RL 34 RX12 yX12_most wsX12_most) := goodIn_app (goodIn_of _ (by decide +kernel)) ggL_law_X12_most
theorem dL_law_336 : decode cL_law 336 = .ok (.aload_n 1, 1) := by decide +kernel
theorem dL_law_337 : decode cL_law 337 = .ok (.aload_n 0, 1) := by decide +kernel
theorem dL_law_338 : decode cL_law 338 = .ok (.iload_n 3, 1) := by decide +kernel
theorem dL_law_339 : decode cL_law 339 = .ok (.iconst 1, 1) := by decide +kernel
theorem dL_law_340 : decode cL_law 340 = .ok (.iadd, 1) := by decide +kernel
theorem dL_law_341 : decode cL_law 341 = .ok (.iaload, 1) := by decide +kernel
