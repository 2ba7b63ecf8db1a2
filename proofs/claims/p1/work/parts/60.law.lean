set_option maxRecDepth 20000 in
theorem ggL_law_X11_init : GoodIn wsL_law wsX11_init := goodIn_r _ (8 :: 9 :: 10 :: 11 :: 12 :: 13 :: 14 :: 15 :: 16 :: 17 :: 18 :: 19 :: 20 :: 21 :: 22 :: 23 :: 24 :: 25 :: 26 :: 27 :: 28 :: 29 :: 30 :: 31 :: 32 :: 33 :: 34 :: 35 :: 36 :: 37 :: 38 :: 39 :: 40 :: 41 :: 42 :: 43 :: 44 :: 45 :: 46 :: 47 :: 48 :: 49 :: 50 :: 51 :: 52 :: 53 :: 54 :: 55 :: 56 :: 57 :: 58 :: 59 :: 60 :: 61 :: 62 :: 63 :: 64 :: 65 :: 66 :: 67 :: 68 :: 69 :: 70 :: 71 :: 72 :: 73 :: 74 :: 75 :: 76 :: 77 :: 78 :: 79 :: 80 :: 81 :: 82 :: 83 :: 84 :: 85 :: 86 :: 87 :: 88 :: 89 :: 90 :: 91 :: 92 :: 93 :: 94 :: 95 :: 96 :: 97 :: 98 :: 99 :: 100 :: 101 :: 102 :: 103 :: 104 :: 105 :: 106 :: 107 :: 108 :: 109 :: 110 :: 111 :: 112 :: 113 :: 114 :: 115 :: 116 :: 117 :: 118 :: 119 :: 120 :: 121 :: 122 :: 123 :: 124 :: 125 :: 126 :: 127 :: 128 :: 1221 :: 1222 :: 1223 :: 1181 :: 1182 :: 1183 :: 1184 :: 1185 :: 1186 :: 1187 :: 1188 :: 1189 :: 1190 :: 1191 :: 1192 :: 1193 :: 1194 :: 1195 :: 1196 :: 1224 :: 1225 :: 1226 :: 1227 :: 1228 :: 1229 :: 1230 :: 1231 :: 1232 :: 1233 :: 1234 :: 1235 :: 1236 :: 1237 :: 1238 :: 1239 :: 1240 :: 1241 :: 1242 :: 1243 :: 1244 :: 1245 :: 1246 :: 1247 :: 1248 :: 1249 :: 1250 :: 1251 :: 1252 :: 1253 :: 1254 :: 1255 :: 1256 :: 1257 :: 1258 :: 1259 :: 1260 :: 1261 :: []) (by decide +kernel) (by decide +kernel)
set_option maxRecDepth 20000 in
theorem gL_law_X11_init : GoodIn wsL_law (wsX11_init) := ggL_law_X11_init
set_option maxRecDepth 20000 in
theorem ggL_law_X12_init : GoodIn wsL_law wsX12_init := goodIn_r _ (131 :: 132 :: 10 :: 11 :: 133 :: 59 :: 134 :: 135 :: 136 :: 137 :: 138 :: 139 :: 140 :: 141 :: 142 :: 143 :: 144 :: 145 :: 146 :: 147 :: 148 :: 1197 :: 1198 :: 1199 :: 1200 :: 1201 :: 1202 :: 1203 :: 1204 :: 1205 :: 1206 :: 1207 :: 1208 :: 1209 :: 1210 :: 1211 :: 1212 :: 1213 :: 1214 :: 1215 :: 1216 :: 1217 :: 1218 :: 1219 :: 1220 :: []) (by decide +kernel) (by decide +kernel)
set_option maxRecDepth 20000 in
theorem gL_law_X12_init : GoodIn wsL_law (wsX12_init) := ggL_law_X12_init
theorem dL_law_0 : decode cL_law 0 = .ok (.new 7, 3) := by decide +kernel
theorem dL_law_11 : decode cL_law 11 = .ok (.dup, 1) := by decide +kernel
theorem dL_law_12 : decode cL_law 12 = .ok (.invokespecial 12, 3) := by decide +kernel
theorem dL_law_1486 : decode cL_law 1486 = .ok (.iinc 3 6, 3) := by decide +kernel
theorem dL_law_1489 : decode cL_law 1489 = .ok (.goto (-1471), 3) := by decide +kernel
theorem dL_law_1492 : decode cL_law 1492 = .ok (.iconst 1, 1) := by decide +kernel
theorem dL_law_1493 : decode cL_law 1493 = .ok (.ireturn, 1) := by decide +kernel
theorem dL_law_15 : decode cL_law 15 = .ok (.astore_n 2, 1) := by decide +kernel
theorem dL_law_16 : decode cL_law 16 = .ok (.iconst 0, 1) := by decide +kernel
theorem dL_law_17 : decode cL_law 17 = .ok (.istore_n 3, 1) := by decide +kernel
theorem dL_law_18 : decode cL_law 18 = .ok (.iload_n 3, 1) := by decide +kernel
theorem dL_law_19 : decode cL_law 19 = .ok (.aload_n 0, 1) := by decide +kernel
theorem dL_law_20 : decode cL_law 20 = .ok (.arraylength, 1) := by decide +kernel
theorem dL_law_21 : decode cL_law 21 = .ok (.bipush 6, 2) := by decide +kernel
theorem dL_law_23 : decode cL_law 23 = .ok (.isub, 1) := by decide +kernel
theorem dL_law_24 : decode cL_law 24 = .ok (.if_icmp .gt 1468, 3) := by decide +kernel
theorem dL_law_27 : decode cL_law 27 = .ok (.aload_n 0, 1) := by decide +kernel
theorem dL_law_28 : decode cL_law 28 = .ok (.iload_n 3, 1) := by decide +kernel
theorem dL_law_29 : decode cL_law 29 = .ok (.iaload, 1) := by decide +kernel
theorem dL_law_3 : decode cL_law 3 = .ok (.dup, 1) := by decide +kernel
theorem dL_law_30 : decode cL_law 30 = .ok (.bipush 63, 2) := by decide +kernel
theorem dL_law_32 : decode cL_law 32 = .ok (.iand, 1) := by decide +kernel
theorem dL_law_33 : decode cL_law 33 = .ok (.tableswitch 1453 0 43 (191 :: 214 :: 257 :: 280 :: 303 :: 326 :: 349 :: 372 :: 405 :: 428 :: 451 :: 474 :: 517 :: 540 :: 563 :: 586 :: 609 :: 632 :: 665 :: 698 :: 721 :: 744 :: 767 :: 790 :: 813 :: 836 :: 869 :: 892 :: 935 :: 968 :: 1001 :: 1014 :: 1027 :: 1050 :: 1083 :: 1136 :: 1179 :: 1212 :: 1245 :: 1288 :: 1331 :: 1364 :: 1427 :: 1440 :: []).toArray, 191) := by decide +kernel
theorem dL_law_4 : decode cL_law 4 = .ok (.invokespecial 9, 3) := by decide +kernel
theorem dL_law_7 : decode cL_law 7 = .ok (.astore_n 1, 1) := by decide +kernel
theorem dL_law_8 : decode cL_law 8 = .ok (.new 10, 3) := by decide +kernel
set_option maxHeartbeats 8000000 in
set_option maxRecDepth 100000 in
theorem whole_start {p : Program} {e : Env} {s : State} {m : MethodId} {below : List Frame} {meth : Method} {c : Code} (l : Launch) (hflags : l.flags = flags0) {b L : Nat} {xs : Nat → Int32} (hL : L ≤ 6) (C0 : lw_At p s m meth c b L xs) : W p l e room_1 s m #[Value.ref b] below meth c s.heap [] 0 0 (lw_Z below #[Value.ref b] s) (entryFrame m ([Value.ref b] : List Value).toArray 4) := by
  obtain ⟨hx, hb, hr, hml, hown0, hts0, hX, hbl, hlocks, hgv⟩ := id C0
  have hown : s.vm.findClass RL = some m.cls := hown0
  have hts : ∀ w ∈ wsL_law, w.before #[Value.ref b] s = true := fun w h => hts0 w (wsL_law_in w h)
  obtain ⟨c0, i0, k0⟩ := u_known (C := RX0) (T := TX0) (N := 1) (n := 1) hts inlX0 (hts (.instantiable RX0 1) (by decide +kernel))
  obtain ⟨c1, i1, k1⟩ := u_known (C := RX1) (T := TX1) (N := 2) (n := 2) hts inlX1 (hts (.instantiable RX1 2) (by decide +kernel))
  obtain ⟨c2, i2, k2⟩ := u_known (C := RX2) (T := TX2) (N := 3) (n := 3) hts inlX2 (hts (.instantiable RX2 3) (by decide +kernel))
  obtain ⟨c3, i3, k3⟩ := u_known (C := RX3) (T := TX3) (N := 4) (n := 4) hts inlX3 (hts (.instantiable RX3 4) (by decide +kernel))
  obtain ⟨c4, i4, k4⟩ := u_known (C := RX4) (T := TX4) (N := 2) (n := 2) hts inlX4 (hts (.instantiable RX4 2) (by decide +kernel))
  obtain ⟨c5, i5, k5⟩ := u_known (C := RX5) (T := TX5) (N := 8) (n := 8) hts inlX5 (hts (.instantiable RX5 8) (by decide +kernel))
  obtain ⟨c6, i6, k6⟩ := u_known (C := RX6) (T := TX6) (N := 3) (n := 3) hts inlX6 (hts (.instantiable RX6 3) (by decide +kernel))
  obtain ⟨c7, i7, k7⟩ := u_known (C := RX7) (T := TX7) (N := 2) (n := 2) hts inlX7 (hts (.instantiable RX7 2) (by decide +kernel))
  obtain ⟨c8, i8, k8⟩ := u_known (C := RX8) (T := TX8) (N := 2) (n := 2) hts inlX8 (hts (.instantiable RX8 2) (by decide +kernel))
  obtain ⟨c9, i9, k9⟩ := u_known (C := RX9) (T := TX9) (N := 6) (n := 6) hts inlX9 (hts (.instantiable RX9 6) (by decide +kernel))
  obtain ⟨c10, i10, k10⟩ := u_known (C := RX10) (T := TX10) (N := 8) (n := 8) hts inlX10 (hts (.instantiable RX10 8) (by decide +kernel))
  obtain ⟨c11, i11, k11⟩ := u_known (C := RX11) (T := TX11) (N := 16) (n := 16) hts inlX11 (hts (.instantiable RX11 16) (by decide +kernel))
  obtain ⟨c12, i12, k12⟩ := u_known (C := RX12) (T := TX12) (N := 24) (n := 24) hts inlX12 (hts (.instantiable RX12 24) (by decide +kernel))
  obtain ⟨dC, dI, hKc⟩ : ∃ (dC : Nat → ClassId) (dI : Nat → Nat → Nat), ∀ (k : Nat) (q : vw_C), cls[k]? = some q → u_Kn s q.1 q.2.1 q.2.2 (dC k) (dI k) := by
    refine ⟨fun k => [c0, c1, c2, c3, c4, c5, c6, c7, c8, c9, c10, c11, c12].getD k c0, fun k => [i0, i1, i2, i3, i4, i5, i6, i7, i8, i9, i10, i11, i12].getD k i0, ?_⟩
    intro k q hq
    match k, hq with
    | 0, hq => cases hq; exact k0
    | 1, hq => cases hq; exact k1
    | 2, hq => cases hq; exact k2
    | 3, hq => cases hq; exact k3
    | 4, hq => cases hq; exact k4
    | 5, hq => cases hq; exact k5
    | 6, hq => cases hq; exact k6
    | 7, hq => cases hq; exact k7
    | 8, hq => cases hq; exact k8
    | 9, hq => cases hq; exact k9
    | 10, hq => cases hq; exact k10
    | 11, hq => cases hq; exact k11
    | 12, hq => cases hq; exact k12
    | k + 13, hq => simp [cls] at hq
  obtain ⟨cI, kI, compI, f1, f2, f3⟩ := Cond.arrayClass_spec (hts0 (.arrayClass .int) (List.mem_of_getElem? (i := 113) (by decide +kernel)))
  obtain ⟨compS, cS, kS, g1, g2, g3, g4, g5⟩ := Cond.arrayOver_spec (hts0 (.arrayOver (.object RX6)) (List.mem_of_getElem? (i := 255) (by decide +kernel)))
  have hK0 : va_K (dC, dI) cls [(cI, .int), (cS, .object RX6)] s := ⟨hKc, fun k q h => by
    match k, h with
    | 0, h => cases h; exact ⟨fun n z => ⟨fun k h => (by cases h), kI, f2, compI, f3⟩, f1⟩
    | 1, h => cases h; exact ⟨fun n z => ⟨fun k h => (by cases h), kS, g3, compS, g4⟩, ⟨kS, compS, g3, g4, g1, g5⟩⟩
    | k + 2, h => simp at h⟩
  have hN : NW s := ⟨va_Nw.of rfl (hts0 _ (List.mem_of_getElem? (i := 216) (by decide +kernel))), va_Nw.of rfl (hts0 _ (List.mem_of_getElem? (i := 204) (by decide +kernel))), va_Nw.of rfl (hts0 _ (List.mem_of_getElem? (i := 174) (by decide +kernel))), va_Nw.of rfl (hts0 _ (List.mem_of_getElem? (i := 176) (by decide +kernel))), va_Nw.of rfl (hts0 _ (List.mem_of_getElem? (i := 178) (by decide +kernel))), va_Nw.of rfl (hts0 _ (List.mem_of_getElem? (i := 172) (by decide +kernel))), va_Nw.of rfl (hts0 _ (List.mem_of_getElem? (i := 301) (by decide +kernel))), va_Nw.of rfl (hts0 _ (List.mem_of_getElem? (i := 231) (by decide +kernel))), va_Nw.of rfl (hts0 _ (List.mem_of_getElem? (i := 304) (by decide +kernel))), va_Nw.of rfl (hts0 _ (List.mem_of_getElem? (i := 99) (by decide +kernel))), va_Nw.of rfl (hts0 _ (List.mem_of_getElem? (i := 103) (by decide +kernel))), va_Nw.of rfl (hts0 _ (List.mem_of_getElem? (i := 97) (by decide +kernel))), va_Nw.of rfl (hts0 _ (List.mem_of_getElem? (i := 102) (by decide +kernel))), va_Nw.of rfl (hts0 _ (List.mem_of_getElem? (i := 96) (by decide +kernel))), va_Nw.of rfl (hts0 _ (List.mem_of_getElem? (i := 303) (by decide +kernel))), va_Nw.of rfl (hts0 _ (List.mem_of_getElem? (i := 100) (by decide +kernel))), va_Nw.of rfl (hts0 _ (List.mem_of_getElem? (i := 104) (by decide +kernel))), va_Nw.of rfl (hts0 _ (List.mem_of_getElem? (i := 101) (by decide +kernel))), va_Nw.of rfl (hts0 _ (List.mem_of_getElem? (i := 91) (by decide +kernel))), va_Nw.of rfl (hts0 _ (List.mem_of_getElem? (i := 199) (by decide +kernel))), va_Nw.of rfl (hts0 _ (List.mem_of_getElem? (i := 210) (by decide +kernel))), va_Nw.of rfl (hts0 _ (List.mem_of_getElem? (i := 283) (by decide +kernel))), va_Nw.of rfl (hts0 _ (List.mem_of_getElem? (i := 295) (by decide +kernel))), va_Nw.of rfl (hts0 _ (List.mem_of_getElem? (i := 911) (by decide +kernel))), va_Nw.of rfl (hts0 _ (List.mem_of_getElem? (i := 939) (by decide +kernel)))⟩
  obtain ⟨D, hK⟩ : ∃ D : va_G, va_K D cls [(cI, .int), (cS, .object RX6)] s := ⟨(dC, dI), hK0⟩
  have hKK : KK D cI cS s := ⟨hK, hN⟩
  have hAO : va_AO RX6 s := va_AO.of (hts0 (.arrayOver (.object RX6)) (List.mem_of_getElem? (i := 255) (by decide +kernel)))
  obtain ⟨A, hAe⟩ : ∃ A : Nat → Prop, A = fun q => s.heap.size ≤ q := ⟨_, rfl⟩
  have hA : ∀ q : Nat, s.heap.size ≤ q → A q := fun q h => by rw [hAe]; exact h
  have hbA : ¬ A b := by rw [hAe]; exact Nat.not_le.mpr hbl
  have hS : va_S A s.heap s.heap [] := va_S.rf
  have hP : va_P D cls [] s.heap := fun k q h => by simp at h
  have hD : va_D A [] := ⟨fun i j p q h => by simp at h, fun k q h => by simp at h⟩
  have hin11 := inlX11
  have hin12 := inlX12
  have hl := lv_entry ([.ref b]) (n := 4) (Nat.le_of_ble_eq_true rfl)
  rw [lg_entry_eq]
  generalize (lg_sl ([.ref b]) ++ List.replicate (4 - (lg_sl ([.ref b])).length) Slot.unset).toArray = ls at hl ⊢
  have hl : lv_has ls 4 [(0, .ref b)] := hl
  refine va_new (ci := 11) (fs := [.null, .null, .null, .null, .null, .null, .null, .int 0, .int 0, .null, .null, .null, .null, .null, .null, .null]) (C := RX11) (T := TX11) (N := 16) hx hb hts hin11 tyX11 tyX11_ok hown (hts (.classLink RL 7 RX11) (by decide +kernel)) (hts (.instantiable RX11 16) (by decide +kernel)) (hts (.initialized RX11) (by decide +kernel)) hK hP hD hS hA rfl (fun j hj => by rcases (show j = 0 ∨ j = 1 ∨ j = 2 ∨ j = 3 ∨ j = 4 ∨ j = 5 ∨ j = 6 ∨ j = 7 ∨ j = 8 ∨ j = 9 ∨ j = 10 ∨ j = 11 ∨ j = 12 ∨ j = 13 ∨ j = 14 ∨ j = 15 by omega) with rfl | rfl | rfl | rfl | rfl | rfl | rfl | rfl | rfl | rfl | rfl | rfl | rfl | rfl | rfl | rfl <;> rfl) (Nat.le_of_ble_eq_true rfl) (Nat.le_of_ble_eq_true rfl) dL_law_0 (fun q5008 H hP hD hS => ?_)
  have hP : va_P D cls [(q5008, .inr (11, [.null, .null, .null, .null, .null, .null, .null, .int 0, .int 0, .null, .null, .null, .null, .null, .null, .null]))] H := hP
  have hD : va_D A [(q5008, .inr (11, [.null, .null, .null, .null, .null, .null, .null, .int 0, .int 0, .null, .null, .null, .null, .null, .null, .null]))] := hD
  refine W.widen (k := 1) (n := 16) (Nat.le_of_ble_eq_true rfl) (Nat.le_of_ble_eq_true rfl) ?_
  refine lv_dup hx hb dL_law_3 rfl ?_
  have hPc := hP.sub (ws' := [(q5008, .inr (11, [.null, .null, .null, .null, .null, .null, .null, .int 0, .int 0, .null, .null, .null, .null, .null, .null, .null]))]) [0] rfl
  have hDc := hD.sub (ws' := [(q5008, .inr (11, [.null, .null, .null, .null, .null, .null, .null, .int 0, .int 0, .null, .null, .null, .null, .null, .null, .null]))]) [0] (by decide) rfl
  refine lz_nca (wr := []) (w1 := fun u => ((q5008, .inr (11, [.ref (u 0), .ref (u 2), .ref (u 7), .ref (u 8), .ref (u 10), .ref (u 12), .ref (u 17), .int 0, .int 0, .ref (u 19), .ref (u 20), .ref (u 22), .ref (u 24), .ref (u 25), .ref (u 29), .ref (u 33)])) :: ((u 0), .inr (2, [.ref (u 1), .int 0, .int 0])) :: ((u 1), .inl (cI, 12, .inl (fun _ => 0))) :: ((u 2), .inr (3, [.ref (u 0), .ref (u 3), .ref (u 5), .int 0])) :: ((u 3), .inr (1, [.ref (u 4), .int 1])) :: ((u 4), .inl (cI, 4096, .inl (fun _ => 0))) :: ((u 5), .inr (1, [.ref (u 6), .int 1])) :: ((u 6), .inl (cI, 0, .inl (fun _ => 0))) :: ((u 7), .inr (4, [.ref (u 0), .ref (u 2)])) :: ((u 8), .inr (10, [.ref (u 0), .ref (u 2), .ref (u 9), .int 0, .int 0, .int 0, .int 0, .int (-1)])) :: ((u 9), .inl (cI, 5, .inl (fun _ => 0))) :: ((u 10), .inr (2, [.ref (u 11), .int 0, .int 0])) :: ((u 11), .inl (cI, 12, .inl (fun _ => 0))) :: ((u 12), .inr (3, [.ref (u 10), .ref (u 13), .ref (u 15), .int 0])) :: ((u 13), .inr (1, [.ref (u 14), .int 1])) :: ((u 14), .inl (cI, 4096, .inl (fun _ => 0))) :: ((u 15), .inr (1, [.ref (u 16), .int 1])) :: ((u 16), .inl (cI, 0, .inl (fun _ => 0))) :: ((u 17), .inr (2, [.ref (u 18), .int 0, .int 0])) :: ((u 18), .inl (cI, 12, .inl (fun _ => 0))) :: ((u 19), .inr (0, [.int 1])) :: ((u 20), .inr (8, [.ref (u 21), .int 0])) :: ((u 21), .inl (cI, 120, .inl (fun _ => 0))) :: ((u 22), .inr (5, [.ref (u 20), .ref (u 0), .ref (u 23), .int 0, .int 0, .int 0, .int 0, .int 0])) :: ((u 23), .inl (cI, 12, .inl (fun _ => 0))) :: ((u 24), .inl (cS, 4, .inr (.inr (.inr (.inr (fun k => [(u 36), (u 38), (u 40), (u 42)][k]?)))))) :: ((u 25), .inr (9, [.ref (u 0), .ref (u 2), .ref (u 26), .ref (u 27), .ref (u 28), .int 0])) :: ((u 26), .inl (cI, 12, .inl (fun _ => 0))) :: ((u 27), .inl (cI, 12, .inl (fun _ => 0))) :: ((u 28), .inl (cI, 12, .inl (fun _ => 0))) :: ((u 29), .inr (9, [.ref (u 0), .ref (u 2), .ref (u 30), .ref (u 31), .ref (u 32), .int 0])) :: ((u 30), .inl (cI, 12, .inl (fun _ => 0))) :: ((u 31), .inl (cI, 12, .inl (fun _ => 0))) :: ((u 32), .inl (cI, 12, .inl (fun _ => 0))) :: ((u 33), .inr (7, [.ref (u 34), .ref (u 35)])) :: ((u 34), .inl (cI, 4, .inl (fun _ => -1))) :: ((u 35), .inl (cI, 4, .inl (fun _ => 0))) :: ((u 36), .inr (6, [.ref (u 37), .int (-1), .int 0])) :: ((u 37), .inl (cI, 40, .inl (fun _ => 0))) :: ((u 38), .inr (6, [.ref (u 39), .int (-1), .int 0])) :: ((u 39), .inl (cI, 40, .inl (fun _ => 0))) :: ((u 40), .inr (6, [.ref (u 41), .int (-1), .int 0])) :: ((u 41), .inl (cI, 40, .inl (fun _ => 0))) :: ((u 42), .inr (6, [.ref (u 43), .int (-1), .int 0])) :: ((u 43), .inl (cI, 40, .inl (fun _ => 0))) :: [])) (As := []) (rest := [.ref q5008]) ⟨hx, hb, hml, hown, hts⟩ (c_X11_init_0 l D cI cS _ q5008) hKK hAO hP hD hS hA [0] [] (by decide) rfl rfl (by decide) (by decide) hPc hDc (cwI 0 hts gL_law_X11_init rfl rfl rfl (hts (.initialized RX11) (by decide +kernel)) (hts (.methodLink RL 9 yX11_init) (by decide +kernel)) (hts (.instanceMethod yX11_init) (by decide +kernel)) rfl (by decide +kernel) ⟨Nat.le_of_ble_eq_true rfl, Nat.le_of_ble_eq_true rfl⟩) rfl hl.1 rfl (Nat.le_of_ble_eq_true rfl) dL_law_4 ⟨Nat.le_of_ble_eq_true rfl, Nat.le_of_ble_eq_true rfl⟩ (fun u5054 H locs hP hD hS => ?_)
  have hP : va_P D cls ((q5008, .inr (11, [.ref (u5054 0), .ref (u5054 2), .ref (u5054 7), .ref (u5054 8), .ref (u5054 10), .ref (u5054 12), .ref (u5054 17), .int 0, .int 0, .ref (u5054 19), .ref (u5054 20), .ref (u5054 22), .ref (u5054 24), .ref (u5054 25), .ref (u5054 29), .ref (u5054 33)])) :: ((u5054 0), .inr (2, [.ref (u5054 1), .int 0, .int 0])) :: ((u5054 1), .inl (cI, 12, .inl (fun _ => 0))) :: ((u5054 2), .inr (3, [.ref (u5054 0), .ref (u5054 3), .ref (u5054 5), .int 0])) :: ((u5054 3), .inr (1, [.ref (u5054 4), .int 1])) :: ((u5054 4), .inl (cI, 4096, .inl (fun _ => 0))) :: ((u5054 5), .inr (1, [.ref (u5054 6), .int 1])) :: ((u5054 6), .inl (cI, 0, .inl (fun _ => 0))) :: ((u5054 7), .inr (4, [.ref (u5054 0), .ref (u5054 2)])) :: ((u5054 8), .inr (10, [.ref (u5054 0), .ref (u5054 2), .ref (u5054 9), .int 0, .int 0, .int 0, .int 0, .int (-1)])) :: ((u5054 9), .inl (cI, 5, .inl (fun _ => 0))) :: ((u5054 10), .inr (2, [.ref (u5054 11), .int 0, .int 0])) :: ((u5054 11), .inl (cI, 12, .inl (fun _ => 0))) :: ((u5054 12), .inr (3, [.ref (u5054 10), .ref (u5054 13), .ref (u5054 15), .int 0])) :: ((u5054 13), .inr (1, [.ref (u5054 14), .int 1])) :: ((u5054 14), .inl (cI, 4096, .inl (fun _ => 0))) :: ((u5054 15), .inr (1, [.ref (u5054 16), .int 1])) :: ((u5054 16), .inl (cI, 0, .inl (fun _ => 0))) :: ((u5054 17), .inr (2, [.ref (u5054 18), .int 0, .int 0])) :: ((u5054 18), .inl (cI, 12, .inl (fun _ => 0))) :: ((u5054 19), .inr (0, [.int 1])) :: ((u5054 20), .inr (8, [.ref (u5054 21), .int 0])) :: ((u5054 21), .inl (cI, 120, .inl (fun _ => 0))) :: ((u5054 22), .inr (5, [.ref (u5054 20), .ref (u5054 0), .ref (u5054 23), .int 0, .int 0, .int 0, .int 0, .int 0])) :: ((u5054 23), .inl (cI, 12, .inl (fun _ => 0))) :: ((u5054 24), .inl (cS, 4, .inr (.inr (.inr (.inr (fun k => [(u5054 36), (u5054 38), (u5054 40), (u5054 42)][k]?)))))) :: ((u5054 25), .inr (9, [.ref (u5054 0), .ref (u5054 2), .ref (u5054 26), .ref (u5054 27), .ref (u5054 28), .int 0])) :: ((u5054 26), .inl (cI, 12, .inl (fun _ => 0))) :: ((u5054 27), .inl (cI, 12, .inl (fun _ => 0))) :: ((u5054 28), .inl (cI, 12, .inl (fun _ => 0))) :: ((u5054 29), .inr (9, [.ref (u5054 0), .ref (u5054 2), .ref (u5054 30), .ref (u5054 31), .ref (u5054 32), .int 0])) :: ((u5054 30), .inl (cI, 12, .inl (fun _ => 0))) :: ((u5054 31), .inl (cI, 12, .inl (fun _ => 0))) :: ((u5054 32), .inl (cI, 12, .inl (fun _ => 0))) :: ((u5054 33), .inr (7, [.ref (u5054 34), .ref (u5054 35)])) :: ((u5054 34), .inl (cI, 4, .inl (fun _ => -1))) :: ((u5054 35), .inl (cI, 4, .inl (fun _ => 0))) :: ((u5054 36), .inr (6, [.ref (u5054 37), .int (-1), .int 0])) :: ((u5054 37), .inl (cI, 40, .inl (fun _ => 0))) :: ((u5054 38), .inr (6, [.ref (u5054 39), .int (-1), .int 0])) :: ((u5054 39), .inl (cI, 40, .inl (fun _ => 0))) :: ((u5054 40), .inr (6, [.ref (u5054 41), .int (-1), .int 0])) :: ((u5054 41), .inl (cI, 40, .inl (fun _ => 0))) :: ((u5054 42), .inr (6, [.ref (u5054 43), .int (-1), .int 0])) :: ((u5054 43), .inl (cI, 40, .inl (fun _ => 0))) :: []) H := hP
  have hD : va_D A ((q5008, .inr (11, [.ref (u5054 0), .ref (u5054 2), .ref (u5054 7), .ref (u5054 8), .ref (u5054 10), .ref (u5054 12), .ref (u5054 17), .int 0, .int 0, .ref (u5054 19), .ref (u5054 20), .ref (u5054 22), .ref (u5054 24), .ref (u5054 25), .ref (u5054 29), .ref (u5054 33)])) :: ((u5054 0), .inr (2, [.ref (u5054 1), .int 0, .int 0])) :: ((u5054 1), .inl (cI, 12, .inl (fun _ => 0))) :: ((u5054 2), .inr (3, [.ref (u5054 0), .ref (u5054 3), .ref (u5054 5), .int 0])) :: ((u5054 3), .inr (1, [.ref (u5054 4), .int 1])) :: ((u5054 4), .inl (cI, 4096, .inl (fun _ => 0))) :: ((u5054 5), .inr (1, [.ref (u5054 6), .int 1])) :: ((u5054 6), .inl (cI, 0, .inl (fun _ => 0))) :: ((u5054 7), .inr (4, [.ref (u5054 0), .ref (u5054 2)])) :: ((u5054 8), .inr (10, [.ref (u5054 0), .ref (u5054 2), .ref (u5054 9), .int 0, .int 0, .int 0, .int 0, .int (-1)])) :: ((u5054 9), .inl (cI, 5, .inl (fun _ => 0))) :: ((u5054 10), .inr (2, [.ref (u5054 11), .int 0, .int 0])) :: ((u5054 11), .inl (cI, 12, .inl (fun _ => 0))) :: ((u5054 12), .inr (3, [.ref (u5054 10), .ref (u5054 13), .ref (u5054 15), .int 0])) :: ((u5054 13), .inr (1, [.ref (u5054 14), .int 1])) :: ((u5054 14), .inl (cI, 4096, .inl (fun _ => 0))) :: ((u5054 15), .inr (1, [.ref (u5054 16), .int 1])) :: ((u5054 16), .inl (cI, 0, .inl (fun _ => 0))) :: ((u5054 17), .inr (2, [.ref (u5054 18), .int 0, .int 0])) :: ((u5054 18), .inl (cI, 12, .inl (fun _ => 0))) :: ((u5054 19), .inr (0, [.int 1])) :: ((u5054 20), .inr (8, [.ref (u5054 21), .int 0])) :: ((u5054 21), .inl (cI, 120, .inl (fun _ => 0))) :: ((u5054 22), .inr (5, [.ref (u5054 20), .ref (u5054 0), .ref (u5054 23), .int 0, .int 0, .int 0, .int 0, .int 0])) :: ((u5054 23), .inl (cI, 12, .inl (fun _ => 0))) :: ((u5054 24), .inl (cS, 4, .inr (.inr (.inr (.inr (fun k => [(u5054 36), (u5054 38), (u5054 40), (u5054 42)][k]?)))))) :: ((u5054 25), .inr (9, [.ref (u5054 0), .ref (u5054 2), .ref (u5054 26), .ref (u5054 27), .ref (u5054 28), .int 0])) :: ((u5054 26), .inl (cI, 12, .inl (fun _ => 0))) :: ((u5054 27), .inl (cI, 12, .inl (fun _ => 0))) :: ((u5054 28), .inl (cI, 12, .inl (fun _ => 0))) :: ((u5054 29), .inr (9, [.ref (u5054 0), .ref (u5054 2), .ref (u5054 30), .ref (u5054 31), .ref (u5054 32), .int 0])) :: ((u5054 30), .inl (cI, 12, .inl (fun _ => 0))) :: ((u5054 31), .inl (cI, 12, .inl (fun _ => 0))) :: ((u5054 32), .inl (cI, 12, .inl (fun _ => 0))) :: ((u5054 33), .inr (7, [.ref (u5054 34), .ref (u5054 35)])) :: ((u5054 34), .inl (cI, 4, .inl (fun _ => -1))) :: ((u5054 35), .inl (cI, 4, .inl (fun _ => 0))) :: ((u5054 36), .inr (6, [.ref (u5054 37), .int (-1), .int 0])) :: ((u5054 37), .inl (cI, 40, .inl (fun _ => 0))) :: ((u5054 38), .inr (6, [.ref (u5054 39), .int (-1), .int 0])) :: ((u5054 39), .inl (cI, 40, .inl (fun _ => 0))) :: ((u5054 40), .inr (6, [.ref (u5054 41), .int (-1), .int 0])) :: ((u5054 41), .inl (cI, 40, .inl (fun _ => 0))) :: ((u5054 42), .inr (6, [.ref (u5054 43), .int (-1), .int 0])) :: ((u5054 43), .inl (cI, 40, .inl (fun _ => 0))) :: []) := hD
  generalize u5054 0 = q5009 at hP hD
  generalize u5054 1 = q5010 at hP hD
  generalize u5054 2 = q5011 at hP hD
  generalize u5054 3 = q5012 at hP hD
  generalize u5054 4 = q5013 at hP hD
  generalize u5054 5 = q5014 at hP hD
  generalize u5054 6 = q5015 at hP hD
  generalize u5054 7 = q5016 at hP hD
  generalize u5054 8 = q5017 at hP hD
  generalize u5054 9 = q5018 at hP hD
  generalize u5054 10 = q5019 at hP hD
  generalize u5054 11 = q5020 at hP hD
  generalize u5054 12 = q5021 at hP hD
  generalize u5054 13 = q5022 at hP hD
  generalize u5054 14 = q5023 at hP hD
  generalize u5054 15 = q5024 at hP hD
  generalize u5054 16 = q5025 at hP hD
  generalize u5054 17 = q5026 at hP hD
  generalize u5054 18 = q5027 at hP hD
  generalize u5054 19 = q5028 at hP hD
  generalize u5054 20 = q5029 at hP hD
  generalize u5054 21 = q5030 at hP hD
  generalize u5054 22 = q5031 at hP hD
  generalize u5054 23 = q5032 at hP hD
  generalize u5054 24 = q5033 at hP hD
  generalize u5054 25 = q5034 at hP hD
  generalize u5054 26 = q5035 at hP hD
  generalize u5054 27 = q5036 at hP hD
  generalize u5054 28 = q5037 at hP hD
  generalize u5054 29 = q5038 at hP hD
  generalize u5054 30 = q5039 at hP hD
  generalize u5054 31 = q5040 at hP hD
  generalize u5054 32 = q5041 at hP hD
  generalize u5054 33 = q5042 at hP hD
  generalize u5054 34 = q5043 at hP hD
  generalize u5054 35 = q5044 at hP hD
  generalize u5054 36 = q5045 at hP hD
  generalize u5054 37 = q5046 at hP hD
  generalize u5054 38 = q5047 at hP hD
  generalize u5054 39 = q5048 at hP hD
  generalize u5054 40 = q5049 at hP hD
  generalize u5054 41 = q5050 at hP hD
  generalize u5054 42 = q5051 at hP hD
  generalize u5054 43 = q5052 at hP hD
  refine W.widen (k := 45) (n := 8697) (Nat.le_of_ble_eq_true rfl) (Nat.le_of_ble_eq_true rfl) ?_
  refine lv_astore_n (lv' := [(1, .ref q5008), (0, .ref b)]) hx hb dL_law_7 rfl hl (by decide) rfl (fun ls hl => ?_)
  refine va_new (ci := 12) (fs := [.int 0, .int 0, .null, .null, .null, .null, .null, .null, .null, .null, .int 0, .int 0, .int 0, .int 0, .int 0, .int 0, .null, .null, .null, .null, .null, .null, .null, .int 0]) (C := RX12) (T := TX12) (N := 24) hx hb hts hin12 tyX12 tyX12_ok hown (hts (.classLink RL 10 RX12) (by decide +kernel)) (hts (.instantiable RX12 24) (by decide +kernel)) (hts (.initialized RX12) (by decide +kernel)) hK hP hD hS hA rfl (fun j hj => by rcases (show j = 0 ∨ j = 1 ∨ j = 2 ∨ j = 3 ∨ j = 4 ∨ j = 5 ∨ j = 6 ∨ j = 7 ∨ j = 8 ∨ j = 9 ∨ j = 10 ∨ j = 11 ∨ j = 12 ∨ j = 13 ∨ j = 14 ∨ j = 15 ∨ j = 16 ∨ j = 17 ∨ j = 18 ∨ j = 19 ∨ j = 20 ∨ j = 21 ∨ j = 22 ∨ j = 23 by omega) with rfl | rfl | rfl | rfl | rfl | rfl | rfl | rfl | rfl | rfl | rfl | rfl | rfl | rfl | rfl | rfl | rfl | rfl | rfl | rfl | rfl | rfl | rfl | rfl <;> rfl) (Nat.le_of_ble_eq_true rfl) (Nat.le_of_ble_eq_true rfl) dL_law_8 (fun q5055 H hP hD hS => ?_)
  have hP : va_P D cls ((q5008, .inr (11, [.ref q5009, .ref q5011, .ref q5016, .ref q5017, .ref q5019, .ref q5021, .ref q5026, .int 0, .int 0, .ref q5028, .ref q5029, .ref q5031, .ref q5033, .ref q5034, .ref q5038, .ref q5042])) :: (q5009, .inr (2, [.ref q5010, .int 0, .int 0])) :: (q5010, .inl (cI, 12, .inl (fun _ => 0))) :: (q5011, .inr (3, [.ref q5009, .ref q5012, .ref q5014, .int 0])) :: (q5012, .inr (1, [.ref q5013, .int 1])) :: (q5013, .inl (cI, 4096, .inl (fun _ => 0))) :: (q5014, .inr (1, [.ref q5015, .int 1])) :: (q5015, .inl (cI, 0, .inl (fun _ => 0))) :: (q5016, .inr (4, [.ref q5009, .ref q5011])) :: (q5017, .inr (10, [.ref q5009, .ref q5011, .ref q5018, .int 0, .int 0, .int 0, .int 0, .int (-1)])) :: (q5018, .inl (cI, 5, .inl (fun _ => 0))) :: (q5019, .inr (2, [.ref q5020, .int 0, .int 0])) :: (q5020, .inl (cI, 12, .inl (fun _ => 0))) :: (q5021, .inr (3, [.ref q5019, .ref q5022, .ref q5024, .int 0])) :: (q5022, .inr (1, [.ref q5023, .int 1])) :: (q5023, .inl (cI, 4096, .inl (fun _ => 0))) :: (q5024, .inr (1, [.ref q5025, .int 1])) :: (q5025, .inl (cI, 0, .inl (fun _ => 0))) :: (q5026, .inr (2, [.ref q5027, .int 0, .int 0])) :: (q5027, .inl (cI, 12, .inl (fun _ => 0))) :: (q5028, .inr (0, [.int 1])) :: (q5029, .inr (8, [.ref q5030, .int 0])) :: (q5030, .inl (cI, 120, .inl (fun _ => 0))) :: (q5031, .inr (5, [.ref q5029, .ref q5009, .ref q5032, .int 0, .int 0, .int 0, .int 0, .int 0])) :: (q5032, .inl (cI, 12, .inl (fun _ => 0))) :: (q5033, .inl (cS, 4, .inr (.inr (.inr (.inr (fun k => [q5045, q5047, q5049, q5051][k]?)))))) :: (q5034, .inr (9, [.ref q5009, .ref q5011, .ref q5035, .ref q5036, .ref q5037, .int 0])) :: (q5035, .inl (cI, 12, .inl (fun _ => 0))) :: (q5036, .inl (cI, 12, .inl (fun _ => 0))) :: (q5037, .inl (cI, 12, .inl (fun _ => 0))) :: (q5038, .inr (9, [.ref q5009, .ref q5011, .ref q5039, .ref q5040, .ref q5041, .int 0])) :: (q5039, .inl (cI, 12, .inl (fun _ => 0))) :: (q5040, .inl (cI, 12, .inl (fun _ => 0))) :: (q5041, .inl (cI, 12, .inl (fun _ => 0))) :: (q5042, .inr (7, [.ref q5043, .ref q5044])) :: (q5043, .inl (cI, 4, .inl (fun _ => -1))) :: (q5044, .inl (cI, 4, .inl (fun _ => 0))) :: (q5045, .inr (6, [.ref q5046, .int (-1), .int 0])) :: (q5046, .inl (cI, 40, .inl (fun _ => 0))) :: (q5047, .inr (6, [.ref q5048, .int (-1), .int 0])) :: (q5048, .inl (cI, 40, .inl (fun _ => 0))) :: (q5049, .inr (6, [.ref q5050, .int (-1), .int 0])) :: (q5050, .inl (cI, 40, .inl (fun _ => 0))) :: (q5051, .inr (6, [.ref q5052, .int (-1), .int 0])) :: (q5052, .inl (cI, 40, .inl (fun _ => 0))) :: (q5055, .inr (12, [.int 0, .int 0, .null, .null, .null, .null, .null, .null, .null, .null, .int 0, .int 0, .int 0, .int 0, .int 0, .int 0, .null, .null, .null, .null, .null, .null, .null, .int 0])) :: []) H := hP
  have hD : va_D A ((q5008, .inr (11, [.ref q5009, .ref q5011, .ref q5016, .ref q5017, .ref q5019, .ref q5021, .ref q5026, .int 0, .int 0, .ref q5028, .ref q5029, .ref q5031, .ref q5033, .ref q5034, .ref q5038, .ref q5042])) :: (q5009, .inr (2, [.ref q5010, .int 0, .int 0])) :: (q5010, .inl (cI, 12, .inl (fun _ => 0))) :: (q5011, .inr (3, [.ref q5009, .ref q5012, .ref q5014, .int 0])) :: (q5012, .inr (1, [.ref q5013, .int 1])) :: (q5013, .inl (cI, 4096, .inl (fun _ => 0))) :: (q5014, .inr (1, [.ref q5015, .int 1])) :: (q5015, .inl (cI, 0, .inl (fun _ => 0))) :: (q5016, .inr (4, [.ref q5009, .ref q5011])) :: (q5017, .inr (10, [.ref q5009, .ref q5011, .ref q5018, .int 0, .int 0, .int 0, .int 0, .int (-1)])) :: (q5018, .inl (cI, 5, .inl (fun _ => 0))) :: (q5019, .inr (2, [.ref q5020, .int 0, .int 0])) :: (q5020, .inl (cI, 12, .inl (fun _ => 0))) :: (q5021, .inr (3, [.ref q5019, .ref q5022, .ref q5024, .int 0])) :: (q5022, .inr (1, [.ref q5023, .int 1])) :: (q5023, .inl (cI, 4096, .inl (fun _ => 0))) :: (q5024, .inr (1, [.ref q5025, .int 1])) :: (q5025, .inl (cI, 0, .inl (fun _ => 0))) :: (q5026, .inr (2, [.ref q5027, .int 0, .int 0])) :: (q5027, .inl (cI, 12, .inl (fun _ => 0))) :: (q5028, .inr (0, [.int 1])) :: (q5029, .inr (8, [.ref q5030, .int 0])) :: (q5030, .inl (cI, 120, .inl (fun _ => 0))) :: (q5031, .inr (5, [.ref q5029, .ref q5009, .ref q5032, .int 0, .int 0, .int 0, .int 0, .int 0])) :: (q5032, .inl (cI, 12, .inl (fun _ => 0))) :: (q5033, .inl (cS, 4, .inr (.inr (.inr (.inr (fun k => [q5045, q5047, q5049, q5051][k]?)))))) :: (q5034, .inr (9, [.ref q5009, .ref q5011, .ref q5035, .ref q5036, .ref q5037, .int 0])) :: (q5035, .inl (cI, 12, .inl (fun _ => 0))) :: (q5036, .inl (cI, 12, .inl (fun _ => 0))) :: (q5037, .inl (cI, 12, .inl (fun _ => 0))) :: (q5038, .inr (9, [.ref q5009, .ref q5011, .ref q5039, .ref q5040, .ref q5041, .int 0])) :: (q5039, .inl (cI, 12, .inl (fun _ => 0))) :: (q5040, .inl (cI, 12, .inl (fun _ => 0))) :: (q5041, .inl (cI, 12, .inl (fun _ => 0))) :: (q5042, .inr (7, [.ref q5043, .ref q5044])) :: (q5043, .inl (cI, 4, .inl (fun _ => -1))) :: (q5044, .inl (cI, 4, .inl (fun _ => 0))) :: (q5045, .inr (6, [.ref q5046, .int (-1), .int 0])) :: (q5046, .inl (cI, 40, .inl (fun _ => 0))) :: (q5047, .inr (6, [.ref q5048, .int (-1), .int 0])) :: (q5048, .inl (cI, 40, .inl (fun _ => 0))) :: (q5049, .inr (6, [.ref q5050, .int (-1), .int 0])) :: (q5050, .inl (cI, 40, .inl (fun _ => 0))) :: (q5051, .inr (6, [.ref q5052, .int (-1), .int 0])) :: (q5052, .inl (cI, 40, .inl (fun _ => 0))) :: (q5055, .inr (12, [.int 0, .int 0, .null, .null, .null, .null, .null, .null, .null, .null, .int 0, .int 0, .int 0, .int 0, .int 0, .int 0, .null, .null, .null, .null, .null, .null, .null, .int 0])) :: []) := hD
  refine W.widen (k := 46) (n := 8721) (Nat.le_of_ble_eq_true rfl) (Nat.le_of_ble_eq_true rfl) ?_
  refine lv_dup hx hb dL_law_11 rfl ?_
  have hPc := hP.sub (ws' := [(q5055, .inr (12, [.int 0, .int 0, .null, .null, .null, .null, .null, .null, .null, .null, .int 0, .int 0, .int 0, .int 0, .int 0, .int 0, .null, .null, .null, .null, .null, .null, .null, .int 0]))]) [45] rfl
  have hDc := hD.sub (ws' := [(q5055, .inr (12, [.int 0, .int 0, .null, .null, .null, .null, .null, .null, .null, .null, .int 0, .int 0, .int 0, .int 0, .int 0, .int 0, .null, .null, .null, .null, .null, .null, .null, .int 0]))]) [45] (by decide) rfl
  refine lz_nc (wr := ((q5008, .inr (11, [.ref q5009, .ref q5011, .ref q5016, .ref q5017, .ref q5019, .ref q5021, .ref q5026, .int 0, .int 0, .ref q5028, .ref q5029, .ref q5031, .ref q5033, .ref q5034, .ref q5038, .ref q5042])) :: (q5009, .inr (2, [.ref q5010, .int 0, .int 0])) :: (q5010, .inl (cI, 12, .inl (fun _ => 0))) :: (q5011, .inr (3, [.ref q5009, .ref q5012, .ref q5014, .int 0])) :: (q5012, .inr (1, [.ref q5013, .int 1])) :: (q5013, .inl (cI, 4096, .inl (fun _ => 0))) :: (q5014, .inr (1, [.ref q5015, .int 1])) :: (q5015, .inl (cI, 0, .inl (fun _ => 0))) :: (q5016, .inr (4, [.ref q5009, .ref q5011])) :: (q5017, .inr (10, [.ref q5009, .ref q5011, .ref q5018, .int 0, .int 0, .int 0, .int 0, .int (-1)])) :: (q5018, .inl (cI, 5, .inl (fun _ => 0))) :: (q5019, .inr (2, [.ref q5020, .int 0, .int 0])) :: (q5020, .inl (cI, 12, .inl (fun _ => 0))) :: (q5021, .inr (3, [.ref q5019, .ref q5022, .ref q5024, .int 0])) :: (q5022, .inr (1, [.ref q5023, .int 1])) :: (q5023, .inl (cI, 4096, .inl (fun _ => 0))) :: (q5024, .inr (1, [.ref q5025, .int 1])) :: (q5025, .inl (cI, 0, .inl (fun _ => 0))) :: (q5026, .inr (2, [.ref q5027, .int 0, .int 0])) :: (q5027, .inl (cI, 12, .inl (fun _ => 0))) :: (q5028, .inr (0, [.int 1])) :: (q5029, .inr (8, [.ref q5030, .int 0])) :: (q5030, .inl (cI, 120, .inl (fun _ => 0))) :: (q5031, .inr (5, [.ref q5029, .ref q5009, .ref q5032, .int 0, .int 0, .int 0, .int 0, .int 0])) :: (q5032, .inl (cI, 12, .inl (fun _ => 0))) :: (q5033, .inl (cS, 4, .inr (.inr (.inr (.inr (fun k => [q5045, q5047, q5049, q5051][k]?)))))) :: (q5034, .inr (9, [.ref q5009, .ref q5011, .ref q5035, .ref q5036, .ref q5037, .int 0])) :: (q5035, .inl (cI, 12, .inl (fun _ => 0))) :: (q5036, .inl (cI, 12, .inl (fun _ => 0))) :: (q5037, .inl (cI, 12, .inl (fun _ => 0))) :: (q5038, .inr (9, [.ref q5009, .ref q5011, .ref q5039, .ref q5040, .ref q5041, .int 0])) :: (q5039, .inl (cI, 12, .inl (fun _ => 0))) :: (q5040, .inl (cI, 12, .inl (fun _ => 0))) :: (q5041, .inl (cI, 12, .inl (fun _ => 0))) :: (q5042, .inr (7, [.ref q5043, .ref q5044])) :: (q5043, .inl (cI, 4, .inl (fun _ => -1))) :: (q5044, .inl (cI, 4, .inl (fun _ => 0))) :: (q5045, .inr (6, [.ref q5046, .int (-1), .int 0])) :: (q5046, .inl (cI, 40, .inl (fun _ => 0))) :: (q5047, .inr (6, [.ref q5048, .int (-1), .int 0])) :: (q5048, .inl (cI, 40, .inl (fun _ => 0))) :: (q5049, .inr (6, [.ref q5050, .int (-1), .int 0])) :: (q5050, .inl (cI, 40, .inl (fun _ => 0))) :: (q5051, .inr (6, [.ref q5052, .int (-1), .int 0])) :: (q5052, .inl (cI, 40, .inl (fun _ => 0))) :: [])) (w1 := fun u => [(q5055, .inr (12, [.int 0, .int 1, .ref (u 0), .ref (u 1), .ref (u 2), .ref (u 3), .ref (u 4), .ref (u 5), .ref (u 6), .ref (u 7), .int 0, .int 0, .int 0, .int 0, .int 0, .int 0, .ref (u 8), .ref (u 9), .ref (u 10), .ref (u 11), .ref (u 12), .ref (u 13), .ref (u 14), .int 0])), ((u 0), .inl (cI, 12, .inl (fun _ => 0))), ((u 1), .inl (cI, 4096, .inl (fun _ => 0))), ((u 2), .inl (cI, 4096, .inl (fun _ => 0))), ((u 3), .inl (cI, 28672, .inl (fun _ => 0))), ((u 4), .inl (cI, 12, .inl (fun _ => 0))), ((u 5), .inl (cI, 12, .inl (fun _ => 0))), ((u 6), .inl (cI, 12, .inl (fun _ => 0))), ((u 7), .inl (cI, 120, .inl (fun _ => 0))), ((u 8), .inl (cI, 4, .inl (fun _ => -1))), ((u 9), .inl (cI, 4, .inl (fun _ => 0))), ((u 10), .inl (cI, 160, .inl (fun _ => 0))), ((u 11), .inl (cI, 4, .inl (fun _ => -1))), ((u 12), .inl (cI, 4, .inl (fun _ => 0))), ((u 13), .inl (cI, 4, .inl (fun _ => 0))), ((u 14), .inl (cI, 28, .inl (fun _ => 0)))]) (As := []) (rest := [.ref q5055]) ⟨hx, hb, hml, hown, hts⟩ (c_X12_init_0 l D cI cS _ q5055) hKK hP hD hS hA [45] (0 :: 1 :: 2 :: 3 :: 4 :: 5 :: 6 :: 7 :: 8 :: 9 :: 10 :: 11 :: 12 :: 13 :: 14 :: 15 :: 16 :: 17 :: 18 :: 19 :: 20 :: 21 :: 22 :: 23 :: 24 :: 25 :: 26 :: 27 :: 28 :: 29 :: 30 :: 31 :: 32 :: 33 :: 34 :: 35 :: 36 :: 37 :: 38 :: 39 :: 40 :: 41 :: 42 :: 43 :: 44 :: []) (by decide) rfl rfl (by decide) (by decide) hPc hDc (cwI 0 hts gL_law_X12_init rfl rfl rfl (hts (.initialized RX12) (by decide +kernel)) (hts (.methodLink RL 12 yX12_init) (by decide +kernel)) (hts (.instanceMethod yX12_init) (by decide +kernel)) rfl (by decide +kernel) ⟨Nat.le_of_ble_eq_true rfl, Nat.le_of_ble_eq_true rfl⟩) rfl hl.1 rfl (Nat.le_of_ble_eq_true rfl) dL_law_12 ⟨Nat.le_of_ble_eq_true rfl, Nat.le_of_ble_eq_true rfl⟩ (fun u5072 H locs hP hD hS => ?_)
  have hP : va_P D cls ((q5008, .inr (11, [.ref q5009, .ref q5011, .ref q5016, .ref q5017, .ref q5019, .ref q5021, .ref q5026, .int 0, .int 0, .ref q5028, .ref q5029, .ref q5031, .ref q5033, .ref q5034, .ref q5038, .ref q5042])) :: (q5009, .inr (2, [.ref q5010, .int 0, .int 0])) :: (q5010, .inl (cI, 12, .inl (fun _ => 0))) :: (q5011, .inr (3, [.ref q5009, .ref q5012, .ref q5014, .int 0])) :: (q5012, .inr (1, [.ref q5013, .int 1])) :: (q5013, .inl (cI, 4096, .inl (fun _ => 0))) :: (q5014, .inr (1, [.ref q5015, .int 1])) :: (q5015, .inl (cI, 0, .inl (fun _ => 0))) :: (q5016, .inr (4, [.ref q5009, .ref q5011])) :: (q5017, .inr (10, [.ref q5009, .ref q5011, .ref q5018, .int 0, .int 0, .int 0, .int 0, .int (-1)])) :: (q5018, .inl (cI, 5, .inl (fun _ => 0))) :: (q5019, .inr (2, [.ref q5020, .int 0, .int 0])) :: (q5020, .inl (cI, 12, .inl (fun _ => 0))) :: (q5021, .inr (3, [.ref q5019, .ref q5022, .ref q5024, .int 0])) :: (q5022, .inr (1, [.ref q5023, .int 1])) :: (q5023, .inl (cI, 4096, .inl (fun _ => 0))) :: (q5024, .inr (1, [.ref q5025, .int 1])) :: (q5025, .inl (cI, 0, .inl (fun _ => 0))) :: (q5026, .inr (2, [.ref q5027, .int 0, .int 0])) :: (q5027, .inl (cI, 12, .inl (fun _ => 0))) :: (q5028, .inr (0, [.int 1])) :: (q5029, .inr (8, [.ref q5030, .int 0])) :: (q5030, .inl (cI, 120, .inl (fun _ => 0))) :: (q5031, .inr (5, [.ref q5029, .ref q5009, .ref q5032, .int 0, .int 0, .int 0, .int 0, .int 0])) :: (q5032, .inl (cI, 12, .inl (fun _ => 0))) :: (q5033, .inl (cS, 4, .inr (.inr (.inr (.inr (fun k => [q5045, q5047, q5049, q5051][k]?)))))) :: (q5034, .inr (9, [.ref q5009, .ref q5011, .ref q5035, .ref q5036, .ref q5037, .int 0])) :: (q5035, .inl (cI, 12, .inl (fun _ => 0))) :: (q5036, .inl (cI, 12, .inl (fun _ => 0))) :: (q5037, .inl (cI, 12, .inl (fun _ => 0))) :: (q5038, .inr (9, [.ref q5009, .ref q5011, .ref q5039, .ref q5040, .ref q5041, .int 0])) :: (q5039, .inl (cI, 12, .inl (fun _ => 0))) :: (q5040, .inl (cI, 12, .inl (fun _ => 0))) :: (q5041, .inl (cI, 12, .inl (fun _ => 0))) :: (q5042, .inr (7, [.ref q5043, .ref q5044])) :: (q5043, .inl (cI, 4, .inl (fun _ => -1))) :: (q5044, .inl (cI, 4, .inl (fun _ => 0))) :: (q5045, .inr (6, [.ref q5046, .int (-1), .int 0])) :: (q5046, .inl (cI, 40, .inl (fun _ => 0))) :: (q5047, .inr (6, [.ref q5048, .int (-1), .int 0])) :: (q5048, .inl (cI, 40, .inl (fun _ => 0))) :: (q5049, .inr (6, [.ref q5050, .int (-1), .int 0])) :: (q5050, .inl (cI, 40, .inl (fun _ => 0))) :: (q5051, .inr (6, [.ref q5052, .int (-1), .int 0])) :: (q5052, .inl (cI, 40, .inl (fun _ => 0))) :: (q5055, .inr (12, [.int 0, .int 1, .ref (u5072 0), .ref (u5072 1), .ref (u5072 2), .ref (u5072 3), .ref (u5072 4), .ref (u5072 5), .ref (u5072 6), .ref (u5072 7), .int 0, .int 0, .int 0, .int 0, .int 0, .int 0, .ref (u5072 8), .ref (u5072 9), .ref (u5072 10), .ref (u5072 11), .ref (u5072 12), .ref (u5072 13), .ref (u5072 14), .int 0])) :: ((u5072 0), .inl (cI, 12, .inl (fun _ => 0))) :: ((u5072 1), .inl (cI, 4096, .inl (fun _ => 0))) :: ((u5072 2), .inl (cI, 4096, .inl (fun _ => 0))) :: ((u5072 3), .inl (cI, 28672, .inl (fun _ => 0))) :: ((u5072 4), .inl (cI, 12, .inl (fun _ => 0))) :: ((u5072 5), .inl (cI, 12, .inl (fun _ => 0))) :: ((u5072 6), .inl (cI, 12, .inl (fun _ => 0))) :: ((u5072 7), .inl (cI, 120, .inl (fun _ => 0))) :: ((u5072 8), .inl (cI, 4, .inl (fun _ => -1))) :: ((u5072 9), .inl (cI, 4, .inl (fun _ => 0))) :: ((u5072 10), .inl (cI, 160, .inl (fun _ => 0))) :: ((u5072 11), .inl (cI, 4, .inl (fun _ => -1))) :: ((u5072 12), .inl (cI, 4, .inl (fun _ => 0))) :: ((u5072 13), .inl (cI, 4, .inl (fun _ => 0))) :: ((u5072 14), .inl (cI, 28, .inl (fun _ => 0))) :: []) H := hP
  have hD : va_D A ((q5008, .inr (11, [.ref q5009, .ref q5011, .ref q5016, .ref q5017, .ref q5019, .ref q5021, .ref q5026, .int 0, .int 0, .ref q5028, .ref q5029, .ref q5031, .ref q5033, .ref q5034, .ref q5038, .ref q5042])) :: (q5009, .inr (2, [.ref q5010, .int 0, .int 0])) :: (q5010, .inl (cI, 12, .inl (fun _ => 0))) :: (q5011, .inr (3, [.ref q5009, .ref q5012, .ref q5014, .int 0])) :: (q5012, .inr (1, [.ref q5013, .int 1])) :: (q5013, .inl (cI, 4096, .inl (fun _ => 0))) :: (q5014, .inr (1, [.ref q5015, .int 1])) :: (q5015, .inl (cI, 0, .inl (fun _ => 0))) :: (q5016, .inr (4, [.ref q5009, .ref q5011])) :: (q5017, .inr (10, [.ref q5009, .ref q5011, .ref q5018, .int 0, .int 0, .int 0, .int 0, .int (-1)])) :: (q5018, .inl (cI, 5, .inl (fun _ => 0))) :: (q5019, .inr (2, [.ref q5020, .int 0, .int 0])) :: (q5020, .inl (cI, 12, .inl (fun _ => 0))) :: (q5021, .inr (3, [.ref q5019, .ref q5022, .ref q5024, .int 0])) :: (q5022, .inr (1, [.ref q5023, .int 1])) :: (q5023, .inl (cI, 4096, .inl (fun _ => 0))) :: (q5024, .inr (1, [.ref q5025, .int 1])) :: (q5025, .inl (cI, 0, .inl (fun _ => 0))) :: (q5026, .inr (2, [.ref q5027, .int 0, .int 0])) :: (q5027, .inl (cI, 12, .inl (fun _ => 0))) :: (q5028, .inr (0, [.int 1])) :: (q5029, .inr (8, [.ref q5030, .int 0])) :: (q5030, .inl (cI, 120, .inl (fun _ => 0))) :: (q5031, .inr (5, [.ref q5029, .ref q5009, .ref q5032, .int 0, .int 0, .int 0, .int 0, .int 0])) :: (q5032, .inl (cI, 12, .inl (fun _ => 0))) :: (q5033, .inl (cS, 4, .inr (.inr (.inr (.inr (fun k => [q5045, q5047, q5049, q5051][k]?)))))) :: (q5034, .inr (9, [.ref q5009, .ref q5011, .ref q5035, .ref q5036, .ref q5037, .int 0])) :: (q5035, .inl (cI, 12, .inl (fun _ => 0))) :: (q5036, .inl (cI, 12, .inl (fun _ => 0))) :: (q5037, .inl (cI, 12, .inl (fun _ => 0))) :: (q5038, .inr (9, [.ref q5009, .ref q5011, .ref q5039, .ref q5040, .ref q5041, .int 0])) :: (q5039, .inl (cI, 12, .inl (fun _ => 0))) :: (q5040, .inl (cI, 12, .inl (fun _ => 0))) :: (q5041, .inl (cI, 12, .inl (fun _ => 0))) :: (q5042, .inr (7, [.ref q5043, .ref q5044])) :: (q5043, .inl (cI, 4, .inl (fun _ => -1))) :: (q5044, .inl (cI, 4, .inl (fun _ => 0))) :: (q5045, .inr (6, [.ref q5046, .int (-1), .int 0])) :: (q5046, .inl (cI, 40, .inl (fun _ => 0))) :: (q5047, .inr (6, [.ref q5048, .int (-1), .int 0])) :: (q5048, .inl (cI, 40, .inl (fun _ => 0))) :: (q5049, .inr (6, [.ref q5050, .int (-1), .int 0])) :: (q5050, .inl (cI, 40, .inl (fun _ => 0))) :: (q5051, .inr (6, [.ref q5052, .int (-1), .int 0])) :: (q5052, .inl (cI, 40, .inl (fun _ => 0))) :: (q5055, .inr (12, [.int 0, .int 1, .ref (u5072 0), .ref (u5072 1), .ref (u5072 2), .ref (u5072 3), .ref (u5072 4), .ref (u5072 5), .ref (u5072 6), .ref (u5072 7), .int 0, .int 0, .int 0, .int 0, .int 0, .int 0, .ref (u5072 8), .ref (u5072 9), .ref (u5072 10), .ref (u5072 11), .ref (u5072 12), .ref (u5072 13), .ref (u5072 14), .int 0])) :: ((u5072 0), .inl (cI, 12, .inl (fun _ => 0))) :: ((u5072 1), .inl (cI, 4096, .inl (fun _ => 0))) :: ((u5072 2), .inl (cI, 4096, .inl (fun _ => 0))) :: ((u5072 3), .inl (cI, 28672, .inl (fun _ => 0))) :: ((u5072 4), .inl (cI, 12, .inl (fun _ => 0))) :: ((u5072 5), .inl (cI, 12, .inl (fun _ => 0))) :: ((u5072 6), .inl (cI, 12, .inl (fun _ => 0))) :: ((u5072 7), .inl (cI, 120, .inl (fun _ => 0))) :: ((u5072 8), .inl (cI, 4, .inl (fun _ => -1))) :: ((u5072 9), .inl (cI, 4, .inl (fun _ => 0))) :: ((u5072 10), .inl (cI, 160, .inl (fun _ => 0))) :: ((u5072 11), .inl (cI, 4, .inl (fun _ => -1))) :: ((u5072 12), .inl (cI, 4, .inl (fun _ => 0))) :: ((u5072 13), .inl (cI, 4, .inl (fun _ => 0))) :: ((u5072 14), .inl (cI, 28, .inl (fun _ => 0))) :: []) := hD
  generalize u5072 0 = q5056 at hP hD
  generalize u5072 1 = q5057 at hP hD
  generalize u5072 2 = q5058 at hP hD
  generalize u5072 3 = q5059 at hP hD
  generalize u5072 4 = q5060 at hP hD
  generalize u5072 5 = q5061 at hP hD
  generalize u5072 6 = q5062 at hP hD
  generalize u5072 7 = q5063 at hP hD
  generalize u5072 8 = q5064 at hP hD
  generalize u5072 9 = q5065 at hP hD
  generalize u5072 10 = q5066 at hP hD
  generalize u5072 11 = q5067 at hP hD
  generalize u5072 12 = q5068 at hP hD
  generalize u5072 13 = q5069 at hP hD
  generalize u5072 14 = q5070 at hP hD
  refine W.widen (k := 61) (n := 45961) (Nat.le_of_ble_eq_true rfl) (Nat.le_of_ble_eq_true rfl) ?_
  refine lv_astore_n (lv' := [(2, .ref q5055), (1, .ref q5008), (0, .ref b)]) hx hb dL_law_15 rfl hl (by decide) rfl (fun ls hl => ?_)
  refine lv_iconst (v := 0) hx hb dL_law_16 (by decide) ?_
  refine lv_istore_n (lv' := [(3, .int 0), (2, .ref q5055), (1, .ref q5008), (0, .ref b)]) hx hb dL_law_17 rfl hl (by decide) rfl (fun ls hl => ?_)
  have hPw : va_P D cls (lawW cI cS q5008 q5009 q5010 q5011 q5012 q5013 q5014 q5015 q5016 q5017 q5018 q5019 q5020 q5021 q5022 q5023 q5024 q5025 q5026 q5027 q5028 q5029 q5030 q5031 q5032 q5033 q5045 q5046 q5047 q5048 q5049 q5050 q5051 q5052 q5034 q5035 q5036 q5037 q5038 q5039 q5040 q5041 q5042 q5043 q5044 q5055 q5056 q5057 q5058 q5059 q5060 q5061 q5062 q5063 q5064 q5065 q5066 q5067 q5068 q5069 q5070) H := hP.sub (0 :: 1 :: 2 :: 3 :: 4 :: 5 :: 6 :: 7 :: 8 :: 9 :: 10 :: 11 :: 12 :: 13 :: 14 :: 15 :: 16 :: 17 :: 18 :: 19 :: 20 :: 21 :: 22 :: 23 :: 24 :: 25 :: 37 :: 38 :: 39 :: 40 :: 41 :: 42 :: 43 :: 44 :: 26 :: 27 :: 28 :: 29 :: 30 :: 31 :: 32 :: 33 :: 34 :: 35 :: 36 :: 45 :: 46 :: 47 :: 48 :: 49 :: 50 :: 51 :: 52 :: 53 :: 54 :: 55 :: 56 :: 57 :: 58 :: 59 :: 60 :: []) rfl
  have hDw : va_D A (lawW cI cS q5008 q5009 q5010 q5011 q5012 q5013 q5014 q5015 q5016 q5017 q5018 q5019 q5020 q5021 q5022 q5023 q5024 q5025 q5026 q5027 q5028 q5029 q5030 q5031 q5032 q5033 q5045 q5046 q5047 q5048 q5049 q5050 q5051 q5052 q5034 q5035 q5036 q5037 q5038 q5039 q5040 q5041 q5042 q5043 q5044 q5055 q5056 q5057 q5058 q5059 q5060 q5061 q5062 q5063 q5064 q5065 q5066 q5067 q5068 q5069 q5070) := hD.sub (0 :: 1 :: 2 :: 3 :: 4 :: 5 :: 6 :: 7 :: 8 :: 9 :: 10 :: 11 :: 12 :: 13 :: 14 :: 15 :: 16 :: 17 :: 18 :: 19 :: 20 :: 21 :: 22 :: 23 :: 24 :: 25 :: 37 :: 38 :: 39 :: 40 :: 41 :: 42 :: 43 :: 44 :: 26 :: 27 :: 28 :: 29 :: 30 :: 31 :: 32 :: 33 :: 34 :: 35 :: 36 :: 45 :: 46 :: 47 :: 48 :: 49 :: 50 :: 51 :: 52 :: 53 :: 54 :: 55 :: 56 :: 57 :: 58 :: 59 :: 60 :: []) (by decide +kernel) rfl
  refine W.widen (k := 1000) (n := 60000) (Nat.le_of_ble_eq_true rfl) (Nat.le_of_ble_eq_true rfl) ?_
  have fin : ∀ (H : Heap) (locs : List Loc) (ls : Array Slot), va_S A s.heap H locs → W p l e room_1 s m #[Value.ref b] below meth c H locs 2000 100000 (lw_Z below #[Value.ref b] s) (F0 m 1492 ls []) := by
    intro H locs ls hS
    refine lv_iconst (v := 1) hx hb dL_law_1492 (by decide) ?_
    refine va_forget (fun q hq => by have h9 := hS.2.2 q hq; rw [hAe] at h9; exact h9) ?_
    refine W.widen (k := 600000) (n := 7302250) (Nat.le_of_ble_eq_true rfl) (Nat.le_of_ble_eq_true rfl) ?_
    exact lw_ret hx hb hr hlocks dL_law_1493
  refine lv_iload_n hx hb dL_law_18 rfl (lv_at hl 0 rfl) ?_
  refine lv_aload_n hx hb dL_law_19 rfl (lv_at hl 3 rfl) ?_
  refine va_slen hx hb hX hbl hbA hS dL_law_20 ?_
  refine lv_bipush (v := 6) hx hb dL_law_21 (by decide) ?_
  refine lv_isub hx hb dL_law_23 ?_
  by_cases h6 : L = 6
  · subst h6
    refine lz_top (y := 0) (by decide) ?_
    refine lv_icmp_gt (tgt := 1492) hx hb dL_law_24 (by decide) (fun c1 => ?_) (fun c1 => ?_)
    · exact absurd c1 (by decide)
    · have tail : ∀ (H : Heap) (locs : List Loc) (ls : Array Slot), va_S A s.heap H locs → lv_has ls 4 [(3, .int 0), (2, .ref q5055), (1, .ref q5008), (0, .ref b)] → W p l e room_1 s m #[Value.ref b] below meth c H locs 2000 100000 (lw_Z below #[Value.ref b] s) (F0 m 1486 ls []) := by
        intro H locs ls hS hl
        refine lv_iinc (v := 6) (lv' := [(3, .int 6), (2, .ref q5055), (1, .ref q5008), (0, .ref b)]) hx hb dL_law_1486 hl (k := 0) rfl (by decide) (by decide) rfl (fun ls hl => ?_)
        refine lv_goto (tgt := 18) hx hb dL_law_1489 (by decide) ?_
        refine lv_iload_n hx hb dL_law_18 rfl (lv_at hl 0 rfl) ?_
        refine lv_aload_n hx hb dL_law_19 rfl (lv_at hl 3 rfl) ?_
        refine va_slen hx hb hX hbl hbA hS dL_law_20 ?_
        refine lv_bipush (v := 6) hx hb dL_law_21 (by decide) ?_
        refine lv_isub hx hb dL_law_23 ?_
        refine lz_top (y := 0) (by decide) ?_
        refine lv_icmp_gt (tgt := 1492) hx hb dL_law_24 (by decide) (fun c1 => ?_) (fun c1 => ?_)
        · exact fin _ _ _ hS
        · exact absurd (by decide) c1
      refine lv_aload_n hx hb dL_law_27 rfl (lv_at hl 3 rfl) ?_
      refine lv_iload_n hx hb dL_law_28 rfl (lv_at hl 0 rfl) ?_
      refine va_sld hx hb hX hbl hbA hS (lz_vp (x := 0) (n := 6) (by decide) (by decide)) dL_law_29 ?_
      refine lv_bipush (v := 63) hx hb dL_law_30 (by decide) ?_
      refine lv_iand hx hb dL_law_32 ?_
      obtain ⟨j, hj, ej⟩ := pk_andE (xs (0 : Int32).toNatClampNeg) (m := 63) 6 (by decide)
      refine lz_top ej ?_
      by_cases h44 : 44 ≤ j
      · refine lv_tableOut (tgt := 1486) hx hb dL_law_33 (Or.inr (by rw [nI_toInt (by omega)]; omega)) (by decide) ?_
        refine W.widen (k := 2000) (n := 100000) (Nat.le_of_ble_eq_true rfl) (Nat.le_of_ble_eq_true rfl) ?_
        exact tail _ _ _ hS hl
      · have h9 : j = 0 ∨ j = 1 ∨ j = 2 ∨ j = 3 ∨ j = 4 ∨ j = 5 ∨ j = 6 ∨ j = 7 ∨ j = 8 ∨ j = 9 ∨ j = 10 ∨ j = 11 ∨ j = 12 ∨ j = 13 ∨ j = 14 ∨ j = 15 ∨ j = 16 ∨ j = 17 ∨ j = 18 ∨ j = 19 ∨ j = 20 ∨ j = 21 ∨ j = 22 ∨ j = 23 ∨ j = 24 ∨ j = 25 ∨ j = 26 ∨ j = 27 ∨ j = 28 ∨ j = 29 ∨ j = 30 ∨ j = 31 ∨ j = 32 ∨ j = 33 ∨ j = 34 ∨ j = 35 ∨ j = 36 ∨ j = 37 ∨ j = 38 ∨ j = 39 ∨ j = 40 ∨ j = 41 ∨ j = 42 ∨ j = 43 := by omega
        rcases h9 with rfl | rfl | rfl | rfl | rfl | rfl | rfl | rfl | rfl | rfl | rfl | rfl | rfl | rfl | rfl | rfl | rfl | rfl | rfl | rfl | rfl | rfl | rfl | rfl | rfl | rfl | rfl | rfl | rfl | rfl | rfl | rfl | rfl | rfl | rfl | rfl | rfl | rfl | rfl | rfl | rfl | rfl | rfl | rfl
        · refine lv_tableIn (tgt := 224) (off := 191) hx hb dL_law_33 (by decide) (by decide) rfl (by decide) ?_
          exact lc_points hx hb hml hown hts hKK hX hbl hbA hA hPw hDw hS hl tail
        · refine lv_tableIn (tgt := 247) (off := 214) hx hb dL_law_33 (by decide) (by decide) rfl (by decide) ?_
          exact lc_line hx hb hml hown hts hKK hX hbl hbA hA hPw hDw hS hl tail
        · refine lv_tableIn (tgt := 290) (off := 257) hx hb dL_law_33 (by decide) (by decide) rfl (by decide) ?_
          exact lc_next hx hb hml hown hts hKK hX hbl hbA hA hPw hDw hS hl tail
        · refine lv_tableIn (tgt := 313) (off := 280) hx hb dL_law_33 (by decide) (by decide) rfl (by decide) ?_
          exact lc_count hx hb hml hown hts hKK hX hbl hbA hA hPw hDw hS hl tail
        · refine lv_tableIn (tgt := 336) (off := 303) hx hb dL_law_33 (by decide) (by decide) rfl (by decide) ?_
          exact lc_most hx hb hml hown hts hKK hX hbl hbA hA hPw hDw hS hl tail
        · refine lv_tableIn (tgt := 359) (off := 326) hx hb dL_law_33 (by decide) (by decide) rfl (by decide) ?_
          exact lc_mate hx hb hml hown hts hKK hX hbl hbA hA hPw hDw hS hl tail
        · refine lv_tableIn (tgt := 382) (off := 349) hx hb dL_law_33 (by decide) (by decide) rfl (by decide) ?_
          exact lc_ways hx hb hml hown hts hKK hX hbl hbA hA hPw hDw hS hl tail
        · refine lv_tableIn (tgt := 405) (off := 372) hx hb dL_law_33 (by decide) (by decide) rfl (by decide) ?_
          exact lc_alone hx hb hml hown hts hKK hX hbl hbA hA hPw hDw hS hl tail
        · refine lv_tableIn (tgt := 438) (off := 405) hx hb dL_law_33 (by decide) (by decide) rfl (by decide) ?_
          exact lc_mark hx hb hml hown hts hKK hX hbl hbA hA hPw hDw hS hl tail
        · refine lv_tableIn (tgt := 461) (off := 428) hx hb dL_law_33 (by decide) (by decide) rfl (by decide) ?_
          exact lc_marked hx hb hml hown hts hKK hX hbl hbA hA hPw hDw hS hl tail
        · refine lv_tableIn (tgt := 484) (off := 451) hx hb dL_law_33 (by decide) (by decide) rfl (by decide) ?_
          exact lc_pieces hx hb hml hown hts hKK hX hbl hbA hA hPw hDw hS hl tail
        · refine lv_tableIn (tgt := 507) (off := 474) hx hb dL_law_33 (by decide) (by decide) rfl (by decide) ?_
          exact lc_piece hx hb hml hown hts hKK hX hbl hbA hA hPw hDw hS hl tail
        · refine lv_tableIn (tgt := 550) (off := 517) hx hb dL_law_33 (by decide) (by decide) rfl (by decide) ?_
          exact lc_surplus hx hb hml hown hts hKK hX hbl hbA hA hPw hDw hS hl tail
        · refine lv_tableIn (tgt := 573) (off := 540) hx hb dL_law_33 (by decide) (by decide) rfl (by decide) ?_
          exact lc_odd hx hb hml hown hts hKK hX hbl hbA hA hPw hDw hS hl tail
        · refine lv_tableIn (tgt := 596) (off := 563) hx hb dL_law_33 (by decide) (by decide) rfl (by decide) ?_
          exact lc_barrier hx hb hml hown hts hKK hX hbl hbA hA hPw hDw hS hl tail
        · refine lv_tableIn (tgt := 619) (off := 586) hx hb dL_law_33 (by decide) (by decide) rfl (by decide) ?_
          exact lc_barriers hx hb hml hown hts hKK hX hbl hbA hA hPw hDw hS hl tail
        · refine lv_tableIn (tgt := 642) (off := 609) hx hb dL_law_33 (by decide) (by decide) rfl (by decide) ?_
          exact lc_critical hx hb hml hown hts hKK hX hbl hbA hA hPw hDw hS hl tail
        · refine lv_tableIn (tgt := 665) (off := 632) hx hb dL_law_33 (by decide) (by decide) rfl (by decide) ?_
          exact lc_ear hx hb hml hown hts hKK hX hbl hbA hA hPw hDw hS hl tail
        · refine lv_tableIn (tgt := 698) (off := 665) hx hb dL_law_33 (by decide) (by decide) rfl (by decide) ?_
          exact lc_verdict hx hb hml hown hts hKK hX hbl hbA hA hPw hDw hS hl tail
        · refine lv_tableIn (tgt := 731) (off := 698) hx hb dL_law_33 (by decide) (by decide) rfl (by decide) ?_
          exact lc_verdicts hx hb hml hown hts hKK hX hbl hbA hA hPw hDw hS hl tail
        · refine lv_tableIn (tgt := 754) (off := 721) hx hb dL_law_33 (by decide) (by decide) rfl (by decide) ?_
          exact lc_without hx hb hml hown hts hKK hX hbl hbA hA hPw hDw hS hl tail
        · refine lv_tableIn (tgt := 777) (off := 744) hx hb dL_law_33 (by decide) (by decide) rfl (by decide) ?_
          exact lc_mends hx hb hml hown hts hKK hX hbl hbA hA hPw hDw hS hl tail
        · refine lv_tableIn (tgt := 800) (off := 767) hx hb dL_law_33 (by decide) (by decide) rfl (by decide) ?_
          exact lc_breaks hx hb hml hown hts hKK hX hbl hbA hA hPw hDw hS hl tail
        · refine lv_tableIn (tgt := 823) (off := 790) hx hb dL_law_33 (by decide) (by decide) rfl (by decide) ?_
          exact lc_isTold hx hb hml hown hts hKK hX hbl hbA hA hPw hDw hS hl tail
        · refine lv_tableIn (tgt := 846) (off := 813) hx hb dL_law_33 (by decide) (by decide) rfl (by decide) ?_
          exact lc_misses hx hb hml hown hts hKK hX hbl hbA hA hPw hDw hS hl tail
        · refine lv_tableIn (tgt := 869) (off := 836) hx hb dL_law_33 (by decide) (by decide) rfl (by decide) ?_
          exact lc_way hx hb hml hown hts hKK hX hbl hbA hA hPw hDw hS hl tail
        · refine lv_tableIn (tgt := 902) (off := 869) hx hb dL_law_33 (by decide) (by decide) rfl (by decide) ?_
          exact lc_grow hx hb hml hown hts hKK hX hbl hbA hA hPw hDw hS hl tail
        · refine lv_tableIn (tgt := 925) (off := 892) hx hb dL_law_33 (by decide) (by decide) rfl (by decide) ?_
          exact lc_chains hx hb hml hown hts hKK hX hbl hbA hA hPw hDw hS hl tail
        · refine lv_tableIn (tgt := 968) (off := 935) hx hb dL_law_33 (by decide) (by decide) rfl (by decide) ?_
          exact lc_paint hx hb hml hown hts hKK hX hbl hbA hA hPw hDw hS hl tail
        · refine lv_tableIn (tgt := 1001) (off := 968) hx hb dL_law_33 (by decide) (by decide) rfl (by decide) ?_
          exact lc_feed hx hb hml hown hts hKK hX hbl hbA hA hPw hDw hS hl tail
        · refine lv_tableIn (tgt := 1034) (off := 1001) hx hb dL_law_33 (by decide) (by decide) rfl (by decide) ?_
          exact lc_wipe hx hb hml hown hts hKK hX hbl hbA hA hPw hDw hS hl tail
        · refine lv_tableIn (tgt := 1047) (off := 1014) hx hb dL_law_33 (by decide) (by decide) rfl (by decide) ?_
          exact lc_text hx hb hml hown hts hKK hX hbl hbA hA hPw hDw hS hl tail
        · refine lv_tableIn (tgt := 1060) (off := 1027) hx hb dL_law_33 (by decide) (by decide) rfl (by decide) ?_
          exact lc_seed hx hb hml hown hts hKK hX hbl hbA hA hPw hDw hS hl tail
        · refine lv_tableIn (tgt := 1083) (off := 1050) hx hb dL_law_33 (by decide) (by decide) rfl (by decide) ?_
          exact lc_deal hx hb hml hown hts hKK hX hbl hbA hA hPw hDw hS hl tail
        · refine lv_tableIn (tgt := 1116) (off := 1083) hx hb dL_law_33 (by decide) (by decide) rfl (by decide) ?_
          exact lc_times hx hb hml hown hts hKK hX hbl hbA hA hPw hDw hS hl tail
        · refine lv_tableIn (tgt := 1169) (off := 1136) hx hb dL_law_33 (by decide) (by decide) rfl (by decide) ?_
          exact lc_shelf hx hb hml hown hts hKK hX hbl hbA hA hPw hDw hS hl tail
        · refine lv_tableIn (tgt := 1212) (off := 1179) hx hb dL_law_33 (by decide) (by decide) rfl (by decide) ?_
          exact lc_taken hx hb hml hown hts hKK hX hbl hbA hA hPw hDw hS hl tail
        · refine lv_tableIn (tgt := 1245) (off := 1212) hx hb dL_law_33 (by decide) (by decide) rfl (by decide) ?_
          exact lc_held hx hb hml hown hts hKK hX hbl hbA hA hPw hDw hS hl tail
        · refine lv_tableIn (tgt := 1278) (off := 1245) hx hb dL_law_33 (by decide) (by decide) rfl (by decide) ?_
          exact lc_sheet hx hb hml hown hts hKK hX hbl hbA hA hPw hDw hS hl tail
        · refine lv_tableIn (tgt := 1321) (off := 1288) hx hb dL_law_33 (by decide) (by decide) rfl (by decide) ?_
          exact lc_write hx hb hml hown hts hKK hX hbl hbA hA hPw hDw hS hl tail
        · refine lv_tableIn (tgt := 1364) (off := 1331) hx hb dL_law_33 (by decide) (by decide) rfl (by decide) ?_
          exact lc_item hx hb hml hown hts hKK hX hbl hbA hA hPw hDw hS hl tail
        · refine lv_tableIn (tgt := 1397) (off := 1364) hx hb dL_law_33 (by decide) (by decide) rfl (by decide) ?_
          exact lc_copy hx hb hml hown hts hKK hX hbl hbA hA hPw hDw hS hl tail
        · refine lv_tableIn (tgt := 1460) (off := 1427) hx hb dL_law_33 (by decide) (by decide) rfl (by decide) ?_
          exact lc_image hx hb hml hown hts hKK hX hbl hbA hA hPw hDw hS hl tail
        · refine lv_tableIn (tgt := 1473) (off := 1440) hx hb dL_law_33 (by decide) (by decide) rfl (by decide) ?_
          exact lc_back hx hb hml hown hts hKK hX hbl hbA hA hPw hDw hS hl tail
  · have hlt : L < 6 := by omega
    refine lv_icmp_gt (tgt := 1492) hx hb dL_law_24 (by decide) (fun c1 => ?_) (fun c1 => ?_)
    · refine W.widen (k := 2000) (n := 100000) (Nat.le_of_ble_eq_true rfl) (Nat.le_of_ble_eq_true rfl) ?_
      exact fin _ _ _ hS
    · exfalso
      rcases (show L = 0 ∨ L = 1 ∨ L = 2 ∨ L = 3 ∨ L = 4 ∨ L = 5 by omega) with rfl | rfl | rfl | rfl | rfl | rfl <;> exact c1 (by decide)
