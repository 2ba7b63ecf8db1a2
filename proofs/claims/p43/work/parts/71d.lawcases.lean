set_option maxHeartbeats 4000000 in
set_option maxRecDepth 100000 in
theorem lc_35 {p : Program} {l : Launch} {e : Env} {s : State} {m : MethodId} {below : List Frame} {meth : Method} {c : Code} {b0 L0 : Nat} {xs : Nat → Int32} {D : va_G} {cI cS : ClassId} {A : Nat → Prop} {H : Heap} {locs : List Loc} {ls : Array Slot} {Q : State → Prop} {a b : Nat → Nat} {na nc N cells slots : Nat} {cx my : Nat → Int32} {R u v : SU} {i : Int32} (hx : p.tables.exec = Jvm.exec) (hb : c.code = cL_law) (hml : c.maxLocals = 4) (hown : s.vm.findClass RL = some m.cls) (hts : ∀ w ∈ wsL_law, w.before #[Value.ref b0] s = true) (hKK : KK D cI cS s) (hAB0 : AB s s.heap) (hA0 : ∀ q : Nat, q < s.heap.size → ¬ A q) (hX : va_X b0 L0 xs s s.heap) (hbl : b0 < s.heap.size) (hbA : ¬ A b0) (hA : ∀ q : Nat, s.heap.size ≤ q → A q) (hL0 : L0 ≤ 3072) (hi0 : 0 ≤ i.toInt) (hi1 : i.toInt + 6 ≤ (L0 : Int)) (hst : ST D cI cS A s a b b0 i na nc N cx my R u v H locs ls cells slots) (tail : ∀ (na nc N : Nat) (cx my : Nat → Int32) (R u v : SU) (H : Heap) (locs : List Loc) (ls : Array Slot) (cells slots : Nat), ST D cI cS A s a b b0 i na nc N cx my R u v H locs ls cells slots → W p l e room_1 s m #[Value.ref b0] below meth c H locs cells slots Q (F0 m 1486 ls [])) : W p l e room_1 s m #[Value.ref b0] below meth c H locs cells slots Q (F0 m 1169 ls []) := by
  obtain ⟨hcs, ⟨hTX, hTM, hV, hR⟩, hP, hD, hS, hl⟩ := hst
  have hN := hcs.hN
  have hK := hKK.1
  have hR : (cx 0).toInt = (my 0).toInt ∧ (cx 5).toInt = (my 1).toInt ∧ (cx 4).toInt = ((R 2) 1).toInt ∧ (cx 6).toInt = (my 2).toInt ∧ (cx 3).toInt = (my 3).toInt ∧ (cx 2).toInt = ((R 2) 0).toInt ∧ (cx 7).toInt = ((R 0) 0).toInt ∧ (cx 8).toInt = ((R 0) 1).toInt ∧ (cx 9).toInt = ((R 0) 2).toInt ∧ (cx 10).toInt = ((R 0) 3).toInt ∧ (cx 11).toInt = ((R 1) 0).toInt ∧ (cx 12).toInt = ((R 1) 1).toInt ∧ (cx 13).toInt = ((R 1) 2).toInt ∧ (cx 14).toInt = ((R 1) 3).toInt := hR
  obtain ⟨x1, hx1⟩ : ∃ z, xs (i + 1).toNatClampNeg = z := ⟨_, rfl⟩
  obtain ⟨x2, hx2⟩ : ∃ z, xs (i + 2).toNatClampNeg = z := ⟨_, rfl⟩
  obtain ⟨x3, hx3⟩ : ∃ z, xs (i + 3).toNatClampNeg = z := ⟨_, rfl⟩
  obtain ⟨x4, hx4⟩ : ∃ z, xs (i + 4).toNatClampNeg = z := ⟨_, rfl⟩
  obtain ⟨x5, hx5⟩ : ∃ z, xs (i + 5).toNatClampNeg = z := ⟨_, rfl⟩
  refine lv_aload_n hx hb dL_law_1169 rfl (lv_at hl 2 rfl) ?_
  refine lv_aload_n hx hb dL_law_1170 rfl (lv_at hl 3 rfl) ?_
  refine lv_iload_n hx hb dL_law_1171 rfl (lv_at hl 0 rfl) ?_
  refine lv_iconst (v := 1) hx hb dL_law_1172 (by decide) ?_
  refine lv_iadd hx hb dL_law_1173 ?_
  refine va_sld hx hb hX hbl hbA hS (lw_vin hi0 hi1 hL0 (by decide)) dL_law_1174 ?_
  refine lz_top (y := x1) hx1 ?_
  refine lv_aload_n hx hb dL_law_1175 rfl (lv_at hl 3 rfl) ?_
  refine lv_iload_n hx hb dL_law_1176 rfl (lv_at hl 0 rfl) ?_
  refine lv_iconst (v := 2) hx hb dL_law_1177 (by decide) ?_
  refine lv_iadd hx hb dL_law_1178 ?_
  refine va_sld hx hb hX hbl hbA hS (lw_vin hi0 hi1 hL0 (by decide)) dL_law_1179 ?_
  refine lz_top (y := x2) hx2 ?_
  refine lv_aload_n hx hb dL_law_1180 rfl (lv_at hl 3 rfl) ?_
  refine lv_iload_n hx hb dL_law_1181 rfl (lv_at hl 0 rfl) ?_
  refine lv_iconst (v := 3) hx hb dL_law_1182 (by decide) ?_
  refine lv_iadd hx hb dL_law_1183 ?_
  refine va_sld hx hb hX hbl hbA hS (lw_vin hi0 hi1 hL0 (by decide)) dL_law_1184 ?_
  refine lz_top (y := x3) hx3 ?_
  refine lq_X (S := SU) (fna := fun _ => na) (fnc := fun _ => nc) (fN := fun _ => N) (fL := fun _ => (mkL (cx 0) (cx 1) (cx 2) (cx 3) (cx 4) (cx 5) (cx 6) (cx 7) (cx 8) (cx 9) (cx 10) (cx 11) (cx 12) (cx 13) (cx 14))) (fu := fun q => q) (As := [.int x1, .int x2, .int x3]) (rest := []) ⟨hx, hb, hml, hown, hts⟩ (k_X11_shelf l D cI cS _ a na nc N (mkL (cx 0) (cx 1) (cx 2) (cx 3) (cx 4) (cx 5) (cx 6) (cx 7) (cx 8) (cx 9) (cx 10) (cx 11) (cx 12) (cx 13) (cx 14)) u hTX hN x1 x2 x3 ) hKK hP hD hS hA (cwV 3 hts gL_law_X11_shelf rfl rfl rfl (by decide +kernel) ⟨Nat.le_of_ble_eq_true rfl, Nat.le_of_ble_eq_true rfl⟩) rfl hl.1 rfl (Nat.le_of_ble_eq_true rfl) dL_law_1185 (CSL.hf hcs) (fun r52296 u H locs hr52296 hP hD hS => ?_)
  refine lv_pop hx hb dL_law_1188 rfl ?_
  refine lv_aload_n hx hb dL_law_1189 rfl (lv_at hl 1 rfl) ?_
  refine lv_aload_n hx hb dL_law_1190 rfl (lv_at hl 3 rfl) ?_
  refine lv_iload_n hx hb dL_law_1191 rfl (lv_at hl 0 rfl) ?_
  refine lv_iconst (v := 1) hx hb dL_law_1192 (by decide) ?_
  refine lv_iadd hx hb dL_law_1193 ?_
  refine va_sld hx hb hX hbl hbA hS (lw_vin hi0 hi1 hL0 (by decide)) dL_law_1194 ?_
  refine lz_top (y := x1) hx1 ?_
  refine lv_aload_n hx hb dL_law_1195 rfl (lv_at hl 3 rfl) ?_
  refine lv_iload_n hx hb dL_law_1196 rfl (lv_at hl 0 rfl) ?_
  refine lv_iconst (v := 2) hx hb dL_law_1197 (by decide) ?_
  refine lv_iadd hx hb dL_law_1198 ?_
  refine va_sld hx hb hX hbl hbA hS (lw_vin hi0 hi1 hL0 (by decide)) dL_law_1199 ?_
  refine lz_top (y := x2) hx2 ?_
  refine lv_aload_n hx hb dL_law_1200 rfl (lv_at hl 3 rfl) ?_
  refine lv_iload_n hx hb dL_law_1201 rfl (lv_at hl 0 rfl) ?_
  refine lv_iconst (v := 3) hx hb dL_law_1202 (by decide) ?_
  refine lv_iadd hx hb dL_law_1203 ?_
  refine va_sld hx hb hX hbl hbA hS (lw_vin hi0 hi1 hL0 (by decide)) dL_law_1204 ?_
  refine lz_top (y := x3) hx3 ?_
  refine lq_M (S := SU) (fL := fun _ => (mkM (my 0) (my 1) (my 2) (my 3) (my 4) (my 5) (my 6) (R 0) (R 1) (R 2))) (fu := fun q => q) (As := [.int x1, .int x2, .int x3]) (rest := []) ⟨hx, hb, hml, hown, hts⟩ (w_X12_shelf l D cI cS _ b (mkM (my 0) (my 1) (my 2) (my 3) (my 4) (my 5) (my 6) (R 0) (R 1) (R 2)) v hTM hV x1 x2 x3 ) hKK hP hD hS hA (cwV 3 hts gL_law_X12_shelf rfl rfl rfl (by decide +kernel) ⟨Nat.le_of_ble_eq_true rfl, Nat.le_of_ble_eq_true rfl⟩) rfl hl.1 rfl (Nat.le_of_ble_eq_true rfl) dL_law_1205 (CSL.hf hcs) (fun r52297 v H locs hr52297 hP hD hS => ?_)
  have hV := hr52297.1
  refine lv_pop hx hb dL_law_1208 rfl ?_
  refine lv_goto (tgt := 1486) hx hb dL_law_1209 (by decide) ?_
  exact tail na nc N  cx my R u v _ _ _ _ _ ⟨hcs, ⟨hTX, hTM, hV, hR⟩, hP, hD, hS, hl⟩
set_option maxHeartbeats 4000000 in
set_option maxRecDepth 100000 in
theorem lc_36 {p : Program} {l : Launch} {e : Env} {s : State} {m : MethodId} {below : List Frame} {meth : Method} {c : Code} {b0 L0 : Nat} {xs : Nat → Int32} {D : va_G} {cI cS : ClassId} {A : Nat → Prop} {H : Heap} {locs : List Loc} {ls : Array Slot} {Q : State → Prop} {a b : Nat → Nat} {na nc N cells slots : Nat} {cx my : Nat → Int32} {R u v : SU} {i : Int32} (hx : p.tables.exec = Jvm.exec) (hb : c.code = cL_law) (hml : c.maxLocals = 4) (hown : s.vm.findClass RL = some m.cls) (hts : ∀ w ∈ wsL_law, w.before #[Value.ref b0] s = true) (hKK : KK D cI cS s) (hAB0 : AB s s.heap) (hA0 : ∀ q : Nat, q < s.heap.size → ¬ A q) (hX : va_X b0 L0 xs s s.heap) (hbl : b0 < s.heap.size) (hbA : ¬ A b0) (hA : ∀ q : Nat, s.heap.size ≤ q → A q) (hL0 : L0 ≤ 3072) (hi0 : 0 ≤ i.toInt) (hi1 : i.toInt + 6 ≤ (L0 : Int)) (hst : ST D cI cS A s a b b0 i na nc N cx my R u v H locs ls cells slots) (tail : ∀ (na nc N : Nat) (cx my : Nat → Int32) (R u v : SU) (H : Heap) (locs : List Loc) (ls : Array Slot) (cells slots : Nat), ST D cI cS A s a b b0 i na nc N cx my R u v H locs ls cells slots → W p l e room_1 s m #[Value.ref b0] below meth c H locs cells slots Q (F0 m 1486 ls [])) : W p l e room_1 s m #[Value.ref b0] below meth c H locs cells slots Q (F0 m 1212 ls []) := by
  obtain ⟨hcs, ⟨hTX, hTM, hV, hR⟩, hP, hD, hS, hl⟩ := hst
  have hN := hcs.hN
  have hK := hKK.1
  have hR : (cx 0).toInt = (my 0).toInt ∧ (cx 5).toInt = (my 1).toInt ∧ (cx 4).toInt = ((R 2) 1).toInt ∧ (cx 6).toInt = (my 2).toInt ∧ (cx 3).toInt = (my 3).toInt ∧ (cx 2).toInt = ((R 2) 0).toInt ∧ (cx 7).toInt = ((R 0) 0).toInt ∧ (cx 8).toInt = ((R 0) 1).toInt ∧ (cx 9).toInt = ((R 0) 2).toInt ∧ (cx 10).toInt = ((R 0) 3).toInt ∧ (cx 11).toInt = ((R 1) 0).toInt ∧ (cx 12).toInt = ((R 1) 1).toInt ∧ (cx 13).toInt = ((R 1) 2).toInt ∧ (cx 14).toInt = ((R 1) 3).toInt := hR
  obtain ⟨x1, hx1⟩ : ∃ z, xs (i + 1).toNatClampNeg = z := ⟨_, rfl⟩
  obtain ⟨x2, hx2⟩ : ∃ z, xs (i + 2).toNatClampNeg = z := ⟨_, rfl⟩
  obtain ⟨x3, hx3⟩ : ∃ z, xs (i + 3).toNatClampNeg = z := ⟨_, rfl⟩
  obtain ⟨x4, hx4⟩ : ∃ z, xs (i + 4).toNatClampNeg = z := ⟨_, rfl⟩
  obtain ⟨x5, hx5⟩ : ∃ z, xs (i + 5).toNatClampNeg = z := ⟨_, rfl⟩
  refine lv_aload_n hx hb dL_law_1212 rfl (lv_at hl 2 rfl) ?_
  refine lv_aload_n hx hb dL_law_1213 rfl (lv_at hl 3 rfl) ?_
  refine lv_iload_n hx hb dL_law_1214 rfl (lv_at hl 0 rfl) ?_
  refine lv_iconst (v := 1) hx hb dL_law_1215 (by decide) ?_
  refine lv_iadd hx hb dL_law_1216 ?_
  refine va_sld hx hb hX hbl hbA hS (lw_vin hi0 hi1 hL0 (by decide)) dL_law_1217 ?_
  refine lz_top (y := x1) hx1 ?_
  refine lv_aload_n hx hb dL_law_1218 rfl (lv_at hl 3 rfl) ?_
  refine lv_iload_n hx hb dL_law_1219 rfl (lv_at hl 0 rfl) ?_
  refine lv_iconst (v := 2) hx hb dL_law_1220 (by decide) ?_
  refine lv_iadd hx hb dL_law_1221 ?_
  refine va_sld hx hb hX hbl hbA hS (lw_vin hi0 hi1 hL0 (by decide)) dL_law_1222 ?_
  refine lz_top (y := x2) hx2 ?_
  refine lq_TX (As := [.int x1, .int x2]) (rest := []) ⟨hx, hb, hml, hown, hts⟩ (k_X11_taken l D cI cS a na nc N (mkL (cx 0) (cx 1) (cx 2) (cx 3) (cx 4) (cx 5) (cx 6) (cx 7) (cx 8) (cx 9) (cx 10) (cx 11) (cx 12) (cx 13) (cx 14)) u hTX hN x1 x2 ) hKK (hAB0.at hA0 hS) hP (cwV 2 hts gL_law_X11_taken rfl rfl rfl (by decide +kernel) ⟨Nat.le_of_ble_eq_true rfl, Nat.le_of_ble_eq_true rfl⟩) rfl hl.1 rfl (Nat.le_of_ble_eq_true rfl) dL_law_1223 (CSL.hf hcs) (fun r52298 hr52298 => ?_)
  refine lv_pop hx hb dL_law_1226 rfl ?_
  refine lv_aload_n hx hb dL_law_1227 rfl (lv_at hl 1 rfl) ?_
  refine lv_aload_n hx hb dL_law_1228 rfl (lv_at hl 3 rfl) ?_
  refine lv_iload_n hx hb dL_law_1229 rfl (lv_at hl 0 rfl) ?_
  refine lv_iconst (v := 1) hx hb dL_law_1230 (by decide) ?_
  refine lv_iadd hx hb dL_law_1231 ?_
  refine va_sld hx hb hX hbl hbA hS (lw_vin hi0 hi1 hL0 (by decide)) dL_law_1232 ?_
  refine lz_top (y := x1) hx1 ?_
  refine lv_aload_n hx hb dL_law_1233 rfl (lv_at hl 3 rfl) ?_
  refine lv_iload_n hx hb dL_law_1234 rfl (lv_at hl 0 rfl) ?_
  refine lv_iconst (v := 2) hx hb dL_law_1235 (by decide) ?_
  refine lv_iadd hx hb dL_law_1236 ?_
  refine va_sld hx hb hX hbl hbA hS (lw_vin hi0 hi1 hL0 (by decide)) dL_law_1237 ?_
  refine lz_top (y := x2) hx2 ?_
  refine lq_SM (As := [.int x1, .int x2]) (rest := []) ⟨hx, hb, hml, hown, hts⟩ (w_X12_taken l D cI cS b (mkM (my 0) (my 1) (my 2) (my 3) (my 4) (my 5) (my 6) (R 0) (R 1) (R 2)) v hTM hV x1 x2 ) hKK hP (cwV 2 hts gL_law_X12_taken rfl rfl rfl (by decide +kernel) ⟨Nat.le_of_ble_eq_true rfl, Nat.le_of_ble_eq_true rfl⟩) rfl hl.1 rfl (Nat.le_of_ble_eq_true rfl) dL_law_1238 (CSL.hf hcs) (fun r52299 hr52299 => ?_)
  refine lv_pop hx hb dL_law_1241 rfl ?_
  refine lv_goto (tgt := 1486) hx hb dL_law_1242 (by decide) ?_
  exact tail na nc N  cx my R u v _ _ _ _ _ ⟨hcs, ⟨hTX, hTM, hV, hR⟩, hP, hD, hS, hl⟩
set_option maxHeartbeats 4000000 in
set_option maxRecDepth 100000 in
theorem lc_37 {p : Program} {l : Launch} {e : Env} {s : State} {m : MethodId} {below : List Frame} {meth : Method} {c : Code} {b0 L0 : Nat} {xs : Nat → Int32} {D : va_G} {cI cS : ClassId} {A : Nat → Prop} {H : Heap} {locs : List Loc} {ls : Array Slot} {Q : State → Prop} {a b : Nat → Nat} {na nc N cells slots : Nat} {cx my : Nat → Int32} {R u v : SU} {i : Int32} (hx : p.tables.exec = Jvm.exec) (hb : c.code = cL_law) (hml : c.maxLocals = 4) (hown : s.vm.findClass RL = some m.cls) (hts : ∀ w ∈ wsL_law, w.before #[Value.ref b0] s = true) (hKK : KK D cI cS s) (hAB0 : AB s s.heap) (hA0 : ∀ q : Nat, q < s.heap.size → ¬ A q) (hX : va_X b0 L0 xs s s.heap) (hbl : b0 < s.heap.size) (hbA : ¬ A b0) (hA : ∀ q : Nat, s.heap.size ≤ q → A q) (hL0 : L0 ≤ 3072) (hi0 : 0 ≤ i.toInt) (hi1 : i.toInt + 6 ≤ (L0 : Int)) (hst : ST D cI cS A s a b b0 i na nc N cx my R u v H locs ls cells slots) (tail : ∀ (na nc N : Nat) (cx my : Nat → Int32) (R u v : SU) (H : Heap) (locs : List Loc) (ls : Array Slot) (cells slots : Nat), ST D cI cS A s a b b0 i na nc N cx my R u v H locs ls cells slots → W p l e room_1 s m #[Value.ref b0] below meth c H locs cells slots Q (F0 m 1486 ls [])) : W p l e room_1 s m #[Value.ref b0] below meth c H locs cells slots Q (F0 m 1245 ls []) := by
  obtain ⟨hcs, ⟨hTX, hTM, hV, hR⟩, hP, hD, hS, hl⟩ := hst
  have hN := hcs.hN
  have hK := hKK.1
  have hR : (cx 0).toInt = (my 0).toInt ∧ (cx 5).toInt = (my 1).toInt ∧ (cx 4).toInt = ((R 2) 1).toInt ∧ (cx 6).toInt = (my 2).toInt ∧ (cx 3).toInt = (my 3).toInt ∧ (cx 2).toInt = ((R 2) 0).toInt ∧ (cx 7).toInt = ((R 0) 0).toInt ∧ (cx 8).toInt = ((R 0) 1).toInt ∧ (cx 9).toInt = ((R 0) 2).toInt ∧ (cx 10).toInt = ((R 0) 3).toInt ∧ (cx 11).toInt = ((R 1) 0).toInt ∧ (cx 12).toInt = ((R 1) 1).toInt ∧ (cx 13).toInt = ((R 1) 2).toInt ∧ (cx 14).toInt = ((R 1) 3).toInt := hR
  obtain ⟨x1, hx1⟩ : ∃ z, xs (i + 1).toNatClampNeg = z := ⟨_, rfl⟩
  obtain ⟨x2, hx2⟩ : ∃ z, xs (i + 2).toNatClampNeg = z := ⟨_, rfl⟩
  obtain ⟨x3, hx3⟩ : ∃ z, xs (i + 3).toNatClampNeg = z := ⟨_, rfl⟩
  obtain ⟨x4, hx4⟩ : ∃ z, xs (i + 4).toNatClampNeg = z := ⟨_, rfl⟩
  obtain ⟨x5, hx5⟩ : ∃ z, xs (i + 5).toNatClampNeg = z := ⟨_, rfl⟩
  refine lv_aload_n hx hb dL_law_1245 rfl (lv_at hl 2 rfl) ?_
  refine lv_aload_n hx hb dL_law_1246 rfl (lv_at hl 3 rfl) ?_
  refine lv_iload_n hx hb dL_law_1247 rfl (lv_at hl 0 rfl) ?_
  refine lv_iconst (v := 1) hx hb dL_law_1248 (by decide) ?_
  refine lv_iadd hx hb dL_law_1249 ?_
  refine va_sld hx hb hX hbl hbA hS (lw_vin hi0 hi1 hL0 (by decide)) dL_law_1250 ?_
  refine lz_top (y := x1) hx1 ?_
  refine lv_aload_n hx hb dL_law_1251 rfl (lv_at hl 3 rfl) ?_
  refine lv_iload_n hx hb dL_law_1252 rfl (lv_at hl 0 rfl) ?_
  refine lv_iconst (v := 2) hx hb dL_law_1253 (by decide) ?_
  refine lv_iadd hx hb dL_law_1254 ?_
  refine va_sld hx hb hX hbl hbA hS (lw_vin hi0 hi1 hL0 (by decide)) dL_law_1255 ?_
  refine lz_top (y := x2) hx2 ?_
  refine lq_TX (As := [.int x1, .int x2]) (rest := []) ⟨hx, hb, hml, hown, hts⟩ (k_X11_held l D cI cS a na nc N (mkL (cx 0) (cx 1) (cx 2) (cx 3) (cx 4) (cx 5) (cx 6) (cx 7) (cx 8) (cx 9) (cx 10) (cx 11) (cx 12) (cx 13) (cx 14)) u hTX hN x1 x2 ) hKK (hAB0.at hA0 hS) hP (cwV 2 hts gL_law_X11_held rfl rfl rfl (by decide +kernel) ⟨Nat.le_of_ble_eq_true rfl, Nat.le_of_ble_eq_true rfl⟩) rfl hl.1 rfl (Nat.le_of_ble_eq_true rfl) dL_law_1256 (CSL.hf hcs) (fun r52300 hr52300 => ?_)
  refine lv_pop hx hb dL_law_1259 rfl ?_
  refine lv_aload_n hx hb dL_law_1260 rfl (lv_at hl 1 rfl) ?_
  refine lv_aload_n hx hb dL_law_1261 rfl (lv_at hl 3 rfl) ?_
  refine lv_iload_n hx hb dL_law_1262 rfl (lv_at hl 0 rfl) ?_
  refine lv_iconst (v := 1) hx hb dL_law_1263 (by decide) ?_
  refine lv_iadd hx hb dL_law_1264 ?_
  refine va_sld hx hb hX hbl hbA hS (lw_vin hi0 hi1 hL0 (by decide)) dL_law_1265 ?_
  refine lz_top (y := x1) hx1 ?_
  refine lv_aload_n hx hb dL_law_1266 rfl (lv_at hl 3 rfl) ?_
  refine lv_iload_n hx hb dL_law_1267 rfl (lv_at hl 0 rfl) ?_
  refine lv_iconst (v := 2) hx hb dL_law_1268 (by decide) ?_
  refine lv_iadd hx hb dL_law_1269 ?_
  refine va_sld hx hb hX hbl hbA hS (lw_vin hi0 hi1 hL0 (by decide)) dL_law_1270 ?_
  refine lz_top (y := x2) hx2 ?_
  refine lq_SM (As := [.int x1, .int x2]) (rest := []) ⟨hx, hb, hml, hown, hts⟩ (w_X12_held l D cI cS b (mkM (my 0) (my 1) (my 2) (my 3) (my 4) (my 5) (my 6) (R 0) (R 1) (R 2)) v hTM hV x1 x2 ) hKK hP (cwV 2 hts gL_law_X12_held rfl rfl rfl (by decide +kernel) ⟨Nat.le_of_ble_eq_true rfl, Nat.le_of_ble_eq_true rfl⟩) rfl hl.1 rfl (Nat.le_of_ble_eq_true rfl) dL_law_1271 (CSL.hf hcs) (fun r52301 hr52301 => ?_)
  refine lv_pop hx hb dL_law_1274 rfl ?_
  refine lv_goto (tgt := 1486) hx hb dL_law_1275 (by decide) ?_
  exact tail na nc N  cx my R u v _ _ _ _ _ ⟨hcs, ⟨hTX, hTM, hV, hR⟩, hP, hD, hS, hl⟩
set_option maxHeartbeats 4000000 in
set_option maxRecDepth 100000 in
theorem lc_38 {p : Program} {l : Launch} {e : Env} {s : State} {m : MethodId} {below : List Frame} {meth : Method} {c : Code} {b0 L0 : Nat} {xs : Nat → Int32} {D : va_G} {cI cS : ClassId} {A : Nat → Prop} {H : Heap} {locs : List Loc} {ls : Array Slot} {Q : State → Prop} {a b : Nat → Nat} {na nc N cells slots : Nat} {cx my : Nat → Int32} {R u v : SU} {i : Int32} (hx : p.tables.exec = Jvm.exec) (hb : c.code = cL_law) (hml : c.maxLocals = 4) (hown : s.vm.findClass RL = some m.cls) (hts : ∀ w ∈ wsL_law, w.before #[Value.ref b0] s = true) (hKK : KK D cI cS s) (hAB0 : AB s s.heap) (hA0 : ∀ q : Nat, q < s.heap.size → ¬ A q) (hX : va_X b0 L0 xs s s.heap) (hbl : b0 < s.heap.size) (hbA : ¬ A b0) (hA : ∀ q : Nat, s.heap.size ≤ q → A q) (hL0 : L0 ≤ 3072) (hi0 : 0 ≤ i.toInt) (hi1 : i.toInt + 6 ≤ (L0 : Int)) (hst : ST D cI cS A s a b b0 i na nc N cx my R u v H locs ls cells slots) (tail : ∀ (na nc N : Nat) (cx my : Nat → Int32) (R u v : SU) (H : Heap) (locs : List Loc) (ls : Array Slot) (cells slots : Nat), ST D cI cS A s a b b0 i na nc N cx my R u v H locs ls cells slots → W p l e room_1 s m #[Value.ref b0] below meth c H locs cells slots Q (F0 m 1486 ls [])) : W p l e room_1 s m #[Value.ref b0] below meth c H locs cells slots Q (F0 m 1278 ls []) := by
  obtain ⟨hcs, ⟨hTX, hTM, hV, hR⟩, hP, hD, hS, hl⟩ := hst
  have hN := hcs.hN
  have hK := hKK.1
  have hR : (cx 0).toInt = (my 0).toInt ∧ (cx 5).toInt = (my 1).toInt ∧ (cx 4).toInt = ((R 2) 1).toInt ∧ (cx 6).toInt = (my 2).toInt ∧ (cx 3).toInt = (my 3).toInt ∧ (cx 2).toInt = ((R 2) 0).toInt ∧ (cx 7).toInt = ((R 0) 0).toInt ∧ (cx 8).toInt = ((R 0) 1).toInt ∧ (cx 9).toInt = ((R 0) 2).toInt ∧ (cx 10).toInt = ((R 0) 3).toInt ∧ (cx 11).toInt = ((R 1) 0).toInt ∧ (cx 12).toInt = ((R 1) 1).toInt ∧ (cx 13).toInt = ((R 1) 2).toInt ∧ (cx 14).toInt = ((R 1) 3).toInt := hR
  obtain ⟨x1, hx1⟩ : ∃ z, xs (i + 1).toNatClampNeg = z := ⟨_, rfl⟩
  obtain ⟨x2, hx2⟩ : ∃ z, xs (i + 2).toNatClampNeg = z := ⟨_, rfl⟩
  obtain ⟨x3, hx3⟩ : ∃ z, xs (i + 3).toNatClampNeg = z := ⟨_, rfl⟩
  obtain ⟨x4, hx4⟩ : ∃ z, xs (i + 4).toNatClampNeg = z := ⟨_, rfl⟩
  obtain ⟨x5, hx5⟩ : ∃ z, xs (i + 5).toNatClampNeg = z := ⟨_, rfl⟩
  refine lv_aload_n hx hb dL_law_1278 rfl (lv_at hl 2 rfl) ?_
  refine lv_aload_n hx hb dL_law_1279 rfl (lv_at hl 3 rfl) ?_
  refine lv_iload_n hx hb dL_law_1280 rfl (lv_at hl 0 rfl) ?_
  refine lv_iconst (v := 1) hx hb dL_law_1281 (by decide) ?_
  refine lv_iadd hx hb dL_law_1282 ?_
  refine va_sld hx hb hX hbl hbA hS (lw_vin hi0 hi1 hL0 (by decide)) dL_law_1283 ?_
  refine lz_top (y := x1) hx1 ?_
  refine lv_aload_n hx hb dL_law_1284 rfl (lv_at hl 3 rfl) ?_
  refine lv_iload_n hx hb dL_law_1285 rfl (lv_at hl 0 rfl) ?_
  refine lv_iconst (v := 2) hx hb dL_law_1286 (by decide) ?_
  refine lv_iadd hx hb dL_law_1287 ?_
  refine va_sld hx hb hX hbl hbA hS (lw_vin hi0 hi1 hL0 (by decide)) dL_law_1288 ?_
  refine lz_top (y := x2) hx2 ?_
  refine lv_aload_n hx hb dL_law_1289 rfl (lv_at hl 3 rfl) ?_
  refine lv_iload_n hx hb dL_law_1290 rfl (lv_at hl 0 rfl) ?_
  refine lv_iconst (v := 3) hx hb dL_law_1291 (by decide) ?_
  refine lv_iadd hx hb dL_law_1292 ?_
  refine va_sld hx hb hX hbl hbA hS (lw_vin hi0 hi1 hL0 (by decide)) dL_law_1293 ?_
  refine lz_top (y := x3) hx3 ?_
  refine lq_X (S := Int32 × Int32 × Int32 × Int32 × Int32 × Int32 × Int32 × Int32 × SU) (fna := fun _ => na) (fnc := fun _ => nc) (fN := fun _ => N) (fL := fun q => mkL (cx 0) (cx 1) (cx 2) (cx 3) (cx 4) (cx 5) (cx 6) q.1 q.2.1 q.2.2.1 q.2.2.2.1 q.2.2.2.2.1 q.2.2.2.2.2.1 q.2.2.2.2.2.2.1 q.2.2.2.2.2.2.2.1) (fu := fun q => q.2.2.2.2.2.2.2.2) (As := [.int x1, .int x2, .int x3]) (rest := []) ⟨hx, hb, hml, hown, hts⟩ (k_X11_sheet l D cI cS _ a na nc N (cx 0) (cx 1) (cx 2) (cx 3) (cx 4) (cx 5) (cx 6) (cx 7) (cx 8) (cx 9) (cx 10) (cx 11) (cx 12) (cx 13) (cx 14) u hTX hN x1 x2 x3 ) hKK hP hD hS hA (cwV 3 hts gL_law_X11_sheet rfl rfl rfl (by decide +kernel) ⟨Nat.le_of_ble_eq_true rfl, Nat.le_of_ble_eq_true rfl⟩) rfl hl.1 rfl (Nat.le_of_ble_eq_true rfl) dL_law_1294 (CSL.hf hcs) (fun r52302 q9 H locs hr52302 hP hD hS => ?_)
  obtain ⟨r52303, r52304, r52305, r52306, r52307, r52308, r52309, r52310, u⟩ := q9
  have hr52302 : Rg (-14) 1 r52302 ∧ Rg 0 40 r52307 ∧ Rg 0 40 r52308 ∧ Rg 0 40 r52309 ∧ Rg 0 40 r52310 ∧ (((x1.toInt < 0 ∨ 3 < x1.toInt ∨ x2.toInt < -1 ∨ 1 < x2.toInt ∨ (¬ x2.toInt = -1 ∧ 40 < x3.toInt)) → r52302.toInt = -2) ∧ (¬ (x1.toInt < 0 ∨ 3 < x1.toInt ∨ x2.toInt < -1 ∨ 1 < x2.toInt ∨ (¬ x2.toInt = -1 ∧ 40 < x3.toInt)) → ¬ x2.toInt = -1 → x3.toInt < 0 → r52302.toInt = -14) ∧ (¬ (x1.toInt < 0 ∨ 3 < x1.toInt ∨ x2.toInt < -1 ∨ 1 < x2.toInt ∨ (¬ x2.toInt = -1 ∧ 40 < x3.toInt)) → (x2.toInt = -1 ∨ 0 ≤ x3.toInt) → r52302.toInt = 1)) ∧ ((r52302.toInt = 1 → x1.toInt = 0 → r52303.toInt = x2.toInt ∧ (x2.toInt = -1 → r52307.toInt = 0) ∧ (¬ x2.toInt = -1 → r52307.toInt = x3.toInt)) ∧ ((¬ r52302.toInt = 1 ∨ ¬ x1.toInt = 0) → r52303.toInt = (cx 7).toInt ∧ r52307.toInt = (cx 11).toInt)) ∧ ((r52302.toInt = 1 → x1.toInt = 1 → r52304.toInt = x2.toInt ∧ (x2.toInt = -1 → r52308.toInt = 0) ∧ (¬ x2.toInt = -1 → r52308.toInt = x3.toInt)) ∧ ((¬ r52302.toInt = 1 ∨ ¬ x1.toInt = 1) → r52304.toInt = (cx 8).toInt ∧ r52308.toInt = (cx 12).toInt)) ∧ ((r52302.toInt = 1 → x1.toInt = 2 → r52305.toInt = x2.toInt ∧ (x2.toInt = -1 → r52309.toInt = 0) ∧ (¬ x2.toInt = -1 → r52309.toInt = x3.toInt)) ∧ ((¬ r52302.toInt = 1 ∨ ¬ x1.toInt = 2) → r52305.toInt = (cx 9).toInt ∧ r52309.toInt = (cx 13).toInt)) ∧ ((r52302.toInt = 1 → x1.toInt = 3 → r52306.toInt = x2.toInt ∧ (x2.toInt = -1 → r52310.toInt = 0) ∧ (¬ x2.toInt = -1 → r52310.toInt = x3.toInt)) ∧ ((¬ r52302.toInt = 1 ∨ ¬ x1.toInt = 3) → r52306.toInt = (cx 10).toInt ∧ r52310.toInt = (cx 14).toInt)) := hr52302
  have hTX : TyX (mkL (cx 0) (cx 1) (cx 2) (cx 3) (cx 4) (cx 5) (cx 6) r52303 r52304 r52305 r52306 r52307 r52308 r52309 r52310) := ⟨hTX.1, hTX.2.1, hTX.2.2.1, hTX.2.2.2.1, (rg_w hr52302.2.1 (by decide) (by decide)), (rg_w hr52302.2.2.1 (by decide) (by decide)), (rg_w hr52302.2.2.2.1 (by decide) (by decide)), (rg_w hr52302.2.2.2.2.1 (by decide) (by decide))⟩
  refine lv_pop hx hb dL_law_1297 rfl ?_
  refine lv_aload_n hx hb dL_law_1298 rfl (lv_at hl 1 rfl) ?_
  refine lv_aload_n hx hb dL_law_1299 rfl (lv_at hl 3 rfl) ?_
  refine lv_iload_n hx hb dL_law_1300 rfl (lv_at hl 0 rfl) ?_
  refine lv_iconst (v := 1) hx hb dL_law_1301 (by decide) ?_
  refine lv_iadd hx hb dL_law_1302 ?_
  refine va_sld hx hb hX hbl hbA hS (lw_vin hi0 hi1 hL0 (by decide)) dL_law_1303 ?_
  refine lz_top (y := x1) hx1 ?_
  refine lv_aload_n hx hb dL_law_1304 rfl (lv_at hl 3 rfl) ?_
  refine lv_iload_n hx hb dL_law_1305 rfl (lv_at hl 0 rfl) ?_
  refine lv_iconst (v := 2) hx hb dL_law_1306 (by decide) ?_
  refine lv_iadd hx hb dL_law_1307 ?_
  refine va_sld hx hb hX hbl hbA hS (lw_vin hi0 hi1 hL0 (by decide)) dL_law_1308 ?_
  refine lz_top (y := x2) hx2 ?_
  refine lv_aload_n hx hb dL_law_1309 rfl (lv_at hl 3 rfl) ?_
  refine lv_iload_n hx hb dL_law_1310 rfl (lv_at hl 0 rfl) ?_
  refine lv_iconst (v := 3) hx hb dL_law_1311 (by decide) ?_
  refine lv_iadd hx hb dL_law_1312 ?_
  refine va_sld hx hb hX hbl hbA hS (lw_vin hi0 hi1 hL0 (by decide)) dL_law_1313 ?_
  refine lz_top (y := x3) hx3 ?_
  refine lq_M (S := (Nat → Int32) × (Nat → Int32) × SU) (fL := fun q => mkM (my 0) (my 1) (my 2) (my 3) (my 4) (my 5) (my 6) q.1 q.2.1 (R 2)) (fu := fun q => q.2.2) (As := [.int x1, .int x2, .int x3]) (rest := []) ⟨hx, hb, hml, hown, hts⟩ (w_X12_sheet l D cI cS _ b (my 0) (my 1) (my 2) (my 3) (my 4) (my 5) (my 6) (R 0) (R 1) (R 2) v hTM hV x1 x2 x3 ) hKK hP hD hS hA (cwV 3 hts gL_law_X12_sheet rfl rfl rfl (by decide +kernel) ⟨Nat.le_of_ble_eq_true rfl, Nat.le_of_ble_eq_true rfl⟩) rfl hl.1 rfl (Nat.le_of_ble_eq_true rfl) dL_law_1314 (CSL.hf hcs) (fun r52311 q9 H locs hr52311 hP hD hS => ?_)
  obtain ⟨f52312, f52313, v⟩ := q9
  have hr52311 : TyV v ∧ Rg (-14) 1 r52311 ∧ Ar (-1) 1 f52312 ∧ Ar 0 40 f52313 ∧ (((x1.toInt < 0 ∨ 3 < x1.toInt ∨ x2.toInt < -1 ∨ 1 < x2.toInt ∨ (¬ x2.toInt = -1 ∧ 40 < x3.toInt)) → r52311.toInt = -2) ∧ (¬ (x1.toInt < 0 ∨ 3 < x1.toInt ∨ x2.toInt < -1 ∨ 1 < x2.toInt ∨ (¬ x2.toInt = -1 ∧ 40 < x3.toInt)) → ¬ x2.toInt = -1 → x3.toInt < 0 → r52311.toInt = -14) ∧ (¬ (x1.toInt < 0 ∨ 3 < x1.toInt ∨ x2.toInt < -1 ∨ 1 < x2.toInt ∨ (¬ x2.toInt = -1 ∧ 40 < x3.toInt)) → (x2.toInt = -1 ∨ 0 ≤ x3.toInt) → r52311.toInt = 1)) ∧ ((¬ r52311.toInt = 1 → f52312 = (R 0) ∧ f52313 = (R 1)) ∧ (r52311.toInt = 1 → f52312 = upd (R 0) x1.toNatClampNeg x2 ∧ f52313 = upd (R 1) x1.toNatClampNeg (if x2 = -1 then 0 else x3))) := hr52311
  have hV := hr52311.1
  have hTM : TyL (mkM (my 0) (my 1) (my 2) (my 3) (my 4) (my 5) (my 6) f52312 f52313 (R 2)) := ⟨hTM.1, hTM.2.1, hr52311.2.2.1, hr52311.2.2.2.1, hTM.2.2.2.2.1, hTM.2.2.2.2.2⟩
  refine lv_pop hx hb dL_law_1317 rfl ?_
  refine lv_goto (tgt := 1486) hx hb dL_law_1318 (by decide) ?_
  have hj0 := sh_rel (k := 0) (by decide) hr52302.2.2.2.2.2.1 hr52311.2.2.2.2.1 hr52302.2.2.2.2.2.2.1 hr52311.2.2.2.2.2 (show (cx 7).toInt = ((R 0) 0).toInt from by have zr := hR; omega) (show (cx 11).toInt = ((R 1) 0).toInt from by have zr := hR; omega)
  have hj1 := sh_rel (k := 1) (by decide) hr52302.2.2.2.2.2.1 hr52311.2.2.2.2.1 hr52302.2.2.2.2.2.2.2.1 hr52311.2.2.2.2.2 (show (cx 8).toInt = ((R 0) 1).toInt from by have zr := hR; omega) (show (cx 12).toInt = ((R 1) 1).toInt from by have zr := hR; omega)
  have hj2 := sh_rel (k := 2) (by decide) hr52302.2.2.2.2.2.1 hr52311.2.2.2.2.1 hr52302.2.2.2.2.2.2.2.2.1 hr52311.2.2.2.2.2 (show (cx 9).toInt = ((R 0) 2).toInt from by have zr := hR; omega) (show (cx 13).toInt = ((R 1) 2).toInt from by have zr := hR; omega)
  have hj3 := sh_rel (k := 3) (by decide) hr52302.2.2.2.2.2.1 hr52311.2.2.2.2.1 hr52302.2.2.2.2.2.2.2.2.2 hr52311.2.2.2.2.2 (show (cx 10).toInt = ((R 0) 3).toInt from by have zr := hR; omega) (show (cx 14).toInt = ((R 1) 3).toInt from by have zr := hR; omega)
  have hR2 : (cx 0).toInt = (my 0).toInt ∧ (cx 5).toInt = (my 1).toInt ∧ (cx 4).toInt = ((R 2) 1).toInt ∧ (cx 6).toInt = (my 2).toInt ∧ (cx 3).toInt = (my 3).toInt ∧ (cx 2).toInt = ((R 2) 0).toInt ∧ r52303.toInt = (f52312 0).toInt ∧ r52304.toInt = (f52312 1).toInt ∧ r52305.toInt = (f52312 2).toInt ∧ r52306.toInt = (f52312 3).toInt ∧ r52307.toInt = (f52313 0).toInt ∧ r52308.toInt = (f52313 1).toInt ∧ r52309.toInt = (f52313 2).toInt ∧ r52310.toInt = (f52313 3).toInt := ⟨(by have zr := hR; omega), (by have zr := hR; omega), (by have zr := hR; omega), (by have zr := hR; omega), (by have zr := hR; omega), (by have zr := hR; omega), hj0.1, hj1.1, hj2.1, hj3.1, hj0.2, hj1.2, hj2.2, hj3.2⟩
  exact tail na nc N  (upd (upd (upd (upd (upd (upd (upd (upd cx 7 r52303) 8 r52304) 9 r52305) 10 r52306) 11 r52307) 12 r52308) 13 r52309) 14 r52310) my (sU (sU R 0 f52312) 1 f52313) u v _ _ _ _ _ ⟨hcs, ⟨hTX, hTM, hV, hR2⟩, hP, hD, hS, hl⟩
set_option maxHeartbeats 4000000 in
set_option maxRecDepth 100000 in
theorem lc_39 {p : Program} {l : Launch} {e : Env} {s : State} {m : MethodId} {below : List Frame} {meth : Method} {c : Code} {b0 L0 : Nat} {xs : Nat → Int32} {D : va_G} {cI cS : ClassId} {A : Nat → Prop} {H : Heap} {locs : List Loc} {ls : Array Slot} {Q : State → Prop} {a b : Nat → Nat} {na nc N cells slots : Nat} {cx my : Nat → Int32} {R u v : SU} {i : Int32} (hx : p.tables.exec = Jvm.exec) (hb : c.code = cL_law) (hml : c.maxLocals = 4) (hown : s.vm.findClass RL = some m.cls) (hts : ∀ w ∈ wsL_law, w.before #[Value.ref b0] s = true) (hKK : KK D cI cS s) (hAB0 : AB s s.heap) (hA0 : ∀ q : Nat, q < s.heap.size → ¬ A q) (hX : va_X b0 L0 xs s s.heap) (hbl : b0 < s.heap.size) (hbA : ¬ A b0) (hA : ∀ q : Nat, s.heap.size ≤ q → A q) (hL0 : L0 ≤ 3072) (hi0 : 0 ≤ i.toInt) (hi1 : i.toInt + 6 ≤ (L0 : Int)) (hst : ST D cI cS A s a b b0 i na nc N cx my R u v H locs ls cells slots) (tail : ∀ (na nc N : Nat) (cx my : Nat → Int32) (R u v : SU) (H : Heap) (locs : List Loc) (ls : Array Slot) (cells slots : Nat), ST D cI cS A s a b b0 i na nc N cx my R u v H locs ls cells slots → W p l e room_1 s m #[Value.ref b0] below meth c H locs cells slots Q (F0 m 1486 ls [])) : W p l e room_1 s m #[Value.ref b0] below meth c H locs cells slots Q (F0 m 1321 ls []) := by
  obtain ⟨hcs, ⟨hTX, hTM, hV, hR⟩, hP, hD, hS, hl⟩ := hst
  have hN := hcs.hN
  have hK := hKK.1
  have hR : (cx 0).toInt = (my 0).toInt ∧ (cx 5).toInt = (my 1).toInt ∧ (cx 4).toInt = ((R 2) 1).toInt ∧ (cx 6).toInt = (my 2).toInt ∧ (cx 3).toInt = (my 3).toInt ∧ (cx 2).toInt = ((R 2) 0).toInt ∧ (cx 7).toInt = ((R 0) 0).toInt ∧ (cx 8).toInt = ((R 0) 1).toInt ∧ (cx 9).toInt = ((R 0) 2).toInt ∧ (cx 10).toInt = ((R 0) 3).toInt ∧ (cx 11).toInt = ((R 1) 0).toInt ∧ (cx 12).toInt = ((R 1) 1).toInt ∧ (cx 13).toInt = ((R 1) 2).toInt ∧ (cx 14).toInt = ((R 1) 3).toInt := hR
  obtain ⟨x1, hx1⟩ : ∃ z, xs (i + 1).toNatClampNeg = z := ⟨_, rfl⟩
  obtain ⟨x2, hx2⟩ : ∃ z, xs (i + 2).toNatClampNeg = z := ⟨_, rfl⟩
  obtain ⟨x3, hx3⟩ : ∃ z, xs (i + 3).toNatClampNeg = z := ⟨_, rfl⟩
  obtain ⟨x4, hx4⟩ : ∃ z, xs (i + 4).toNatClampNeg = z := ⟨_, rfl⟩
  obtain ⟨x5, hx5⟩ : ∃ z, xs (i + 5).toNatClampNeg = z := ⟨_, rfl⟩
  refine lv_aload_n hx hb dL_law_1321 rfl (lv_at hl 2 rfl) ?_
  refine lv_aload_n hx hb dL_law_1322 rfl (lv_at hl 3 rfl) ?_
  refine lv_iload_n hx hb dL_law_1323 rfl (lv_at hl 0 rfl) ?_
  refine lv_iconst (v := 1) hx hb dL_law_1324 (by decide) ?_
  refine lv_iadd hx hb dL_law_1325 ?_
  refine va_sld hx hb hX hbl hbA hS (lw_vin hi0 hi1 hL0 (by decide)) dL_law_1326 ?_
  refine lz_top (y := x1) hx1 ?_
  refine lv_aload_n hx hb dL_law_1327 rfl (lv_at hl 3 rfl) ?_
  refine lv_iload_n hx hb dL_law_1328 rfl (lv_at hl 0 rfl) ?_
  refine lv_iconst (v := 2) hx hb dL_law_1329 (by decide) ?_
  refine lv_iadd hx hb dL_law_1330 ?_
  refine va_sld hx hb hX hbl hbA hS (lw_vin hi0 hi1 hL0 (by decide)) dL_law_1331 ?_
  refine lz_top (y := x2) hx2 ?_
  refine lv_aload_n hx hb dL_law_1332 rfl (lv_at hl 3 rfl) ?_
  refine lv_iload_n hx hb dL_law_1333 rfl (lv_at hl 0 rfl) ?_
  refine lv_iconst (v := 3) hx hb dL_law_1334 (by decide) ?_
  refine lv_iadd hx hb dL_law_1335 ?_
  refine va_sld hx hb hX hbl hbA hS (lw_vin hi0 hi1 hL0 (by decide)) dL_law_1336 ?_
  refine lz_top (y := x3) hx3 ?_
  refine lq_X (S := SU) (fna := fun _ => na) (fnc := fun _ => nc) (fN := fun _ => N) (fL := fun _ => (mkL (cx 0) (cx 1) (cx 2) (cx 3) (cx 4) (cx 5) (cx 6) (cx 7) (cx 8) (cx 9) (cx 10) (cx 11) (cx 12) (cx 13) (cx 14))) (fu := fun q => q) (As := [.int x1, .int x2, .int x3]) (rest := []) ⟨hx, hb, hml, hown, hts⟩ (k_X11_write_E l D cI cS _ a na nc N (mkL (cx 0) (cx 1) (cx 2) (cx 3) (cx 4) (cx 5) (cx 6) (cx 7) (cx 8) (cx 9) (cx 10) (cx 11) (cx 12) (cx 13) (cx 14)) u hTX hN x1 x2 x3 ) hKK hP hD hS hA (cwV 3 hts gL_law_X11_write rfl rfl rfl (by decide +kernel) ⟨Nat.le_of_ble_eq_true rfl, Nat.le_of_ble_eq_true rfl⟩) rfl hl.1 rfl (Nat.le_of_ble_eq_true rfl) dL_law_1337 (CSL.hf hcs) (fun r52314 u H locs hr52314 hP hD hS => ?_)
  have wr52314 : ((x1.toInt < 0 ∨ 3 < x1.toInt → r52314.toInt = -2) ∧ (0 ≤ x1.toInt → x1.toInt ≤ 3 → ((mkL (cx 0) (cx 1) (cx 2) (cx 3) (cx 4) (cx 5) (cx 6) (cx 7) (cx 8) (cx 9) (cx 10) (cx 11) (cx 12) (cx 13) (cx 14)) (26 + 2 * x1.toNatClampNeg) 1).toInt = -1 → r52314.toInt = -11) ∧ (0 ≤ x1.toInt → x1.toInt ≤ 3 → ¬ ((mkL (cx 0) (cx 1) (cx 2) (cx 3) (cx 4) (cx 5) (cx 6) (cx 7) (cx 8) (cx 9) (cx 10) (cx 11) (cx 12) (cx 13) (cx 14)) (26 + 2 * x1.toNatClampNeg) 1).toInt = -1 → (x2.toInt < 0 ∨ ((mkL (cx 0) (cx 1) (cx 2) (cx 3) (cx 4) (cx 5) (cx 6) (cx 7) (cx 8) (cx 9) (cx 10) (cx 11) (cx 12) (cx 13) (cx 14)) (26 + 2 * x1.toNatClampNeg) 2).toInt ≤ x2.toInt) → r52314.toInt = -12) ∧ (0 ≤ x1.toInt → x1.toInt ≤ 3 → ¬ ((mkL (cx 0) (cx 1) (cx 2) (cx 3) (cx 4) (cx 5) (cx 6) (cx 7) (cx 8) (cx 9) (cx 10) (cx 11) (cx 12) (cx 13) (cx 14)) (26 + 2 * x1.toNatClampNeg) 1).toInt = -1 → 0 ≤ x2.toInt → x2.toInt < ((mkL (cx 0) (cx 1) (cx 2) (cx 3) (cx 4) (cx 5) (cx 6) (cx 7) (cx 8) (cx 9) (cx 10) (cx 11) (cx 12) (cx 13) (cx 14)) (26 + 2 * x1.toNatClampNeg) 2).toInt → r52314.toInt = 1)) := hr52314.2
  have wr52314_x1_0 : x1.toInt = 0 → ((mkL (cx 0) (cx 1) (cx 2) (cx 3) (cx 4) (cx 5) (cx 6) (cx 7) (cx 8) (cx 9) (cx 10) (cx 11) (cx 12) (cx 13) (cx 14)) (26 + 2 * x1.toNatClampNeg) 1).toInt = (cx 7).toInt ∧ ((mkL (cx 0) (cx 1) (cx 2) (cx 3) (cx 4) (cx 5) (cx 6) (cx 7) (cx 8) (cx 9) (cx 10) (cx 11) (cx 12) (cx 13) (cx 14)) (26 + 2 * x1.toNatClampNeg) 2).toInt = (cx 11).toInt := fun h9 => by rw [show x1 = 0 from Int32.toInt_inj.mp h9]; exact ⟨rfl, rfl⟩
  have wr52314_x1_1 : x1.toInt = 1 → ((mkL (cx 0) (cx 1) (cx 2) (cx 3) (cx 4) (cx 5) (cx 6) (cx 7) (cx 8) (cx 9) (cx 10) (cx 11) (cx 12) (cx 13) (cx 14)) (26 + 2 * x1.toNatClampNeg) 1).toInt = (cx 8).toInt ∧ ((mkL (cx 0) (cx 1) (cx 2) (cx 3) (cx 4) (cx 5) (cx 6) (cx 7) (cx 8) (cx 9) (cx 10) (cx 11) (cx 12) (cx 13) (cx 14)) (26 + 2 * x1.toNatClampNeg) 2).toInt = (cx 12).toInt := fun h9 => by rw [show x1 = 1 from Int32.toInt_inj.mp h9]; exact ⟨rfl, rfl⟩
  have wr52314_x1_2 : x1.toInt = 2 → ((mkL (cx 0) (cx 1) (cx 2) (cx 3) (cx 4) (cx 5) (cx 6) (cx 7) (cx 8) (cx 9) (cx 10) (cx 11) (cx 12) (cx 13) (cx 14)) (26 + 2 * x1.toNatClampNeg) 1).toInt = (cx 9).toInt ∧ ((mkL (cx 0) (cx 1) (cx 2) (cx 3) (cx 4) (cx 5) (cx 6) (cx 7) (cx 8) (cx 9) (cx 10) (cx 11) (cx 12) (cx 13) (cx 14)) (26 + 2 * x1.toNatClampNeg) 2).toInt = (cx 13).toInt := fun h9 => by rw [show x1 = 2 from Int32.toInt_inj.mp h9]; exact ⟨rfl, rfl⟩
  have wr52314_x1_3 : x1.toInt = 3 → ((mkL (cx 0) (cx 1) (cx 2) (cx 3) (cx 4) (cx 5) (cx 6) (cx 7) (cx 8) (cx 9) (cx 10) (cx 11) (cx 12) (cx 13) (cx 14)) (26 + 2 * x1.toNatClampNeg) 1).toInt = (cx 10).toInt ∧ ((mkL (cx 0) (cx 1) (cx 2) (cx 3) (cx 4) (cx 5) (cx 6) (cx 7) (cx 8) (cx 9) (cx 10) (cx 11) (cx 12) (cx 13) (cx 14)) (26 + 2 * x1.toNatClampNeg) 2).toInt = (cx 14).toInt := fun h9 => by rw [show x1 = 3 from Int32.toInt_inj.mp h9]; exact ⟨rfl, rfl⟩
  refine lv_pop hx hb dL_law_1340 rfl ?_
  refine lv_aload_n hx hb dL_law_1341 rfl (lv_at hl 1 rfl) ?_
  refine lv_aload_n hx hb dL_law_1342 rfl (lv_at hl 3 rfl) ?_
  refine lv_iload_n hx hb dL_law_1343 rfl (lv_at hl 0 rfl) ?_
  refine lv_iconst (v := 1) hx hb dL_law_1344 (by decide) ?_
  refine lv_iadd hx hb dL_law_1345 ?_
  refine va_sld hx hb hX hbl hbA hS (lw_vin hi0 hi1 hL0 (by decide)) dL_law_1346 ?_
  refine lz_top (y := x1) hx1 ?_
  refine lv_aload_n hx hb dL_law_1347 rfl (lv_at hl 3 rfl) ?_
  refine lv_iload_n hx hb dL_law_1348 rfl (lv_at hl 0 rfl) ?_
  refine lv_iconst (v := 2) hx hb dL_law_1349 (by decide) ?_
  refine lv_iadd hx hb dL_law_1350 ?_
  refine va_sld hx hb hX hbl hbA hS (lw_vin hi0 hi1 hL0 (by decide)) dL_law_1351 ?_
  refine lz_top (y := x2) hx2 ?_
  refine lv_aload_n hx hb dL_law_1352 rfl (lv_at hl 3 rfl) ?_
  refine lv_iload_n hx hb dL_law_1353 rfl (lv_at hl 0 rfl) ?_
  refine lv_iconst (v := 3) hx hb dL_law_1354 (by decide) ?_
  refine lv_iadd hx hb dL_law_1355 ?_
  refine va_sld hx hb hX hbl hbA hS (lw_vin hi0 hi1 hL0 (by decide)) dL_law_1356 ?_
  refine lz_top (y := x3) hx3 ?_
  refine lq_M (S := SU) (fL := fun _ => (mkM (my 0) (my 1) (my 2) (my 3) (my 4) (my 5) (my 6) (R 0) (R 1) (R 2))) (fu := fun q => q) (As := [.int x1, .int x2, .int x3]) (rest := []) ⟨hx, hb, hml, hown, hts⟩ (w_X12_write l D cI cS _ b (mkM (my 0) (my 1) (my 2) (my 3) (my 4) (my 5) (my 6) (R 0) (R 1) (R 2)) v hTM hV x1 x2 x3 ) hKK hP hD hS hA (cwV 3 hts gL_law_X12_write rfl rfl rfl (by decide +kernel) ⟨Nat.le_of_ble_eq_true rfl, Nat.le_of_ble_eq_true rfl⟩) rfl hl.1 rfl (Nat.le_of_ble_eq_true rfl) dL_law_1357 (CSL.hf hcs) (fun r52315 v H locs hr52315 hP hD hS => ?_)
  have hV := hr52315.1
  have wr52315 : ((x1.toInt < 0 ∨ 3 < x1.toInt → r52315.toInt = -2) ∧ (0 ≤ x1.toInt → x1.toInt ≤ 3 → ((R 0) x1.toNatClampNeg).toInt = -1 → r52315.toInt = -11) ∧ (0 ≤ x1.toInt → x1.toInt ≤ 3 → ¬ ((R 0) x1.toNatClampNeg).toInt = -1 → (x2.toInt < 0 ∨ ((R 1) x1.toNatClampNeg).toInt ≤ x2.toInt) → r52315.toInt = -12) ∧ (0 ≤ x1.toInt → x1.toInt ≤ 3 → ¬ ((R 0) x1.toNatClampNeg).toInt = -1 → 0 ≤ x2.toInt → x2.toInt < ((R 1) x1.toNatClampNeg).toInt → r52315.toInt = 1)) := hr52315.2.2
  have wr52315_x1_0 : x1.toInt = 0 → ((R 0) x1.toNatClampNeg).toInt = ((R 0) 0).toInt ∧ ((R 1) x1.toNatClampNeg).toInt = ((R 1) 0).toInt := fun h9 => by rw [show x1 = 0 from Int32.toInt_inj.mp h9]; exact ⟨rfl, rfl⟩
  have wr52315_x1_1 : x1.toInt = 1 → ((R 0) x1.toNatClampNeg).toInt = ((R 0) 1).toInt ∧ ((R 1) x1.toNatClampNeg).toInt = ((R 1) 1).toInt := fun h9 => by rw [show x1 = 1 from Int32.toInt_inj.mp h9]; exact ⟨rfl, rfl⟩
  have wr52315_x1_2 : x1.toInt = 2 → ((R 0) x1.toNatClampNeg).toInt = ((R 0) 2).toInt ∧ ((R 1) x1.toNatClampNeg).toInt = ((R 1) 2).toInt := fun h9 => by rw [show x1 = 2 from Int32.toInt_inj.mp h9]; exact ⟨rfl, rfl⟩
  have wr52315_x1_3 : x1.toInt = 3 → ((R 0) x1.toNatClampNeg).toInt = ((R 0) 3).toInt ∧ ((R 1) x1.toNatClampNeg).toInt = ((R 1) 3).toInt := fun h9 => by rw [show x1 = 3 from Int32.toInt_inj.mp h9]; exact ⟨rfl, rfl⟩
  refine lv_pop hx hb dL_law_1360 rfl ?_
  refine lv_goto (tgt := 1486) hx hb dL_law_1361 (by decide) ?_
  exact tail na nc N  cx my R u v _ _ _ _ _ ⟨hcs, ⟨hTX, hTM, hV, hR⟩, hP, hD, hS, hl⟩
set_option maxHeartbeats 4000000 in
set_option maxRecDepth 100000 in
theorem lc_40 {p : Program} {l : Launch} {e : Env} {s : State} {m : MethodId} {below : List Frame} {meth : Method} {c : Code} {b0 L0 : Nat} {xs : Nat → Int32} {D : va_G} {cI cS : ClassId} {A : Nat → Prop} {H : Heap} {locs : List Loc} {ls : Array Slot} {Q : State → Prop} {a b : Nat → Nat} {na nc N cells slots : Nat} {cx my : Nat → Int32} {R u v : SU} {i : Int32} (hx : p.tables.exec = Jvm.exec) (hb : c.code = cL_law) (hml : c.maxLocals = 4) (hown : s.vm.findClass RL = some m.cls) (hts : ∀ w ∈ wsL_law, w.before #[Value.ref b0] s = true) (hKK : KK D cI cS s) (hAB0 : AB s s.heap) (hA0 : ∀ q : Nat, q < s.heap.size → ¬ A q) (hX : va_X b0 L0 xs s s.heap) (hbl : b0 < s.heap.size) (hbA : ¬ A b0) (hA : ∀ q : Nat, s.heap.size ≤ q → A q) (hL0 : L0 ≤ 3072) (hi0 : 0 ≤ i.toInt) (hi1 : i.toInt + 6 ≤ (L0 : Int)) (hst : ST D cI cS A s a b b0 i na nc N cx my R u v H locs ls cells slots) (tail : ∀ (na nc N : Nat) (cx my : Nat → Int32) (R u v : SU) (H : Heap) (locs : List Loc) (ls : Array Slot) (cells slots : Nat), ST D cI cS A s a b b0 i na nc N cx my R u v H locs ls cells slots → W p l e room_1 s m #[Value.ref b0] below meth c H locs cells slots Q (F0 m 1486 ls [])) : W p l e room_1 s m #[Value.ref b0] below meth c H locs cells slots Q (F0 m 1364 ls []) := by
  obtain ⟨hcs, ⟨hTX, hTM, hV, hR⟩, hP, hD, hS, hl⟩ := hst
  have hN := hcs.hN
  have hK := hKK.1
  have hR : (cx 0).toInt = (my 0).toInt ∧ (cx 5).toInt = (my 1).toInt ∧ (cx 4).toInt = ((R 2) 1).toInt ∧ (cx 6).toInt = (my 2).toInt ∧ (cx 3).toInt = (my 3).toInt ∧ (cx 2).toInt = ((R 2) 0).toInt ∧ (cx 7).toInt = ((R 0) 0).toInt ∧ (cx 8).toInt = ((R 0) 1).toInt ∧ (cx 9).toInt = ((R 0) 2).toInt ∧ (cx 10).toInt = ((R 0) 3).toInt ∧ (cx 11).toInt = ((R 1) 0).toInt ∧ (cx 12).toInt = ((R 1) 1).toInt ∧ (cx 13).toInt = ((R 1) 2).toInt ∧ (cx 14).toInt = ((R 1) 3).toInt := hR
  obtain ⟨x1, hx1⟩ : ∃ z, xs (i + 1).toNatClampNeg = z := ⟨_, rfl⟩
  obtain ⟨x2, hx2⟩ : ∃ z, xs (i + 2).toNatClampNeg = z := ⟨_, rfl⟩
  obtain ⟨x3, hx3⟩ : ∃ z, xs (i + 3).toNatClampNeg = z := ⟨_, rfl⟩
  obtain ⟨x4, hx4⟩ : ∃ z, xs (i + 4).toNatClampNeg = z := ⟨_, rfl⟩
  obtain ⟨x5, hx5⟩ : ∃ z, xs (i + 5).toNatClampNeg = z := ⟨_, rfl⟩
  refine lv_aload_n hx hb dL_law_1364 rfl (lv_at hl 2 rfl) ?_
  refine lv_aload_n hx hb dL_law_1365 rfl (lv_at hl 3 rfl) ?_
  refine lv_iload_n hx hb dL_law_1366 rfl (lv_at hl 0 rfl) ?_
  refine lv_iconst (v := 1) hx hb dL_law_1367 (by decide) ?_
  refine lv_iadd hx hb dL_law_1368 ?_
  refine va_sld hx hb hX hbl hbA hS (lw_vin hi0 hi1 hL0 (by decide)) dL_law_1369 ?_
  refine lz_top (y := x1) hx1 ?_
  refine lv_aload_n hx hb dL_law_1370 rfl (lv_at hl 3 rfl) ?_
  refine lv_iload_n hx hb dL_law_1371 rfl (lv_at hl 0 rfl) ?_
  refine lv_iconst (v := 2) hx hb dL_law_1372 (by decide) ?_
  refine lv_iadd hx hb dL_law_1373 ?_
  refine va_sld hx hb hX hbl hbA hS (lw_vin hi0 hi1 hL0 (by decide)) dL_law_1374 ?_
  refine lz_top (y := x2) hx2 ?_
  refine lq_SX (As := [.int x1, .int x2]) (rest := []) ⟨hx, hb, hml, hown, hts⟩ (k_X11_item l D cI cS a na nc N (mkL (cx 0) (cx 1) (cx 2) (cx 3) (cx 4) (cx 5) (cx 6) (cx 7) (cx 8) (cx 9) (cx 10) (cx 11) (cx 12) (cx 13) (cx 14)) u hTX hN x1 x2 ) hKK hP (cwV 2 hts gL_law_X11_item rfl rfl rfl (by decide +kernel) ⟨Nat.le_of_ble_eq_true rfl, Nat.le_of_ble_eq_true rfl⟩) rfl hl.1 rfl (Nat.le_of_ble_eq_true rfl) dL_law_1375 (CSL.hf hcs) (fun r52316 hr52316 => ?_)
  refine lv_pop hx hb dL_law_1378 rfl ?_
  refine lv_aload_n hx hb dL_law_1379 rfl (lv_at hl 1 rfl) ?_
  refine lv_aload_n hx hb dL_law_1380 rfl (lv_at hl 3 rfl) ?_
  refine lv_iload_n hx hb dL_law_1381 rfl (lv_at hl 0 rfl) ?_
  refine lv_iconst (v := 1) hx hb dL_law_1382 (by decide) ?_
  refine lv_iadd hx hb dL_law_1383 ?_
  refine va_sld hx hb hX hbl hbA hS (lw_vin hi0 hi1 hL0 (by decide)) dL_law_1384 ?_
  refine lz_top (y := x1) hx1 ?_
  refine lv_aload_n hx hb dL_law_1385 rfl (lv_at hl 3 rfl) ?_
  refine lv_iload_n hx hb dL_law_1386 rfl (lv_at hl 0 rfl) ?_
  refine lv_iconst (v := 2) hx hb dL_law_1387 (by decide) ?_
  refine lv_iadd hx hb dL_law_1388 ?_
  refine va_sld hx hb hX hbl hbA hS (lw_vin hi0 hi1 hL0 (by decide)) dL_law_1389 ?_
  refine lz_top (y := x2) hx2 ?_
  refine lq_SM (As := [.int x1, .int x2]) (rest := []) ⟨hx, hb, hml, hown, hts⟩ (w_X12_item l D cI cS b (mkM (my 0) (my 1) (my 2) (my 3) (my 4) (my 5) (my 6) (R 0) (R 1) (R 2)) v hTM hV x1 x2 ) hKK hP (cwV 2 hts gL_law_X12_item rfl rfl rfl (by decide +kernel) ⟨Nat.le_of_ble_eq_true rfl, Nat.le_of_ble_eq_true rfl⟩) rfl hl.1 rfl (Nat.le_of_ble_eq_true rfl) dL_law_1390 (CSL.hf hcs) (fun r52317 hr52317 => ?_)
  refine lv_pop hx hb dL_law_1393 rfl ?_
  refine lv_goto (tgt := 1486) hx hb dL_law_1394 (by decide) ?_
  exact tail na nc N  cx my R u v _ _ _ _ _ ⟨hcs, ⟨hTX, hTM, hV, hR⟩, hP, hD, hS, hl⟩
set_option maxHeartbeats 4000000 in
set_option maxRecDepth 100000 in
theorem lc_41 {p : Program} {l : Launch} {e : Env} {s : State} {m : MethodId} {below : List Frame} {meth : Method} {c : Code} {b0 L0 : Nat} {xs : Nat → Int32} {D : va_G} {cI cS : ClassId} {A : Nat → Prop} {H : Heap} {locs : List Loc} {ls : Array Slot} {Q : State → Prop} {a b : Nat → Nat} {na nc N cells slots : Nat} {cx my : Nat → Int32} {R u v : SU} {i : Int32} (hx : p.tables.exec = Jvm.exec) (hb : c.code = cL_law) (hml : c.maxLocals = 4) (hown : s.vm.findClass RL = some m.cls) (hts : ∀ w ∈ wsL_law, w.before #[Value.ref b0] s = true) (hKK : KK D cI cS s) (hAB0 : AB s s.heap) (hA0 : ∀ q : Nat, q < s.heap.size → ¬ A q) (hX : va_X b0 L0 xs s s.heap) (hbl : b0 < s.heap.size) (hbA : ¬ A b0) (hA : ∀ q : Nat, s.heap.size ≤ q → A q) (hL0 : L0 ≤ 3072) (hi0 : 0 ≤ i.toInt) (hi1 : i.toInt + 6 ≤ (L0 : Int)) (hst : ST D cI cS A s a b b0 i na nc N cx my R u v H locs ls cells slots) (tail : ∀ (na nc N : Nat) (cx my : Nat → Int32) (R u v : SU) (H : Heap) (locs : List Loc) (ls : Array Slot) (cells slots : Nat), ST D cI cS A s a b b0 i na nc N cx my R u v H locs ls cells slots → W p l e room_1 s m #[Value.ref b0] below meth c H locs cells slots Q (F0 m 1486 ls [])) : W p l e room_1 s m #[Value.ref b0] below meth c H locs cells slots Q (F0 m 1397 ls []) := by
  obtain ⟨hcs, ⟨hTX, hTM, hV, hR⟩, hP, hD, hS, hl⟩ := hst
  have hN := hcs.hN
  have hK := hKK.1
  have hR : (cx 0).toInt = (my 0).toInt ∧ (cx 5).toInt = (my 1).toInt ∧ (cx 4).toInt = ((R 2) 1).toInt ∧ (cx 6).toInt = (my 2).toInt ∧ (cx 3).toInt = (my 3).toInt ∧ (cx 2).toInt = ((R 2) 0).toInt ∧ (cx 7).toInt = ((R 0) 0).toInt ∧ (cx 8).toInt = ((R 0) 1).toInt ∧ (cx 9).toInt = ((R 0) 2).toInt ∧ (cx 10).toInt = ((R 0) 3).toInt ∧ (cx 11).toInt = ((R 1) 0).toInt ∧ (cx 12).toInt = ((R 1) 1).toInt ∧ (cx 13).toInt = ((R 1) 2).toInt ∧ (cx 14).toInt = ((R 1) 3).toInt := hR
  obtain ⟨x1, hx1⟩ : ∃ z, xs (i + 1).toNatClampNeg = z := ⟨_, rfl⟩
  obtain ⟨x2, hx2⟩ : ∃ z, xs (i + 2).toNatClampNeg = z := ⟨_, rfl⟩
  obtain ⟨x3, hx3⟩ : ∃ z, xs (i + 3).toNatClampNeg = z := ⟨_, rfl⟩
  obtain ⟨x4, hx4⟩ : ∃ z, xs (i + 4).toNatClampNeg = z := ⟨_, rfl⟩
  obtain ⟨x5, hx5⟩ : ∃ z, xs (i + 5).toNatClampNeg = z := ⟨_, rfl⟩
  refine lv_aload_n hx hb dL_law_1397 rfl (lv_at hl 2 rfl) ?_
  refine lv_aload_n hx hb dL_law_1398 rfl (lv_at hl 3 rfl) ?_
  refine lv_iload_n hx hb dL_law_1399 rfl (lv_at hl 0 rfl) ?_
  refine lv_iconst (v := 1) hx hb dL_law_1400 (by decide) ?_
  refine lv_iadd hx hb dL_law_1401 ?_
  refine va_sld hx hb hX hbl hbA hS (lw_vin hi0 hi1 hL0 (by decide)) dL_law_1402 ?_
  refine lz_top (y := x1) hx1 ?_
  refine lv_aload_n hx hb dL_law_1403 rfl (lv_at hl 3 rfl) ?_
  refine lv_iload_n hx hb dL_law_1404 rfl (lv_at hl 0 rfl) ?_
  refine lv_iconst (v := 2) hx hb dL_law_1405 (by decide) ?_
  refine lv_iadd hx hb dL_law_1406 ?_
  refine va_sld hx hb hX hbl hbA hS (lw_vin hi0 hi1 hL0 (by decide)) dL_law_1407 ?_
  refine lz_top (y := x2) hx2 ?_
  refine lv_aload_n hx hb dL_law_1408 rfl (lv_at hl 3 rfl) ?_
  refine lv_iload_n hx hb dL_law_1409 rfl (lv_at hl 0 rfl) ?_
  refine lv_iconst (v := 3) hx hb dL_law_1410 (by decide) ?_
  refine lv_iadd hx hb dL_law_1411 ?_
  refine va_sld hx hb hX hbl hbA hS (lw_vin hi0 hi1 hL0 (by decide)) dL_law_1412 ?_
  refine lz_top (y := x3) hx3 ?_
  refine lv_aload_n hx hb dL_law_1413 rfl (lv_at hl 3 rfl) ?_
  refine lv_iload_n hx hb dL_law_1414 rfl (lv_at hl 0 rfl) ?_
  refine lv_iconst (v := 4) hx hb dL_law_1415 (by decide) ?_
  refine lv_iadd hx hb dL_law_1416 ?_
  refine va_sld hx hb hX hbl hbA hS (lw_vin hi0 hi1 hL0 (by decide)) dL_law_1417 ?_
  refine lz_top (y := x4) hx4 ?_
  refine lv_aload_n hx hb dL_law_1418 rfl (lv_at hl 3 rfl) ?_
  refine lv_iload_n hx hb dL_law_1419 rfl (lv_at hl 0 rfl) ?_
  refine lv_iconst (v := 5) hx hb dL_law_1420 (by decide) ?_
  refine lv_iadd hx hb dL_law_1421 ?_
  refine va_sld hx hb hX hbl hbA hS (lw_vin hi0 hi1 hL0 (by decide)) dL_law_1422 ?_
  refine lz_top (y := x5) hx5 ?_
  refine lq_X (S := SU) (fna := fun _ => na) (fnc := fun _ => nc) (fN := fun _ => N) (fL := fun _ => (mkL (cx 0) (cx 1) (cx 2) (cx 3) (cx 4) (cx 5) (cx 6) (cx 7) (cx 8) (cx 9) (cx 10) (cx 11) (cx 12) (cx 13) (cx 14))) (fu := fun q => q) (As := [.int x1, .int x2, .int x3, .int x4, .int x5]) (rest := []) ⟨hx, hb, hml, hown, hts⟩ (k_X11_copy l D cI cS _ a na nc N (mkL (cx 0) (cx 1) (cx 2) (cx 3) (cx 4) (cx 5) (cx 6) (cx 7) (cx 8) (cx 9) (cx 10) (cx 11) (cx 12) (cx 13) (cx 14)) u hTX hN x1 x2 x3 x4 x5 ) hKK hP hD hS hA (cwV 5 hts gL_law_X11_copy rfl rfl rfl (by decide +kernel) ⟨Nat.le_of_ble_eq_true rfl, Nat.le_of_ble_eq_true rfl⟩) rfl hl.1 rfl (Nat.le_of_ble_eq_true rfl) dL_law_1423 (CSL.hf hcs) (fun r52318 u H locs hr52318 hP hD hS => ?_)
  have wr52318 : ((x1.toInt < 0 ∨ 3 < x1.toInt ∨ x3.toInt < 0 ∨ 3 < x3.toInt → r52318.toInt = -2) ∧ (0 ≤ x1.toInt → x1.toInt ≤ 3 → 0 ≤ x3.toInt → x3.toInt ≤ 3 → (((mkL (cx 0) (cx 1) (cx 2) (cx 3) (cx 4) (cx 5) (cx 6) (cx 7) (cx 8) (cx 9) (cx 10) (cx 11) (cx 12) (cx 13) (cx 14)) (26 + 2 * x1.toNatClampNeg) 1).toInt = -1 ∨ ((mkL (cx 0) (cx 1) (cx 2) (cx 3) (cx 4) (cx 5) (cx 6) (cx 7) (cx 8) (cx 9) (cx 10) (cx 11) (cx 12) (cx 13) (cx 14)) (26 + 2 * x3.toNatClampNeg) 1).toInt = -1) → r52318.toInt = -11) ∧ (0 ≤ x1.toInt → x1.toInt ≤ 3 → 0 ≤ x3.toInt → x3.toInt ≤ 3 → ¬ ((mkL (cx 0) (cx 1) (cx 2) (cx 3) (cx 4) (cx 5) (cx 6) (cx 7) (cx 8) (cx 9) (cx 10) (cx 11) (cx 12) (cx 13) (cx 14)) (26 + 2 * x1.toNatClampNeg) 1).toInt = -1 → ¬ ((mkL (cx 0) (cx 1) (cx 2) (cx 3) (cx 4) (cx 5) (cx 6) (cx 7) (cx 8) (cx 9) (cx 10) (cx 11) (cx 12) (cx 13) (cx 14)) (26 + 2 * x3.toNatClampNeg) 1).toInt = -1 → ¬ ((mkL (cx 0) (cx 1) (cx 2) (cx 3) (cx 4) (cx 5) (cx 6) (cx 7) (cx 8) (cx 9) (cx 10) (cx 11) (cx 12) (cx 13) (cx 14)) (26 + 2 * x1.toNatClampNeg) 1).toInt = ((mkL (cx 0) (cx 1) (cx 2) (cx 3) (cx 4) (cx 5) (cx 6) (cx 7) (cx 8) (cx 9) (cx 10) (cx 11) (cx 12) (cx 13) (cx 14)) (26 + 2 * x3.toNatClampNeg) 1).toInt → r52318.toInt = -13) ∧ (0 ≤ x1.toInt → x1.toInt ≤ 3 → 0 ≤ x3.toInt → x3.toInt ≤ 3 → ¬ ((mkL (cx 0) (cx 1) (cx 2) (cx 3) (cx 4) (cx 5) (cx 6) (cx 7) (cx 8) (cx 9) (cx 10) (cx 11) (cx 12) (cx 13) (cx 14)) (26 + 2 * x1.toNatClampNeg) 1).toInt = -1 → ¬ ((mkL (cx 0) (cx 1) (cx 2) (cx 3) (cx 4) (cx 5) (cx 6) (cx 7) (cx 8) (cx 9) (cx 10) (cx 11) (cx 12) (cx 13) (cx 14)) (26 + 2 * x3.toNatClampNeg) 1).toInt = -1 → ((mkL (cx 0) (cx 1) (cx 2) (cx 3) (cx 4) (cx 5) (cx 6) (cx 7) (cx 8) (cx 9) (cx 10) (cx 11) (cx 12) (cx 13) (cx 14)) (26 + 2 * x1.toNatClampNeg) 1).toInt = ((mkL (cx 0) (cx 1) (cx 2) (cx 3) (cx 4) (cx 5) (cx 6) (cx 7) (cx 8) (cx 9) (cx 10) (cx 11) (cx 12) (cx 13) (cx 14)) (26 + 2 * x3.toNatClampNeg) 1).toInt → (x5.toInt < 0 ∨ x2.toInt < 0 ∨ x4.toInt < 0 ∨ ((mkL (cx 0) (cx 1) (cx 2) (cx 3) (cx 4) (cx 5) (cx 6) (cx 7) (cx 8) (cx 9) (cx 10) (cx 11) (cx 12) (cx 13) (cx 14)) (26 + 2 * x1.toNatClampNeg) 2).toInt < x2.toInt + x5.toInt ∨ ((mkL (cx 0) (cx 1) (cx 2) (cx 3) (cx 4) (cx 5) (cx 6) (cx 7) (cx 8) (cx 9) (cx 10) (cx 11) (cx 12) (cx 13) (cx 14)) (26 + 2 * x3.toNatClampNeg) 2).toInt < x4.toInt + x5.toInt) → r52318.toInt = -12) ∧ ((0 ≤ x1.toInt ∧ x1.toInt ≤ 3 ∧ 0 ≤ x3.toInt ∧ x3.toInt ≤ 3 ∧ ¬ ((mkL (cx 0) (cx 1) (cx 2) (cx 3) (cx 4) (cx 5) (cx 6) (cx 7) (cx 8) (cx 9) (cx 10) (cx 11) (cx 12) (cx 13) (cx 14)) (26 + 2 * x1.toNatClampNeg) 1).toInt = -1 ∧ ¬ ((mkL (cx 0) (cx 1) (cx 2) (cx 3) (cx 4) (cx 5) (cx 6) (cx 7) (cx 8) (cx 9) (cx 10) (cx 11) (cx 12) (cx 13) (cx 14)) (26 + 2 * x3.toNatClampNeg) 1).toInt = -1 ∧ ((mkL (cx 0) (cx 1) (cx 2) (cx 3) (cx 4) (cx 5) (cx 6) (cx 7) (cx 8) (cx 9) (cx 10) (cx 11) (cx 12) (cx 13) (cx 14)) (26 + 2 * x1.toNatClampNeg) 1).toInt = ((mkL (cx 0) (cx 1) (cx 2) (cx 3) (cx 4) (cx 5) (cx 6) (cx 7) (cx 8) (cx 9) (cx 10) (cx 11) (cx 12) (cx 13) (cx 14)) (26 + 2 * x3.toNatClampNeg) 1).toInt ∧ 0 ≤ x5.toInt ∧ 0 ≤ x2.toInt ∧ 0 ≤ x4.toInt ∧ x2.toInt + x5.toInt ≤ ((mkL (cx 0) (cx 1) (cx 2) (cx 3) (cx 4) (cx 5) (cx 6) (cx 7) (cx 8) (cx 9) (cx 10) (cx 11) (cx 12) (cx 13) (cx 14)) (26 + 2 * x1.toNatClampNeg) 2).toInt ∧ x4.toInt + x5.toInt ≤ ((mkL (cx 0) (cx 1) (cx 2) (cx 3) (cx 4) (cx 5) (cx 6) (cx 7) (cx 8) (cx 9) (cx 10) (cx 11) (cx 12) (cx 13) (cx 14)) (26 + 2 * x3.toNatClampNeg) 2).toInt) → r52318.toInt = x5.toInt)) := hr52318.2
  have wr52318_x1_0 : x1.toInt = 0 → ((mkL (cx 0) (cx 1) (cx 2) (cx 3) (cx 4) (cx 5) (cx 6) (cx 7) (cx 8) (cx 9) (cx 10) (cx 11) (cx 12) (cx 13) (cx 14)) (26 + 2 * x1.toNatClampNeg) 1).toInt = (cx 7).toInt ∧ ((mkL (cx 0) (cx 1) (cx 2) (cx 3) (cx 4) (cx 5) (cx 6) (cx 7) (cx 8) (cx 9) (cx 10) (cx 11) (cx 12) (cx 13) (cx 14)) (26 + 2 * x1.toNatClampNeg) 2).toInt = (cx 11).toInt := fun h9 => by rw [show x1 = 0 from Int32.toInt_inj.mp h9]; exact ⟨rfl, rfl⟩
  have wr52318_x1_1 : x1.toInt = 1 → ((mkL (cx 0) (cx 1) (cx 2) (cx 3) (cx 4) (cx 5) (cx 6) (cx 7) (cx 8) (cx 9) (cx 10) (cx 11) (cx 12) (cx 13) (cx 14)) (26 + 2 * x1.toNatClampNeg) 1).toInt = (cx 8).toInt ∧ ((mkL (cx 0) (cx 1) (cx 2) (cx 3) (cx 4) (cx 5) (cx 6) (cx 7) (cx 8) (cx 9) (cx 10) (cx 11) (cx 12) (cx 13) (cx 14)) (26 + 2 * x1.toNatClampNeg) 2).toInt = (cx 12).toInt := fun h9 => by rw [show x1 = 1 from Int32.toInt_inj.mp h9]; exact ⟨rfl, rfl⟩
  have wr52318_x1_2 : x1.toInt = 2 → ((mkL (cx 0) (cx 1) (cx 2) (cx 3) (cx 4) (cx 5) (cx 6) (cx 7) (cx 8) (cx 9) (cx 10) (cx 11) (cx 12) (cx 13) (cx 14)) (26 + 2 * x1.toNatClampNeg) 1).toInt = (cx 9).toInt ∧ ((mkL (cx 0) (cx 1) (cx 2) (cx 3) (cx 4) (cx 5) (cx 6) (cx 7) (cx 8) (cx 9) (cx 10) (cx 11) (cx 12) (cx 13) (cx 14)) (26 + 2 * x1.toNatClampNeg) 2).toInt = (cx 13).toInt := fun h9 => by rw [show x1 = 2 from Int32.toInt_inj.mp h9]; exact ⟨rfl, rfl⟩
  have wr52318_x1_3 : x1.toInt = 3 → ((mkL (cx 0) (cx 1) (cx 2) (cx 3) (cx 4) (cx 5) (cx 6) (cx 7) (cx 8) (cx 9) (cx 10) (cx 11) (cx 12) (cx 13) (cx 14)) (26 + 2 * x1.toNatClampNeg) 1).toInt = (cx 10).toInt ∧ ((mkL (cx 0) (cx 1) (cx 2) (cx 3) (cx 4) (cx 5) (cx 6) (cx 7) (cx 8) (cx 9) (cx 10) (cx 11) (cx 12) (cx 13) (cx 14)) (26 + 2 * x1.toNatClampNeg) 2).toInt = (cx 14).toInt := fun h9 => by rw [show x1 = 3 from Int32.toInt_inj.mp h9]; exact ⟨rfl, rfl⟩
  have wr52318_x3_0 : x3.toInt = 0 → ((mkL (cx 0) (cx 1) (cx 2) (cx 3) (cx 4) (cx 5) (cx 6) (cx 7) (cx 8) (cx 9) (cx 10) (cx 11) (cx 12) (cx 13) (cx 14)) (26 + 2 * x3.toNatClampNeg) 1).toInt = (cx 7).toInt ∧ ((mkL (cx 0) (cx 1) (cx 2) (cx 3) (cx 4) (cx 5) (cx 6) (cx 7) (cx 8) (cx 9) (cx 10) (cx 11) (cx 12) (cx 13) (cx 14)) (26 + 2 * x3.toNatClampNeg) 2).toInt = (cx 11).toInt := fun h9 => by rw [show x3 = 0 from Int32.toInt_inj.mp h9]; exact ⟨rfl, rfl⟩
  have wr52318_x3_1 : x3.toInt = 1 → ((mkL (cx 0) (cx 1) (cx 2) (cx 3) (cx 4) (cx 5) (cx 6) (cx 7) (cx 8) (cx 9) (cx 10) (cx 11) (cx 12) (cx 13) (cx 14)) (26 + 2 * x3.toNatClampNeg) 1).toInt = (cx 8).toInt ∧ ((mkL (cx 0) (cx 1) (cx 2) (cx 3) (cx 4) (cx 5) (cx 6) (cx 7) (cx 8) (cx 9) (cx 10) (cx 11) (cx 12) (cx 13) (cx 14)) (26 + 2 * x3.toNatClampNeg) 2).toInt = (cx 12).toInt := fun h9 => by rw [show x3 = 1 from Int32.toInt_inj.mp h9]; exact ⟨rfl, rfl⟩
  have wr52318_x3_2 : x3.toInt = 2 → ((mkL (cx 0) (cx 1) (cx 2) (cx 3) (cx 4) (cx 5) (cx 6) (cx 7) (cx 8) (cx 9) (cx 10) (cx 11) (cx 12) (cx 13) (cx 14)) (26 + 2 * x3.toNatClampNeg) 1).toInt = (cx 9).toInt ∧ ((mkL (cx 0) (cx 1) (cx 2) (cx 3) (cx 4) (cx 5) (cx 6) (cx 7) (cx 8) (cx 9) (cx 10) (cx 11) (cx 12) (cx 13) (cx 14)) (26 + 2 * x3.toNatClampNeg) 2).toInt = (cx 13).toInt := fun h9 => by rw [show x3 = 2 from Int32.toInt_inj.mp h9]; exact ⟨rfl, rfl⟩
  have wr52318_x3_3 : x3.toInt = 3 → ((mkL (cx 0) (cx 1) (cx 2) (cx 3) (cx 4) (cx 5) (cx 6) (cx 7) (cx 8) (cx 9) (cx 10) (cx 11) (cx 12) (cx 13) (cx 14)) (26 + 2 * x3.toNatClampNeg) 1).toInt = (cx 10).toInt ∧ ((mkL (cx 0) (cx 1) (cx 2) (cx 3) (cx 4) (cx 5) (cx 6) (cx 7) (cx 8) (cx 9) (cx 10) (cx 11) (cx 12) (cx 13) (cx 14)) (26 + 2 * x3.toNatClampNeg) 2).toInt = (cx 14).toInt := fun h9 => by rw [show x3 = 3 from Int32.toInt_inj.mp h9]; exact ⟨rfl, rfl⟩
  refine lv_aload_n hx hb dL_law_1426 rfl (lv_at hl 1 rfl) ?_
  refine lv_aload_n hx hb dL_law_1427 rfl (lv_at hl 3 rfl) ?_
  refine lv_iload_n hx hb dL_law_1428 rfl (lv_at hl 0 rfl) ?_
  refine lv_iconst (v := 1) hx hb dL_law_1429 (by decide) ?_
  refine lv_iadd hx hb dL_law_1430 ?_
  refine va_sld hx hb hX hbl hbA hS (lw_vin hi0 hi1 hL0 (by decide)) dL_law_1431 ?_
  refine lz_top (y := x1) hx1 ?_
  refine lv_aload_n hx hb dL_law_1432 rfl (lv_at hl 3 rfl) ?_
  refine lv_iload_n hx hb dL_law_1433 rfl (lv_at hl 0 rfl) ?_
  refine lv_iconst (v := 2) hx hb dL_law_1434 (by decide) ?_
  refine lv_iadd hx hb dL_law_1435 ?_
  refine va_sld hx hb hX hbl hbA hS (lw_vin hi0 hi1 hL0 (by decide)) dL_law_1436 ?_
  refine lz_top (y := x2) hx2 ?_
  refine lv_aload_n hx hb dL_law_1437 rfl (lv_at hl 3 rfl) ?_
  refine lv_iload_n hx hb dL_law_1438 rfl (lv_at hl 0 rfl) ?_
  refine lv_iconst (v := 3) hx hb dL_law_1439 (by decide) ?_
  refine lv_iadd hx hb dL_law_1440 ?_
  refine va_sld hx hb hX hbl hbA hS (lw_vin hi0 hi1 hL0 (by decide)) dL_law_1441 ?_
  refine lz_top (y := x3) hx3 ?_
  refine lv_aload_n hx hb dL_law_1442 rfl (lv_at hl 3 rfl) ?_
  refine lv_iload_n hx hb dL_law_1443 rfl (lv_at hl 0 rfl) ?_
  refine lv_iconst (v := 4) hx hb dL_law_1444 (by decide) ?_
  refine lv_iadd hx hb dL_law_1445 ?_
  refine va_sld hx hb hX hbl hbA hS (lw_vin hi0 hi1 hL0 (by decide)) dL_law_1446 ?_
  refine lz_top (y := x4) hx4 ?_
  refine lv_aload_n hx hb dL_law_1447 rfl (lv_at hl 3 rfl) ?_
  refine lv_iload_n hx hb dL_law_1448 rfl (lv_at hl 0 rfl) ?_
  refine lv_iconst (v := 5) hx hb dL_law_1449 (by decide) ?_
  refine lv_iadd hx hb dL_law_1450 ?_
  refine va_sld hx hb hX hbl hbA hS (lw_vin hi0 hi1 hL0 (by decide)) dL_law_1451 ?_
  refine lz_top (y := x5) hx5 ?_
  refine lq_M (S := SU) (fL := fun _ => (mkM (my 0) (my 1) (my 2) (my 3) (my 4) (my 5) (my 6) (R 0) (R 1) (R 2))) (fu := fun q => q) (As := [.int x1, .int x2, .int x3, .int x4, .int x5]) (rest := [.int r52318]) ⟨hx, hb, hml, hown, hts⟩ (w_X12_copy l D cI cS _ b (mkM (my 0) (my 1) (my 2) (my 3) (my 4) (my 5) (my 6) (R 0) (R 1) (R 2)) v hTM hV x1 x2 x3 x4 x5 ) hKK hP hD hS hA (cwV 5 hts gL_law_X12_copy rfl rfl rfl (by decide +kernel) ⟨Nat.le_of_ble_eq_true rfl, Nat.le_of_ble_eq_true rfl⟩) rfl hl.1 rfl (Nat.le_of_ble_eq_true rfl) dL_law_1452 (CSL.hf hcs) (fun r52319 v H locs hr52319 hP hD hS => ?_)
  have hV := hr52319.1
  have wr52319 : ((x1.toInt < 0 ∨ 3 < x1.toInt ∨ x3.toInt < 0 ∨ 3 < x3.toInt → r52319.toInt = -2) ∧ (0 ≤ x1.toInt → x1.toInt ≤ 3 → 0 ≤ x3.toInt → x3.toInt ≤ 3 → (((R 0) x1.toNatClampNeg).toInt = -1 ∨ ((R 0) x3.toNatClampNeg).toInt = -1) → r52319.toInt = -11) ∧ (0 ≤ x1.toInt → x1.toInt ≤ 3 → 0 ≤ x3.toInt → x3.toInt ≤ 3 → ¬ ((R 0) x1.toNatClampNeg).toInt = -1 → ¬ ((R 0) x3.toNatClampNeg).toInt = -1 → ¬ ((R 0) x1.toNatClampNeg).toInt = ((R 0) x3.toNatClampNeg).toInt → r52319.toInt = -13) ∧ (0 ≤ x1.toInt → x1.toInt ≤ 3 → 0 ≤ x3.toInt → x3.toInt ≤ 3 → ¬ ((R 0) x1.toNatClampNeg).toInt = -1 → ¬ ((R 0) x3.toNatClampNeg).toInt = -1 → ((R 0) x1.toNatClampNeg).toInt = ((R 0) x3.toNatClampNeg).toInt → (x5.toInt < 0 ∨ x2.toInt < 0 ∨ x4.toInt < 0 ∨ ((R 1) x1.toNatClampNeg).toInt < x2.toInt + x5.toInt ∨ ((R 1) x3.toNatClampNeg).toInt < x4.toInt + x5.toInt) → r52319.toInt = -12) ∧ ((0 ≤ x1.toInt ∧ x1.toInt ≤ 3 ∧ 0 ≤ x3.toInt ∧ x3.toInt ≤ 3 ∧ ¬ ((R 0) x1.toNatClampNeg).toInt = -1 ∧ ¬ ((R 0) x3.toNatClampNeg).toInt = -1 ∧ ((R 0) x1.toNatClampNeg).toInt = ((R 0) x3.toNatClampNeg).toInt ∧ 0 ≤ x5.toInt ∧ 0 ≤ x2.toInt ∧ 0 ≤ x4.toInt ∧ x2.toInt + x5.toInt ≤ ((R 1) x1.toNatClampNeg).toInt ∧ x4.toInt + x5.toInt ≤ ((R 1) x3.toNatClampNeg).toInt) → r52319.toInt = x5.toInt)) := hr52319.2.2
  have wr52319_x1_0 : x1.toInt = 0 → ((R 0) x1.toNatClampNeg).toInt = ((R 0) 0).toInt ∧ ((R 1) x1.toNatClampNeg).toInt = ((R 1) 0).toInt := fun h9 => by rw [show x1 = 0 from Int32.toInt_inj.mp h9]; exact ⟨rfl, rfl⟩
  have wr52319_x1_1 : x1.toInt = 1 → ((R 0) x1.toNatClampNeg).toInt = ((R 0) 1).toInt ∧ ((R 1) x1.toNatClampNeg).toInt = ((R 1) 1).toInt := fun h9 => by rw [show x1 = 1 from Int32.toInt_inj.mp h9]; exact ⟨rfl, rfl⟩
  have wr52319_x1_2 : x1.toInt = 2 → ((R 0) x1.toNatClampNeg).toInt = ((R 0) 2).toInt ∧ ((R 1) x1.toNatClampNeg).toInt = ((R 1) 2).toInt := fun h9 => by rw [show x1 = 2 from Int32.toInt_inj.mp h9]; exact ⟨rfl, rfl⟩
  have wr52319_x1_3 : x1.toInt = 3 → ((R 0) x1.toNatClampNeg).toInt = ((R 0) 3).toInt ∧ ((R 1) x1.toNatClampNeg).toInt = ((R 1) 3).toInt := fun h9 => by rw [show x1 = 3 from Int32.toInt_inj.mp h9]; exact ⟨rfl, rfl⟩
  have wr52319_x3_0 : x3.toInt = 0 → ((R 0) x3.toNatClampNeg).toInt = ((R 0) 0).toInt ∧ ((R 1) x3.toNatClampNeg).toInt = ((R 1) 0).toInt := fun h9 => by rw [show x3 = 0 from Int32.toInt_inj.mp h9]; exact ⟨rfl, rfl⟩
  have wr52319_x3_1 : x3.toInt = 1 → ((R 0) x3.toNatClampNeg).toInt = ((R 0) 1).toInt ∧ ((R 1) x3.toNatClampNeg).toInt = ((R 1) 1).toInt := fun h9 => by rw [show x3 = 1 from Int32.toInt_inj.mp h9]; exact ⟨rfl, rfl⟩
  have wr52319_x3_2 : x3.toInt = 2 → ((R 0) x3.toNatClampNeg).toInt = ((R 0) 2).toInt ∧ ((R 1) x3.toNatClampNeg).toInt = ((R 1) 2).toInt := fun h9 => by rw [show x3 = 2 from Int32.toInt_inj.mp h9]; exact ⟨rfl, rfl⟩
  have wr52319_x3_3 : x3.toInt = 3 → ((R 0) x3.toNatClampNeg).toInt = ((R 0) 3).toInt ∧ ((R 1) x3.toNatClampNeg).toInt = ((R 1) 3).toInt := fun h9 => by rw [show x3 = 3 from Int32.toInt_inj.mp h9]; exact ⟨rfl, rfl⟩
  refine lv_icmp_eq (tgt := 1486) hx hb dL_law_1455 (by decide) (fun c9 => ?_) (fun c9 => ?_)
  · exact tail na nc N  cx my R u v _ _ _ _ _ ⟨hcs, ⟨hTX, hTM, hV, hR⟩, hP, hD, hS, hl⟩
  · exact absurd (Int32.toInt_inj.mp (cp_er wr52318 wr52319 (fun p1 p2 => (wk_four p1 p2).elim (fun q => ⟨(wr52318_x1_0 q).1.trans (hR.2.2.2.2.2.2.1.trans (wr52319_x1_0 q).1.symm), (wr52318_x1_0 q).2.trans (hR.2.2.2.2.2.2.2.2.2.2.1.trans (wr52319_x1_0 q).2.symm)⟩) (fun w8 => w8.elim (fun q => ⟨(wr52318_x1_1 q).1.trans (hR.2.2.2.2.2.2.2.1.trans (wr52319_x1_1 q).1.symm), (wr52318_x1_1 q).2.trans (hR.2.2.2.2.2.2.2.2.2.2.2.1.trans (wr52319_x1_1 q).2.symm)⟩) (fun w8 => w8.elim (fun q => ⟨(wr52318_x1_2 q).1.trans (hR.2.2.2.2.2.2.2.2.1.trans (wr52319_x1_2 q).1.symm), (wr52318_x1_2 q).2.trans (hR.2.2.2.2.2.2.2.2.2.2.2.2.1.trans (wr52319_x1_2 q).2.symm)⟩) (fun q => ⟨(wr52318_x1_3 q).1.trans (hR.2.2.2.2.2.2.2.2.2.1.trans (wr52319_x1_3 q).1.symm), (wr52318_x1_3 q).2.trans (hR.2.2.2.2.2.2.2.2.2.2.2.2.2.trans (wr52319_x1_3 q).2.symm)⟩)))) (fun p1 p2 => (wk_four p1 p2).elim (fun q => ⟨(wr52318_x3_0 q).1.trans (hR.2.2.2.2.2.2.1.trans (wr52319_x3_0 q).1.symm), (wr52318_x3_0 q).2.trans (hR.2.2.2.2.2.2.2.2.2.2.1.trans (wr52319_x3_0 q).2.symm)⟩) (fun w8 => w8.elim (fun q => ⟨(wr52318_x3_1 q).1.trans (hR.2.2.2.2.2.2.2.1.trans (wr52319_x3_1 q).1.symm), (wr52318_x3_1 q).2.trans (hR.2.2.2.2.2.2.2.2.2.2.2.1.trans (wr52319_x3_1 q).2.symm)⟩) (fun w8 => w8.elim (fun q => ⟨(wr52318_x3_2 q).1.trans (hR.2.2.2.2.2.2.2.2.1.trans (wr52319_x3_2 q).1.symm), (wr52318_x3_2 q).2.trans (hR.2.2.2.2.2.2.2.2.2.2.2.2.1.trans (wr52319_x3_2 q).2.symm)⟩) (fun q => ⟨(wr52318_x3_3 q).1.trans (hR.2.2.2.2.2.2.2.2.2.1.trans (wr52319_x3_3 q).1.symm), (wr52318_x3_3 q).2.trans (hR.2.2.2.2.2.2.2.2.2.2.2.2.2.trans (wr52319_x3_3 q).2.symm)⟩)))))) c9
set_option maxHeartbeats 4000000 in
set_option maxRecDepth 100000 in
theorem lc_42 {p : Program} {l : Launch} {e : Env} {s : State} {m : MethodId} {below : List Frame} {meth : Method} {c : Code} {b0 L0 : Nat} {xs : Nat → Int32} {D : va_G} {cI cS : ClassId} {A : Nat → Prop} {H : Heap} {locs : List Loc} {ls : Array Slot} {Q : State → Prop} {a b : Nat → Nat} {na nc N cells slots : Nat} {cx my : Nat → Int32} {R u v : SU} {i : Int32} (hx : p.tables.exec = Jvm.exec) (hb : c.code = cL_law) (hml : c.maxLocals = 4) (hown : s.vm.findClass RL = some m.cls) (hts : ∀ w ∈ wsL_law, w.before #[Value.ref b0] s = true) (hKK : KK D cI cS s) (hAB0 : AB s s.heap) (hA0 : ∀ q : Nat, q < s.heap.size → ¬ A q) (hX : va_X b0 L0 xs s s.heap) (hbl : b0 < s.heap.size) (hbA : ¬ A b0) (hA : ∀ q : Nat, s.heap.size ≤ q → A q) (hL0 : L0 ≤ 3072) (hi0 : 0 ≤ i.toInt) (hi1 : i.toInt + 6 ≤ (L0 : Int)) (hst : ST D cI cS A s a b b0 i na nc N cx my R u v H locs ls cells slots) (tail : ∀ (na nc N : Nat) (cx my : Nat → Int32) (R u v : SU) (H : Heap) (locs : List Loc) (ls : Array Slot) (cells slots : Nat), ST D cI cS A s a b b0 i na nc N cx my R u v H locs ls cells slots → W p l e room_1 s m #[Value.ref b0] below meth c H locs cells slots Q (F0 m 1486 ls [])) : W p l e room_1 s m #[Value.ref b0] below meth c H locs cells slots Q (F0 m 1460 ls []) := by
  obtain ⟨hcs, ⟨hTX, hTM, hV, hR⟩, hP, hD, hS, hl⟩ := hst
  have hN := hcs.hN
  have hK := hKK.1
  have hR : (cx 0).toInt = (my 0).toInt ∧ (cx 5).toInt = (my 1).toInt ∧ (cx 4).toInt = ((R 2) 1).toInt ∧ (cx 6).toInt = (my 2).toInt ∧ (cx 3).toInt = (my 3).toInt ∧ (cx 2).toInt = ((R 2) 0).toInt ∧ (cx 7).toInt = ((R 0) 0).toInt ∧ (cx 8).toInt = ((R 0) 1).toInt ∧ (cx 9).toInt = ((R 0) 2).toInt ∧ (cx 10).toInt = ((R 0) 3).toInt ∧ (cx 11).toInt = ((R 1) 0).toInt ∧ (cx 12).toInt = ((R 1) 1).toInt ∧ (cx 13).toInt = ((R 1) 2).toInt ∧ (cx 14).toInt = ((R 1) 3).toInt := hR
  obtain ⟨x1, hx1⟩ : ∃ z, xs (i + 1).toNatClampNeg = z := ⟨_, rfl⟩
  obtain ⟨x2, hx2⟩ : ∃ z, xs (i + 2).toNatClampNeg = z := ⟨_, rfl⟩
  obtain ⟨x3, hx3⟩ : ∃ z, xs (i + 3).toNatClampNeg = z := ⟨_, rfl⟩
  obtain ⟨x4, hx4⟩ : ∃ z, xs (i + 4).toNatClampNeg = z := ⟨_, rfl⟩
  obtain ⟨x5, hx5⟩ : ∃ z, xs (i + 5).toNatClampNeg = z := ⟨_, rfl⟩
  refine lv_aload_n hx hb dL_law_1460 rfl (lv_at hl 2 rfl) ?_
  refine lq_X (S := Int32 × Int32 × Int32 × SU) (fna := fun _ => na) (fnc := fun _ => nc) (fN := fun _ => N) (fL := fun q => mkL (cx 0) (cx 1) q.1 q.2.2.1 q.2.1 (cx 5) (cx 6) (cx 7) (cx 8) (cx 9) (cx 10) (cx 11) (cx 12) (cx 13) (cx 14)) (fu := fun q => q.2.2.2) (As := []) (rest := []) ⟨hx, hb, hml, hown, hts⟩ (k_X11_image l D cI cS _ a na nc N (cx 0) (cx 1) (cx 2) (cx 3) (cx 4) (cx 5) (cx 6) (cx 7) (cx 8) (cx 9) (cx 10) (cx 11) (cx 12) (cx 13) (cx 14) u hTX hN  ) hKK hP hD hS hA (cwV 0 hts gL_law_X11_image rfl rfl rfl (by decide +kernel) ⟨Nat.le_of_ble_eq_true rfl, Nat.le_of_ble_eq_true rfl⟩) rfl hl.1 rfl (Nat.le_of_ble_eq_true rfl) dL_law_1461 (CSL.hf hcs) (fun r52320 q9 H locs hr52320 hP hD hS => ?_)
  obtain ⟨r52321, r52322, r52323, u⟩ := q9
  have hr52320 : Rg 0 12 r52320 ∧ Rg 0 12 r52321 ∧ Rg 1 1 r52323 ∧ (r52320.toInt = (cx 0).toInt ∧ r52323.toInt = 1 ∧ r52321.toInt = (cx 0).toInt ∧ r52322.toInt = (cx 5).toInt) := hr52320
  have hTX : TyX (mkL (cx 0) (cx 1) r52321 r52323 r52322 (cx 5) (cx 6) (cx 7) (cx 8) (cx 9) (cx 10) (cx 11) (cx 12) (cx 13) (cx 14)) := ⟨hTX.1, hTX.2.1, (rg_w hr52320.2.1 (by decide) (by decide)), hTX.2.2.2.1, hTX.2.2.2.2.1, hTX.2.2.2.2.2.1, hTX.2.2.2.2.2.2.1, hTX.2.2.2.2.2.2.2⟩
  refine lv_pop hx hb dL_law_1464 rfl ?_
  refine lv_aload_n hx hb dL_law_1465 rfl (lv_at hl 1 rfl) ?_
  refine lq_M (S := (Nat → Int32) × Int32 × SU) (fL := fun q => mkM (my 0) (my 1) (my 2) q.2.1 (my 4) (my 5) (my 6) (R 0) (R 1) q.1) (fu := fun q => q.2.2) (As := []) (rest := []) ⟨hx, hb, hml, hown, hts⟩ (w_X12_image l D cI cS _ b (my 0) (my 1) (my 2) (my 3) (my 4) (my 5) (my 6) (R 0) (R 1) (R 2) v hTM hV  ) hKK hP hD hS hA (cwV 0 hts gL_law_X12_image rfl rfl rfl (by decide +kernel) ⟨Nat.le_of_ble_eq_true rfl, Nat.le_of_ble_eq_true rfl⟩) rfl hl.1 rfl (Nat.le_of_ble_eq_true rfl) dL_law_1466 (CSL.hf hcs) (fun r52324 q9 H locs hr52324 hP hD hS => ?_)
  obtain ⟨f52325, r52326, v⟩ := q9
  have hr52324 : TyV v ∧ Rg 0 12 r52324 ∧ Kp f52325 ∧ Rg 1 1 r52326 ∧ (r52324.toInt = (my 0).toInt ∧ r52326.toInt = 1 ∧ (f52325 0).toInt = (my 0).toInt ∧ (f52325 1).toInt = (my 1).toInt) := hr52324
  have hV := hr52324.1
  have hTM : TyL (mkM (my 0) (my 1) (my 2) r52326 (my 4) (my 5) (my 6) (R 0) (R 1) f52325) := ⟨hTM.1, hTM.2.1, hTM.2.2.1, hTM.2.2.2.1, hr52324.2.2.1, hTM.2.2.2.2.2⟩
  refine lv_pop hx hb dL_law_1469 rfl ?_
  refine lv_goto (tgt := 1486) hx hb dL_law_1470 (by decide) ?_
  have hR2 : (cx 0).toInt = (my 0).toInt ∧ (cx 5).toInt = (my 1).toInt ∧ r52322.toInt = (f52325 1).toInt ∧ (cx 6).toInt = (my 2).toInt ∧ r52323.toInt = r52326.toInt ∧ r52321.toInt = (f52325 0).toInt ∧ (cx 7).toInt = ((R 0) 0).toInt ∧ (cx 8).toInt = ((R 0) 1).toInt ∧ (cx 9).toInt = ((R 0) 2).toInt ∧ (cx 10).toInt = ((R 0) 3).toInt ∧ (cx 11).toInt = ((R 1) 0).toInt ∧ (cx 12).toInt = ((R 1) 1).toInt ∧ (cx 13).toInt = ((R 1) 2).toInt ∧ (cx 14).toInt = ((R 1) 3).toInt := by have zr := hR; have zz0 := hr52320.2.2.2; have zz1 := hr52324.2.2.2.2; refine ⟨by omega, by omega, by omega, by omega, by omega, by omega, by omega, by omega, by omega, by omega, by omega, by omega, by omega, by omega⟩
  exact tail na nc N  (upd (upd (upd cx 2 r52321) 3 r52323) 4 r52322) (upd my 3 r52326) (sU R 2 f52325) u v _ _ _ _ _ ⟨hcs, ⟨hTX, hTM, hV, hR2⟩, hP, hD, hS, hl⟩
