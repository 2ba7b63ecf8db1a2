set_option maxHeartbeats 4000000 in
set_option maxRecDepth 100000 in
theorem lc_0 {p : Program} {l : Launch} {e : Env} {s : State} {m : MethodId} {below : List Frame} {meth : Method} {c : Code} {b0 L0 : Nat} {xs : Nat → Int32} {D : va_G} {cI cS : ClassId} {A : Nat → Prop} {H : Heap} {locs : List Loc} {ls : Array Slot} {Q : State → Prop} {a b : Nat → Nat} {na nc N cells slots : Nat} {cx my : Nat → Int32} {R u v : SU} {i : Int32} (hx : p.tables.exec = Jvm.exec) (hb : c.code = cL_law) (hml : c.maxLocals = 4) (hown : s.vm.findClass RL = some m.cls) (hts : ∀ w ∈ wsL_law, w.before #[Value.ref b0] s = true) (hKK : KK D cI cS s) (hAB0 : AB s s.heap) (hA0 : ∀ q : Nat, q < s.heap.size → ¬ A q) (hX : va_X b0 L0 xs s s.heap) (hbl : b0 < s.heap.size) (hbA : ¬ A b0) (hA : ∀ q : Nat, s.heap.size ≤ q → A q) (hL0 : L0 ≤ 3072) (hi0 : 0 ≤ i.toInt) (hi1 : i.toInt + 6 ≤ (L0 : Int)) (hst : ST D cI cS A s a b b0 i na nc N cx my R u v H locs ls cells slots) (tail : ∀ (na nc N : Nat) (cx my : Nat → Int32) (R u v : SU) (H : Heap) (locs : List Loc) (ls : Array Slot) (cells slots : Nat), ST D cI cS A s a b b0 i na nc N cx my R u v H locs ls cells slots → W p l e room_1 s m #[Value.ref b0] below meth c H locs cells slots Q (F0 m 1486 ls [])) : W p l e room_1 s m #[Value.ref b0] below meth c H locs cells slots Q (F0 m 224 ls []) := by
  obtain ⟨hcs, ⟨hTX, hTM, hV, hR⟩, hP, hD, hS, hl⟩ := hst
  have hN := hcs.hN
  have hK := hKK.1
  have hR : (cx 0).toInt = (my 0).toInt ∧ (cx 5).toInt = (my 1).toInt ∧ (cx 4).toInt = ((R 2) 1).toInt ∧ (cx 6).toInt = (my 2).toInt ∧ (cx 3).toInt = (my 3).toInt ∧ (cx 2).toInt = ((R 2) 0).toInt ∧ (cx 7).toInt = ((R 0) 0).toInt ∧ (cx 8).toInt = ((R 0) 1).toInt ∧ (cx 9).toInt = ((R 0) 2).toInt ∧ (cx 10).toInt = ((R 0) 3).toInt ∧ (cx 11).toInt = ((R 1) 0).toInt ∧ (cx 12).toInt = ((R 1) 1).toInt ∧ (cx 13).toInt = ((R 1) 2).toInt ∧ (cx 14).toInt = ((R 1) 3).toInt := hR
  obtain ⟨x1, hx1⟩ : ∃ z, xs (i + 1).toNatClampNeg = z := ⟨_, rfl⟩
  obtain ⟨x2, hx2⟩ : ∃ z, xs (i + 2).toNatClampNeg = z := ⟨_, rfl⟩
  obtain ⟨x3, hx3⟩ : ∃ z, xs (i + 3).toNatClampNeg = z := ⟨_, rfl⟩
  obtain ⟨x4, hx4⟩ : ∃ z, xs (i + 4).toNatClampNeg = z := ⟨_, rfl⟩
  obtain ⟨x5, hx5⟩ : ∃ z, xs (i + 5).toNatClampNeg = z := ⟨_, rfl⟩
  refine lv_aload_n hx hb dL_law_224 rfl (lv_at hl 2 rfl) ?_
  refine lv_aload_n hx hb dL_law_225 rfl (lv_at hl 3 rfl) ?_
  refine lv_iload_n hx hb dL_law_226 rfl (lv_at hl 0 rfl) ?_
  refine lv_iconst (v := 1) hx hb dL_law_227 (by decide) ?_
  refine lv_iadd hx hb dL_law_228 ?_
  refine va_sld hx hb hX hbl hbA hS (lw_vin hi0 hi1 hL0 (by decide)) dL_law_229 ?_
  refine lz_top (y := x1) hx1 ?_
  refine lq_X (S := Int32 × SU) (fna := fun _ => na) (fnc := fun _ => nc) (fN := fun _ => N) (fL := fun q => mkL q.1 (cx 1) (cx 2) (cx 3) (cx 4) (cx 5) (cx 6) (cx 7) (cx 8) (cx 9) (cx 10) (cx 11) (cx 12) (cx 13) (cx 14)) (fu := fun q => q.2) (As := [.int x1]) (rest := []) ⟨hx, hb, hml, hown, hts⟩ (k_X11_points l D cI cS _ a na nc N (cx 0) (cx 1) (cx 2) (cx 3) (cx 4) (cx 5) (cx 6) (cx 7) (cx 8) (cx 9) (cx 10) (cx 11) (cx 12) (cx 13) (cx 14) u hTX hN x1 ) hKK hP hD hS hA (cwV 1 hts gL_law_X11_points rfl rfl rfl (by decide +kernel) ⟨Nat.le_of_ble_eq_true rfl, Nat.le_of_ble_eq_true rfl⟩) rfl hl.1 rfl (Nat.le_of_ble_eq_true rfl) dL_law_230 (CSL.hf hcs) (fun r52169 q9 H locs hr52169 hP hD hS => ?_)
  obtain ⟨r52170, u⟩ := q9
  have hr52169 : Rg (-4) 12 r52169 ∧ Rg 0 12 r52170 ∧ ((x1.toInt < 1 ∨ 12 < x1.toInt → r52169.toInt = -2 ∧ r52170.toInt = (cx 0).toInt) ∧ (1 ≤ x1.toInt → x1.toInt ≤ 12 → 12 < (cx 0).toInt + x1.toInt → r52169.toInt = -4 ∧ r52170.toInt = (cx 0).toInt) ∧ (1 ≤ x1.toInt → x1.toInt ≤ 12 → (cx 0).toInt + x1.toInt ≤ 12 → r52169.toInt = (cx 0).toInt + x1.toInt ∧ r52170.toInt = (cx 0).toInt + x1.toInt)) := hr52169
  have hTX : TyX (mkL r52170 (cx 1) (cx 2) (cx 3) (cx 4) (cx 5) (cx 6) (cx 7) (cx 8) (cx 9) (cx 10) (cx 11) (cx 12) (cx 13) (cx 14)) := ⟨(rg_w hr52169.2.1 (by decide) (by decide)), hTX.2.1, hTX.2.2.1, hTX.2.2.2.1, hTX.2.2.2.2.1, hTX.2.2.2.2.2.1, hTX.2.2.2.2.2.2.1, hTX.2.2.2.2.2.2.2⟩
  refine lv_pop hx hb dL_law_233 rfl ?_
  refine lv_aload_n hx hb dL_law_234 rfl (lv_at hl 1 rfl) ?_
  refine lv_aload_n hx hb dL_law_235 rfl (lv_at hl 3 rfl) ?_
  refine lv_iload_n hx hb dL_law_236 rfl (lv_at hl 0 rfl) ?_
  refine lv_iconst (v := 1) hx hb dL_law_237 (by decide) ?_
  refine lv_iadd hx hb dL_law_238 ?_
  refine va_sld hx hb hX hbl hbA hS (lw_vin hi0 hi1 hL0 (by decide)) dL_law_239 ?_
  refine lz_top (y := x1) hx1 ?_
  refine lq_M (S := Int32 × SU) (fL := fun q => mkM q.1 (my 1) (my 2) (my 3) (my 4) (my 5) (my 6) (R 0) (R 1) (R 2)) (fu := fun q => q.2) (As := [.int x1]) (rest := []) ⟨hx, hb, hml, hown, hts⟩ (w_X12_points l D cI cS _ b (my 0) (my 1) (my 2) (my 3) (my 4) (my 5) (my 6) (R 0) (R 1) (R 2) v hTM hV x1 ) hKK hP hD hS hA (cwV 1 hts gL_law_X12_points rfl rfl rfl (by decide +kernel) ⟨Nat.le_of_ble_eq_true rfl, Nat.le_of_ble_eq_true rfl⟩) rfl hl.1 rfl (Nat.le_of_ble_eq_true rfl) dL_law_240 (CSL.hf hcs) (fun r52171 q9 H locs hr52171 hP hD hS => ?_)
  obtain ⟨r52172, v⟩ := q9
  have hr52171 : TyV v ∧ Rg (-4) 12 r52171 ∧ Rg 0 12 r52172 ∧ ((x1.toInt < 1 ∨ 12 < x1.toInt → r52171.toInt = -2 ∧ r52172.toInt = (my 0).toInt) ∧ (1 ≤ x1.toInt → x1.toInt ≤ 12 → 12 < (my 0).toInt + x1.toInt → r52171.toInt = -4 ∧ r52172.toInt = (my 0).toInt) ∧ (1 ≤ x1.toInt → x1.toInt ≤ 12 → (my 0).toInt + x1.toInt ≤ 12 → r52171.toInt = (my 0).toInt + x1.toInt ∧ r52172.toInt = (my 0).toInt + x1.toInt)) := hr52171
  have hV := hr52171.1
  have hTM : TyL (mkM r52172 (my 1) (my 2) (my 3) (my 4) (my 5) (my 6) (R 0) (R 1) (R 2)) := ⟨(rg_w hr52171.2.2.1 (by decide) (by decide)), hTM.2.1, hTM.2.2.1, hTM.2.2.2.1, hTM.2.2.2.2.1, hTM.2.2.2.2.2⟩
  refine lv_pop hx hb dL_law_243 rfl ?_
  refine lv_goto (tgt := 1486) hx hb dL_law_244 (by decide) ?_
  have hR2 : r52170.toInt = r52172.toInt ∧ (cx 5).toInt = (my 1).toInt ∧ (cx 4).toInt = ((R 2) 1).toInt ∧ (cx 6).toInt = (my 2).toInt ∧ (cx 3).toInt = (my 3).toInt ∧ (cx 2).toInt = ((R 2) 0).toInt ∧ (cx 7).toInt = ((R 0) 0).toInt ∧ (cx 8).toInt = ((R 0) 1).toInt ∧ (cx 9).toInt = ((R 0) 2).toInt ∧ (cx 10).toInt = ((R 0) 3).toInt ∧ (cx 11).toInt = ((R 1) 0).toInt ∧ (cx 12).toInt = ((R 1) 1).toInt ∧ (cx 13).toInt = ((R 1) 2).toInt ∧ (cx 14).toInt = ((R 1) 3).toInt := by have zr := hR; have zz0 := hr52169.2.2; have zz1 := hr52171.2.2.2; refine ⟨by omega, by omega, by omega, by omega, by omega, by omega, by omega, by omega, by omega, by omega, by omega, by omega, by omega, by omega⟩
  exact tail na nc N  (upd cx 0 r52170) (upd my 0 r52172) R u v _ _ _ _ _ ⟨hcs, ⟨hTX, hTM, hV, hR2⟩, hP, hD, hS, hl⟩
set_option maxHeartbeats 4000000 in
set_option maxRecDepth 100000 in
theorem lc_1 {p : Program} {l : Launch} {e : Env} {s : State} {m : MethodId} {below : List Frame} {meth : Method} {c : Code} {b0 L0 : Nat} {xs : Nat → Int32} {D : va_G} {cI cS : ClassId} {A : Nat → Prop} {H : Heap} {locs : List Loc} {ls : Array Slot} {Q : State → Prop} {a b : Nat → Nat} {na nc N cells slots : Nat} {cx my : Nat → Int32} {R u v : SU} {i : Int32} (hx : p.tables.exec = Jvm.exec) (hb : c.code = cL_law) (hml : c.maxLocals = 4) (hown : s.vm.findClass RL = some m.cls) (hts : ∀ w ∈ wsL_law, w.before #[Value.ref b0] s = true) (hKK : KK D cI cS s) (hAB0 : AB s s.heap) (hA0 : ∀ q : Nat, q < s.heap.size → ¬ A q) (hX : va_X b0 L0 xs s s.heap) (hbl : b0 < s.heap.size) (hbA : ¬ A b0) (hA : ∀ q : Nat, s.heap.size ≤ q → A q) (hL0 : L0 ≤ 3072) (hi0 : 0 ≤ i.toInt) (hi1 : i.toInt + 6 ≤ (L0 : Int)) (hst : ST D cI cS A s a b b0 i na nc N cx my R u v H locs ls cells slots) (tail : ∀ (na nc N : Nat) (cx my : Nat → Int32) (R u v : SU) (H : Heap) (locs : List Loc) (ls : Array Slot) (cells slots : Nat), ST D cI cS A s a b b0 i na nc N cx my R u v H locs ls cells slots → W p l e room_1 s m #[Value.ref b0] below meth c H locs cells slots Q (F0 m 1486 ls [])) : W p l e room_1 s m #[Value.ref b0] below meth c H locs cells slots Q (F0 m 247 ls []) := by
  obtain ⟨hcs, ⟨hTX, hTM, hV, hR⟩, hP, hD, hS, hl⟩ := hst
  have hN := hcs.hN
  have hK := hKK.1
  have hR : (cx 0).toInt = (my 0).toInt ∧ (cx 5).toInt = (my 1).toInt ∧ (cx 4).toInt = ((R 2) 1).toInt ∧ (cx 6).toInt = (my 2).toInt ∧ (cx 3).toInt = (my 3).toInt ∧ (cx 2).toInt = ((R 2) 0).toInt ∧ (cx 7).toInt = ((R 0) 0).toInt ∧ (cx 8).toInt = ((R 0) 1).toInt ∧ (cx 9).toInt = ((R 0) 2).toInt ∧ (cx 10).toInt = ((R 0) 3).toInt ∧ (cx 11).toInt = ((R 1) 0).toInt ∧ (cx 12).toInt = ((R 1) 1).toInt ∧ (cx 13).toInt = ((R 1) 2).toInt ∧ (cx 14).toInt = ((R 1) 3).toInt := hR
  obtain ⟨x1, hx1⟩ : ∃ z, xs (i + 1).toNatClampNeg = z := ⟨_, rfl⟩
  obtain ⟨x2, hx2⟩ : ∃ z, xs (i + 2).toNatClampNeg = z := ⟨_, rfl⟩
  obtain ⟨x3, hx3⟩ : ∃ z, xs (i + 3).toNatClampNeg = z := ⟨_, rfl⟩
  obtain ⟨x4, hx4⟩ : ∃ z, xs (i + 4).toNatClampNeg = z := ⟨_, rfl⟩
  obtain ⟨x5, hx5⟩ : ∃ z, xs (i + 5).toNatClampNeg = z := ⟨_, rfl⟩
  refine lv_aload_n hx hb dL_law_247 rfl (lv_at hl 2 rfl) ?_
  refine lv_aload_n hx hb dL_law_248 rfl (lv_at hl 3 rfl) ?_
  refine lv_iload_n hx hb dL_law_249 rfl (lv_at hl 0 rfl) ?_
  refine lv_iconst (v := 1) hx hb dL_law_250 (by decide) ?_
  refine lv_iadd hx hb dL_law_251 ?_
  refine va_sld hx hb hX hbl hbA hS (lw_vin hi0 hi1 hL0 (by decide)) dL_law_252 ?_
  refine lz_top (y := x1) hx1 ?_
  refine lv_aload_n hx hb dL_law_253 rfl (lv_at hl 3 rfl) ?_
  refine lv_iload_n hx hb dL_law_254 rfl (lv_at hl 0 rfl) ?_
  refine lv_iconst (v := 2) hx hb dL_law_255 (by decide) ?_
  refine lv_iadd hx hb dL_law_256 ?_
  refine va_sld hx hb hX hbl hbA hS (lw_vin hi0 hi1 hL0 (by decide)) dL_law_257 ?_
  refine lz_top (y := x2) hx2 ?_
  refine lv_aload_n hx hb dL_law_258 rfl (lv_at hl 3 rfl) ?_
  refine lv_iload_n hx hb dL_law_259 rfl (lv_at hl 0 rfl) ?_
  refine lv_iconst (v := 3) hx hb dL_law_260 (by decide) ?_
  refine lv_iadd hx hb dL_law_261 ?_
  refine va_sld hx hb hX hbl hbA hS (lw_vin hi0 hi1 hL0 (by decide)) dL_law_262 ?_
  refine lz_top (y := x3) hx3 ?_
  refine lq_X (S := SU) (fna := fun _ => na) (fnc := fun _ => nc) (fN := fun _ => N) (fL := fun _ => (mkL (cx 0) (cx 1) (cx 2) (cx 3) (cx 4) (cx 5) (cx 6) (cx 7) (cx 8) (cx 9) (cx 10) (cx 11) (cx 12) (cx 13) (cx 14))) (fu := fun q => q) (As := [.int x1, .int x2, .int x3]) (rest := []) ⟨hx, hb, hml, hown, hts⟩ (k_X11_line l D cI cS _ a na nc N (mkL (cx 0) (cx 1) (cx 2) (cx 3) (cx 4) (cx 5) (cx 6) (cx 7) (cx 8) (cx 9) (cx 10) (cx 11) (cx 12) (cx 13) (cx 14)) u hTX hN x1 x2 x3 ) hKK hP hD hS hA (cwV 3 hts gL_law_X11_line rfl rfl rfl (by decide +kernel) ⟨Nat.le_of_ble_eq_true rfl, Nat.le_of_ble_eq_true rfl⟩) rfl hl.1 rfl (Nat.le_of_ble_eq_true rfl) dL_law_263 (CSL.hf hcs) (fun r52173 u H locs hr52173 hP hD hS => ?_)
  refine lv_pop hx hb dL_law_266 rfl ?_
  refine lv_aload_n hx hb dL_law_267 rfl (lv_at hl 1 rfl) ?_
  refine lv_aload_n hx hb dL_law_268 rfl (lv_at hl 3 rfl) ?_
  refine lv_iload_n hx hb dL_law_269 rfl (lv_at hl 0 rfl) ?_
  refine lv_iconst (v := 1) hx hb dL_law_270 (by decide) ?_
  refine lv_iadd hx hb dL_law_271 ?_
  refine va_sld hx hb hX hbl hbA hS (lw_vin hi0 hi1 hL0 (by decide)) dL_law_272 ?_
  refine lz_top (y := x1) hx1 ?_
  refine lv_aload_n hx hb dL_law_273 rfl (lv_at hl 3 rfl) ?_
  refine lv_iload_n hx hb dL_law_274 rfl (lv_at hl 0 rfl) ?_
  refine lv_iconst (v := 2) hx hb dL_law_275 (by decide) ?_
  refine lv_iadd hx hb dL_law_276 ?_
  refine va_sld hx hb hX hbl hbA hS (lw_vin hi0 hi1 hL0 (by decide)) dL_law_277 ?_
  refine lz_top (y := x2) hx2 ?_
  refine lv_aload_n hx hb dL_law_278 rfl (lv_at hl 3 rfl) ?_
  refine lv_iload_n hx hb dL_law_279 rfl (lv_at hl 0 rfl) ?_
  refine lv_iconst (v := 3) hx hb dL_law_280 (by decide) ?_
  refine lv_iadd hx hb dL_law_281 ?_
  refine va_sld hx hb hX hbl hbA hS (lw_vin hi0 hi1 hL0 (by decide)) dL_law_282 ?_
  refine lz_top (y := x3) hx3 ?_
  refine lq_M (S := SU) (fL := fun _ => (mkM (my 0) (my 1) (my 2) (my 3) (my 4) (my 5) (my 6) (R 0) (R 1) (R 2))) (fu := fun q => q) (As := [.int x1, .int x2, .int x3]) (rest := []) ⟨hx, hb, hml, hown, hts⟩ (w_X12_line l D cI cS _ b (mkM (my 0) (my 1) (my 2) (my 3) (my 4) (my 5) (my 6) (R 0) (R 1) (R 2)) v hTM hV x1 x2 x3 ) hKK hP hD hS hA (cwV 3 hts gL_law_X12_line rfl rfl rfl (by decide +kernel) ⟨Nat.le_of_ble_eq_true rfl, Nat.le_of_ble_eq_true rfl⟩) rfl hl.1 rfl (Nat.le_of_ble_eq_true rfl) dL_law_283 (CSL.hf hcs) (fun r52174 v H locs hr52174 hP hD hS => ?_)
  have hV := hr52174.1
  refine lv_pop hx hb dL_law_286 rfl ?_
  refine lv_goto (tgt := 1486) hx hb dL_law_287 (by decide) ?_
  exact tail na nc N  cx my R u v _ _ _ _ _ ⟨hcs, ⟨hTX, hTM, hV, hR⟩, hP, hD, hS, hl⟩
set_option maxHeartbeats 4000000 in
set_option maxRecDepth 100000 in
theorem lc_2 {p : Program} {l : Launch} {e : Env} {s : State} {m : MethodId} {below : List Frame} {meth : Method} {c : Code} {b0 L0 : Nat} {xs : Nat → Int32} {D : va_G} {cI cS : ClassId} {A : Nat → Prop} {H : Heap} {locs : List Loc} {ls : Array Slot} {Q : State → Prop} {a b : Nat → Nat} {na nc N cells slots : Nat} {cx my : Nat → Int32} {R u v : SU} {i : Int32} (hx : p.tables.exec = Jvm.exec) (hb : c.code = cL_law) (hml : c.maxLocals = 4) (hown : s.vm.findClass RL = some m.cls) (hts : ∀ w ∈ wsL_law, w.before #[Value.ref b0] s = true) (hKK : KK D cI cS s) (hAB0 : AB s s.heap) (hA0 : ∀ q : Nat, q < s.heap.size → ¬ A q) (hX : va_X b0 L0 xs s s.heap) (hbl : b0 < s.heap.size) (hbA : ¬ A b0) (hA : ∀ q : Nat, s.heap.size ≤ q → A q) (hL0 : L0 ≤ 3072) (hi0 : 0 ≤ i.toInt) (hi1 : i.toInt + 6 ≤ (L0 : Int)) (hst : ST D cI cS A s a b b0 i na nc N cx my R u v H locs ls cells slots) (tail : ∀ (na nc N : Nat) (cx my : Nat → Int32) (R u v : SU) (H : Heap) (locs : List Loc) (ls : Array Slot) (cells slots : Nat), ST D cI cS A s a b b0 i na nc N cx my R u v H locs ls cells slots → W p l e room_1 s m #[Value.ref b0] below meth c H locs cells slots Q (F0 m 1486 ls [])) : W p l e room_1 s m #[Value.ref b0] below meth c H locs cells slots Q (F0 m 290 ls []) := by
  obtain ⟨hcs, ⟨hTX, hTM, hV, hR⟩, hP, hD, hS, hl⟩ := hst
  have hN := hcs.hN
  have hK := hKK.1
  have hR : (cx 0).toInt = (my 0).toInt ∧ (cx 5).toInt = (my 1).toInt ∧ (cx 4).toInt = ((R 2) 1).toInt ∧ (cx 6).toInt = (my 2).toInt ∧ (cx 3).toInt = (my 3).toInt ∧ (cx 2).toInt = ((R 2) 0).toInt ∧ (cx 7).toInt = ((R 0) 0).toInt ∧ (cx 8).toInt = ((R 0) 1).toInt ∧ (cx 9).toInt = ((R 0) 2).toInt ∧ (cx 10).toInt = ((R 0) 3).toInt ∧ (cx 11).toInt = ((R 1) 0).toInt ∧ (cx 12).toInt = ((R 1) 1).toInt ∧ (cx 13).toInt = ((R 1) 2).toInt ∧ (cx 14).toInt = ((R 1) 3).toInt := hR
  obtain ⟨x1, hx1⟩ : ∃ z, xs (i + 1).toNatClampNeg = z := ⟨_, rfl⟩
  obtain ⟨x2, hx2⟩ : ∃ z, xs (i + 2).toNatClampNeg = z := ⟨_, rfl⟩
  obtain ⟨x3, hx3⟩ : ∃ z, xs (i + 3).toNatClampNeg = z := ⟨_, rfl⟩
  obtain ⟨x4, hx4⟩ : ∃ z, xs (i + 4).toNatClampNeg = z := ⟨_, rfl⟩
  obtain ⟨x5, hx5⟩ : ∃ z, xs (i + 5).toNatClampNeg = z := ⟨_, rfl⟩
  refine lv_aload_n hx hb dL_law_290 rfl (lv_at hl 2 rfl) ?_
  refine lv_aload_n hx hb dL_law_291 rfl (lv_at hl 3 rfl) ?_
  refine lv_iload_n hx hb dL_law_292 rfl (lv_at hl 0 rfl) ?_
  refine lv_iconst (v := 1) hx hb dL_law_293 (by decide) ?_
  refine lv_iadd hx hb dL_law_294 ?_
  refine va_sld hx hb hX hbl hbA hS (lw_vin hi0 hi1 hL0 (by decide)) dL_law_295 ?_
  refine lz_top (y := x1) hx1 ?_
  refine lq_SX (As := [.int x1]) (rest := []) ⟨hx, hb, hml, hown, hts⟩ (k_X11_next l D cI cS a na nc N (mkL (cx 0) (cx 1) (cx 2) (cx 3) (cx 4) (cx 5) (cx 6) (cx 7) (cx 8) (cx 9) (cx 10) (cx 11) (cx 12) (cx 13) (cx 14)) u hTX hN x1 ) hKK hP (cwV 1 hts gL_law_X11_next rfl rfl rfl (by decide +kernel) ⟨Nat.le_of_ble_eq_true rfl, Nat.le_of_ble_eq_true rfl⟩) rfl hl.1 rfl (Nat.le_of_ble_eq_true rfl) dL_law_296 (CSL.hf hcs) (fun r52175 hr52175 => ?_)
  refine lv_pop hx hb dL_law_299 rfl ?_
  refine lv_aload_n hx hb dL_law_300 rfl (lv_at hl 1 rfl) ?_
  refine lv_aload_n hx hb dL_law_301 rfl (lv_at hl 3 rfl) ?_
  refine lv_iload_n hx hb dL_law_302 rfl (lv_at hl 0 rfl) ?_
  refine lv_iconst (v := 1) hx hb dL_law_303 (by decide) ?_
  refine lv_iadd hx hb dL_law_304 ?_
  refine va_sld hx hb hX hbl hbA hS (lw_vin hi0 hi1 hL0 (by decide)) dL_law_305 ?_
  refine lz_top (y := x1) hx1 ?_
  refine lq_SM (As := [.int x1]) (rest := []) ⟨hx, hb, hml, hown, hts⟩ (w_X12_next l D cI cS b (mkM (my 0) (my 1) (my 2) (my 3) (my 4) (my 5) (my 6) (R 0) (R 1) (R 2)) v hTM hV x1 ) hKK hP (cwV 1 hts gL_law_X12_next rfl rfl rfl (by decide +kernel) ⟨Nat.le_of_ble_eq_true rfl, Nat.le_of_ble_eq_true rfl⟩) rfl hl.1 rfl (Nat.le_of_ble_eq_true rfl) dL_law_306 (CSL.hf hcs) (fun r52176 hr52176 => ?_)
  refine lv_pop hx hb dL_law_309 rfl ?_
  refine lv_goto (tgt := 1486) hx hb dL_law_310 (by decide) ?_
  exact tail na nc N  cx my R u v _ _ _ _ _ ⟨hcs, ⟨hTX, hTM, hV, hR⟩, hP, hD, hS, hl⟩
set_option maxHeartbeats 4000000 in
set_option maxRecDepth 100000 in
theorem lc_3 {p : Program} {l : Launch} {e : Env} {s : State} {m : MethodId} {below : List Frame} {meth : Method} {c : Code} {b0 L0 : Nat} {xs : Nat → Int32} {D : va_G} {cI cS : ClassId} {A : Nat → Prop} {H : Heap} {locs : List Loc} {ls : Array Slot} {Q : State → Prop} {a b : Nat → Nat} {na nc N cells slots : Nat} {cx my : Nat → Int32} {R u v : SU} {i : Int32} (hx : p.tables.exec = Jvm.exec) (hb : c.code = cL_law) (hml : c.maxLocals = 4) (hown : s.vm.findClass RL = some m.cls) (hts : ∀ w ∈ wsL_law, w.before #[Value.ref b0] s = true) (hKK : KK D cI cS s) (hAB0 : AB s s.heap) (hA0 : ∀ q : Nat, q < s.heap.size → ¬ A q) (hX : va_X b0 L0 xs s s.heap) (hbl : b0 < s.heap.size) (hbA : ¬ A b0) (hA : ∀ q : Nat, s.heap.size ≤ q → A q) (hL0 : L0 ≤ 3072) (hi0 : 0 ≤ i.toInt) (hi1 : i.toInt + 6 ≤ (L0 : Int)) (hst : ST D cI cS A s a b b0 i na nc N cx my R u v H locs ls cells slots) (tail : ∀ (na nc N : Nat) (cx my : Nat → Int32) (R u v : SU) (H : Heap) (locs : List Loc) (ls : Array Slot) (cells slots : Nat), ST D cI cS A s a b b0 i na nc N cx my R u v H locs ls cells slots → W p l e room_1 s m #[Value.ref b0] below meth c H locs cells slots Q (F0 m 1486 ls [])) : W p l e room_1 s m #[Value.ref b0] below meth c H locs cells slots Q (F0 m 313 ls []) := by
  obtain ⟨hcs, ⟨hTX, hTM, hV, hR⟩, hP, hD, hS, hl⟩ := hst
  have hN := hcs.hN
  have hK := hKK.1
  have hR : (cx 0).toInt = (my 0).toInt ∧ (cx 5).toInt = (my 1).toInt ∧ (cx 4).toInt = ((R 2) 1).toInt ∧ (cx 6).toInt = (my 2).toInt ∧ (cx 3).toInt = (my 3).toInt ∧ (cx 2).toInt = ((R 2) 0).toInt ∧ (cx 7).toInt = ((R 0) 0).toInt ∧ (cx 8).toInt = ((R 0) 1).toInt ∧ (cx 9).toInt = ((R 0) 2).toInt ∧ (cx 10).toInt = ((R 0) 3).toInt ∧ (cx 11).toInt = ((R 1) 0).toInt ∧ (cx 12).toInt = ((R 1) 1).toInt ∧ (cx 13).toInt = ((R 1) 2).toInt ∧ (cx 14).toInt = ((R 1) 3).toInt := hR
  obtain ⟨x1, hx1⟩ : ∃ z, xs (i + 1).toNatClampNeg = z := ⟨_, rfl⟩
  obtain ⟨x2, hx2⟩ : ∃ z, xs (i + 2).toNatClampNeg = z := ⟨_, rfl⟩
  obtain ⟨x3, hx3⟩ : ∃ z, xs (i + 3).toNatClampNeg = z := ⟨_, rfl⟩
  obtain ⟨x4, hx4⟩ : ∃ z, xs (i + 4).toNatClampNeg = z := ⟨_, rfl⟩
  obtain ⟨x5, hx5⟩ : ∃ z, xs (i + 5).toNatClampNeg = z := ⟨_, rfl⟩
  refine lv_aload_n hx hb dL_law_313 rfl (lv_at hl 2 rfl) ?_
  refine lv_aload_n hx hb dL_law_314 rfl (lv_at hl 3 rfl) ?_
  refine lv_iload_n hx hb dL_law_315 rfl (lv_at hl 0 rfl) ?_
  refine lv_iconst (v := 1) hx hb dL_law_316 (by decide) ?_
  refine lv_iadd hx hb dL_law_317 ?_
  refine va_sld hx hb hX hbl hbA hS (lw_vin hi0 hi1 hL0 (by decide)) dL_law_318 ?_
  refine lz_top (y := x1) hx1 ?_
  refine lq_X (S := SU) (fna := fun _ => na) (fnc := fun _ => nc) (fN := fun _ => N) (fL := fun _ => (mkL (cx 0) (cx 1) (cx 2) (cx 3) (cx 4) (cx 5) (cx 6) (cx 7) (cx 8) (cx 9) (cx 10) (cx 11) (cx 12) (cx 13) (cx 14))) (fu := fun q => q) (As := [.int x1]) (rest := []) ⟨hx, hb, hml, hown, hts⟩ (k_X11_count l D cI cS _ a na nc N (mkL (cx 0) (cx 1) (cx 2) (cx 3) (cx 4) (cx 5) (cx 6) (cx 7) (cx 8) (cx 9) (cx 10) (cx 11) (cx 12) (cx 13) (cx 14)) u hTX hN x1 ) hKK hP hD hS hA (cwV 1 hts gL_law_X11_count rfl rfl rfl (by decide +kernel) ⟨Nat.le_of_ble_eq_true rfl, Nat.le_of_ble_eq_true rfl⟩) rfl hl.1 rfl (Nat.le_of_ble_eq_true rfl) dL_law_319 (CSL.hf hcs) (fun r52177 u H locs hr52177 hP hD hS => ?_)
  refine lv_pop hx hb dL_law_322 rfl ?_
  refine lv_aload_n hx hb dL_law_323 rfl (lv_at hl 1 rfl) ?_
  refine lv_aload_n hx hb dL_law_324 rfl (lv_at hl 3 rfl) ?_
  refine lv_iload_n hx hb dL_law_325 rfl (lv_at hl 0 rfl) ?_
  refine lv_iconst (v := 1) hx hb dL_law_326 (by decide) ?_
  refine lv_iadd hx hb dL_law_327 ?_
  refine va_sld hx hb hX hbl hbA hS (lw_vin hi0 hi1 hL0 (by decide)) dL_law_328 ?_
  refine lz_top (y := x1) hx1 ?_
  refine lq_M (S := SU) (fL := fun _ => (mkM (my 0) (my 1) (my 2) (my 3) (my 4) (my 5) (my 6) (R 0) (R 1) (R 2))) (fu := fun q => q) (As := [.int x1]) (rest := []) ⟨hx, hb, hml, hown, hts⟩ (w_X12_count l D cI cS _ b (mkM (my 0) (my 1) (my 2) (my 3) (my 4) (my 5) (my 6) (R 0) (R 1) (R 2)) v hTM hV x1 ) hKK hP hD hS hA (cwV 1 hts gL_law_X12_count rfl rfl rfl (by decide +kernel) ⟨Nat.le_of_ble_eq_true rfl, Nat.le_of_ble_eq_true rfl⟩) rfl hl.1 rfl (Nat.le_of_ble_eq_true rfl) dL_law_329 (CSL.hf hcs) (fun r52178 v H locs hr52178 hP hD hS => ?_)
  have hV := hr52178.1
  refine lv_pop hx hb dL_law_332 rfl ?_
  refine lv_goto (tgt := 1486) hx hb dL_law_333 (by decide) ?_
  exact tail na nc N  cx my R u v _ _ _ _ _ ⟨hcs, ⟨hTX, hTM, hV, hR⟩, hP, hD, hS, hl⟩
set_option maxHeartbeats 4000000 in
set_option maxRecDepth 100000 in
theorem lc_4 {p : Program} {l : Launch} {e : Env} {s : State} {m : MethodId} {below : List Frame} {meth : Method} {c : Code} {b0 L0 : Nat} {xs : Nat → Int32} {D : va_G} {cI cS : ClassId} {A : Nat → Prop} {H : Heap} {locs : List Loc} {ls : Array Slot} {Q : State → Prop} {a b : Nat → Nat} {na nc N cells slots : Nat} {cx my : Nat → Int32} {R u v : SU} {i : Int32} (hx : p.tables.exec = Jvm.exec) (hb : c.code = cL_law) (hml : c.maxLocals = 4) (hown : s.vm.findClass RL = some m.cls) (hts : ∀ w ∈ wsL_law, w.before #[Value.ref b0] s = true) (hKK : KK D cI cS s) (hAB0 : AB s s.heap) (hA0 : ∀ q : Nat, q < s.heap.size → ¬ A q) (hX : va_X b0 L0 xs s s.heap) (hbl : b0 < s.heap.size) (hbA : ¬ A b0) (hA : ∀ q : Nat, s.heap.size ≤ q → A q) (hL0 : L0 ≤ 3072) (hi0 : 0 ≤ i.toInt) (hi1 : i.toInt + 6 ≤ (L0 : Int)) (hst : ST D cI cS A s a b b0 i na nc N cx my R u v H locs ls cells slots) (tail : ∀ (na nc N : Nat) (cx my : Nat → Int32) (R u v : SU) (H : Heap) (locs : List Loc) (ls : Array Slot) (cells slots : Nat), ST D cI cS A s a b b0 i na nc N cx my R u v H locs ls cells slots → W p l e room_1 s m #[Value.ref b0] below meth c H locs cells slots Q (F0 m 1486 ls [])) : W p l e room_1 s m #[Value.ref b0] below meth c H locs cells slots Q (F0 m 336 ls []) := by
  obtain ⟨hcs, ⟨hTX, hTM, hV, hR⟩, hP, hD, hS, hl⟩ := hst
  have hN := hcs.hN
  have hK := hKK.1
  have hR : (cx 0).toInt = (my 0).toInt ∧ (cx 5).toInt = (my 1).toInt ∧ (cx 4).toInt = ((R 2) 1).toInt ∧ (cx 6).toInt = (my 2).toInt ∧ (cx 3).toInt = (my 3).toInt ∧ (cx 2).toInt = ((R 2) 0).toInt ∧ (cx 7).toInt = ((R 0) 0).toInt ∧ (cx 8).toInt = ((R 0) 1).toInt ∧ (cx 9).toInt = ((R 0) 2).toInt ∧ (cx 10).toInt = ((R 0) 3).toInt ∧ (cx 11).toInt = ((R 1) 0).toInt ∧ (cx 12).toInt = ((R 1) 1).toInt ∧ (cx 13).toInt = ((R 1) 2).toInt ∧ (cx 14).toInt = ((R 1) 3).toInt := hR
  obtain ⟨x1, hx1⟩ : ∃ z, xs (i + 1).toNatClampNeg = z := ⟨_, rfl⟩
  obtain ⟨x2, hx2⟩ : ∃ z, xs (i + 2).toNatClampNeg = z := ⟨_, rfl⟩
  obtain ⟨x3, hx3⟩ : ∃ z, xs (i + 3).toNatClampNeg = z := ⟨_, rfl⟩
  obtain ⟨x4, hx4⟩ : ∃ z, xs (i + 4).toNatClampNeg = z := ⟨_, rfl⟩
  obtain ⟨x5, hx5⟩ : ∃ z, xs (i + 5).toNatClampNeg = z := ⟨_, rfl⟩
  refine lv_aload_n hx hb dL_law_336 rfl (lv_at hl 2 rfl) ?_
  refine lv_aload_n hx hb dL_law_337 rfl (lv_at hl 3 rfl) ?_
  refine lv_iload_n hx hb dL_law_338 rfl (lv_at hl 0 rfl) ?_
  refine lv_iconst (v := 1) hx hb dL_law_339 (by decide) ?_
  refine lv_iadd hx hb dL_law_340 ?_
  refine va_sld hx hb hX hbl hbA hS (lw_vin hi0 hi1 hL0 (by decide)) dL_law_341 ?_
  refine lz_top (y := x1) hx1 ?_
  refine lq_X (S := SU) (fna := fun _ => na) (fnc := fun _ => nc) (fN := fun _ => N) (fL := fun _ => (mkL (cx 0) (cx 1) (cx 2) (cx 3) (cx 4) (cx 5) (cx 6) (cx 7) (cx 8) (cx 9) (cx 10) (cx 11) (cx 12) (cx 13) (cx 14))) (fu := fun q => q) (As := [.int x1]) (rest := []) ⟨hx, hb, hml, hown, hts⟩ (k_X11_most l D cI cS _ a na nc N (mkL (cx 0) (cx 1) (cx 2) (cx 3) (cx 4) (cx 5) (cx 6) (cx 7) (cx 8) (cx 9) (cx 10) (cx 11) (cx 12) (cx 13) (cx 14)) u hTX hN x1 ) hKK hP hD hS hA (cwV 1 hts gL_law_X11_most rfl rfl rfl (by decide +kernel) ⟨Nat.le_of_ble_eq_true rfl, Nat.le_of_ble_eq_true rfl⟩) rfl hl.1 rfl (Nat.le_of_ble_eq_true rfl) dL_law_342 (CSL.hf hcs) (fun r52179 u H locs hr52179 hP hD hS => ?_)
  refine lv_pop hx hb dL_law_345 rfl ?_
  refine lv_aload_n hx hb dL_law_346 rfl (lv_at hl 1 rfl) ?_
  refine lv_aload_n hx hb dL_law_347 rfl (lv_at hl 3 rfl) ?_
  refine lv_iload_n hx hb dL_law_348 rfl (lv_at hl 0 rfl) ?_
  refine lv_iconst (v := 1) hx hb dL_law_349 (by decide) ?_
  refine lv_iadd hx hb dL_law_350 ?_
  refine va_sld hx hb hX hbl hbA hS (lw_vin hi0 hi1 hL0 (by decide)) dL_law_351 ?_
  refine lz_top (y := x1) hx1 ?_
  refine lq_M (S := SU) (fL := fun _ => (mkM (my 0) (my 1) (my 2) (my 3) (my 4) (my 5) (my 6) (R 0) (R 1) (R 2))) (fu := fun q => q) (As := [.int x1]) (rest := []) ⟨hx, hb, hml, hown, hts⟩ (w_X12_most l D cI cS _ b (mkM (my 0) (my 1) (my 2) (my 3) (my 4) (my 5) (my 6) (R 0) (R 1) (R 2)) v hTM hV x1 ) hKK hP hD hS hA (cwV 1 hts gL_law_X12_most rfl rfl rfl (by decide +kernel) ⟨Nat.le_of_ble_eq_true rfl, Nat.le_of_ble_eq_true rfl⟩) rfl hl.1 rfl (Nat.le_of_ble_eq_true rfl) dL_law_352 (CSL.hf hcs) (fun r52180 v H locs hr52180 hP hD hS => ?_)
  have hV := hr52180.1
  refine lv_pop hx hb dL_law_355 rfl ?_
  refine lv_goto (tgt := 1486) hx hb dL_law_356 (by decide) ?_
  exact tail na nc N  cx my R u v _ _ _ _ _ ⟨hcs, ⟨hTX, hTM, hV, hR⟩, hP, hD, hS, hl⟩
set_option maxHeartbeats 4000000 in
set_option maxRecDepth 100000 in
theorem lc_5 {p : Program} {l : Launch} {e : Env} {s : State} {m : MethodId} {below : List Frame} {meth : Method} {c : Code} {b0 L0 : Nat} {xs : Nat → Int32} {D : va_G} {cI cS : ClassId} {A : Nat → Prop} {H : Heap} {locs : List Loc} {ls : Array Slot} {Q : State → Prop} {a b : Nat → Nat} {na nc N cells slots : Nat} {cx my : Nat → Int32} {R u v : SU} {i : Int32} (hx : p.tables.exec = Jvm.exec) (hb : c.code = cL_law) (hml : c.maxLocals = 4) (hown : s.vm.findClass RL = some m.cls) (hts : ∀ w ∈ wsL_law, w.before #[Value.ref b0] s = true) (hKK : KK D cI cS s) (hAB0 : AB s s.heap) (hA0 : ∀ q : Nat, q < s.heap.size → ¬ A q) (hX : va_X b0 L0 xs s s.heap) (hbl : b0 < s.heap.size) (hbA : ¬ A b0) (hA : ∀ q : Nat, s.heap.size ≤ q → A q) (hL0 : L0 ≤ 3072) (hi0 : 0 ≤ i.toInt) (hi1 : i.toInt + 6 ≤ (L0 : Int)) (hst : ST D cI cS A s a b b0 i na nc N cx my R u v H locs ls cells slots) (tail : ∀ (na nc N : Nat) (cx my : Nat → Int32) (R u v : SU) (H : Heap) (locs : List Loc) (ls : Array Slot) (cells slots : Nat), ST D cI cS A s a b b0 i na nc N cx my R u v H locs ls cells slots → W p l e room_1 s m #[Value.ref b0] below meth c H locs cells slots Q (F0 m 1486 ls [])) : W p l e room_1 s m #[Value.ref b0] below meth c H locs cells slots Q (F0 m 359 ls []) := by
  obtain ⟨hcs, ⟨hTX, hTM, hV, hR⟩, hP, hD, hS, hl⟩ := hst
  have hN := hcs.hN
  have hK := hKK.1
  have hR : (cx 0).toInt = (my 0).toInt ∧ (cx 5).toInt = (my 1).toInt ∧ (cx 4).toInt = ((R 2) 1).toInt ∧ (cx 6).toInt = (my 2).toInt ∧ (cx 3).toInt = (my 3).toInt ∧ (cx 2).toInt = ((R 2) 0).toInt ∧ (cx 7).toInt = ((R 0) 0).toInt ∧ (cx 8).toInt = ((R 0) 1).toInt ∧ (cx 9).toInt = ((R 0) 2).toInt ∧ (cx 10).toInt = ((R 0) 3).toInt ∧ (cx 11).toInt = ((R 1) 0).toInt ∧ (cx 12).toInt = ((R 1) 1).toInt ∧ (cx 13).toInt = ((R 1) 2).toInt ∧ (cx 14).toInt = ((R 1) 3).toInt := hR
  obtain ⟨x1, hx1⟩ : ∃ z, xs (i + 1).toNatClampNeg = z := ⟨_, rfl⟩
  obtain ⟨x2, hx2⟩ : ∃ z, xs (i + 2).toNatClampNeg = z := ⟨_, rfl⟩
  obtain ⟨x3, hx3⟩ : ∃ z, xs (i + 3).toNatClampNeg = z := ⟨_, rfl⟩
  obtain ⟨x4, hx4⟩ : ∃ z, xs (i + 4).toNatClampNeg = z := ⟨_, rfl⟩
  obtain ⟨x5, hx5⟩ : ∃ z, xs (i + 5).toNatClampNeg = z := ⟨_, rfl⟩
  refine lv_aload_n hx hb dL_law_359 rfl (lv_at hl 2 rfl) ?_
  refine lv_aload_n hx hb dL_law_360 rfl (lv_at hl 3 rfl) ?_
  refine lv_iload_n hx hb dL_law_361 rfl (lv_at hl 0 rfl) ?_
  refine lv_iconst (v := 1) hx hb dL_law_362 (by decide) ?_
  refine lv_iadd hx hb dL_law_363 ?_
  refine va_sld hx hb hX hbl hbA hS (lw_vin hi0 hi1 hL0 (by decide)) dL_law_364 ?_
  refine lz_top (y := x1) hx1 ?_
  refine lq_X (S := SU) (fna := fun _ => na) (fnc := fun _ => nc) (fN := fun _ => N) (fL := fun _ => (mkL (cx 0) (cx 1) (cx 2) (cx 3) (cx 4) (cx 5) (cx 6) (cx 7) (cx 8) (cx 9) (cx 10) (cx 11) (cx 12) (cx 13) (cx 14))) (fu := fun q => q) (As := [.int x1]) (rest := []) ⟨hx, hb, hml, hown, hts⟩ (k_X11_mate l D cI cS _ a na nc N (mkL (cx 0) (cx 1) (cx 2) (cx 3) (cx 4) (cx 5) (cx 6) (cx 7) (cx 8) (cx 9) (cx 10) (cx 11) (cx 12) (cx 13) (cx 14)) u hTX hN x1 ) hKK hP hD hS hA (cwV 1 hts gL_law_X11_mate rfl rfl rfl (by decide +kernel) ⟨Nat.le_of_ble_eq_true rfl, Nat.le_of_ble_eq_true rfl⟩) rfl hl.1 rfl (Nat.le_of_ble_eq_true rfl) dL_law_365 (CSL.hf hcs) (fun r52181 u H locs hr52181 hP hD hS => ?_)
  refine lv_pop hx hb dL_law_368 rfl ?_
  refine lv_aload_n hx hb dL_law_369 rfl (lv_at hl 1 rfl) ?_
  refine lv_aload_n hx hb dL_law_370 rfl (lv_at hl 3 rfl) ?_
  refine lv_iload_n hx hb dL_law_371 rfl (lv_at hl 0 rfl) ?_
  refine lv_iconst (v := 1) hx hb dL_law_372 (by decide) ?_
  refine lv_iadd hx hb dL_law_373 ?_
  refine va_sld hx hb hX hbl hbA hS (lw_vin hi0 hi1 hL0 (by decide)) dL_law_374 ?_
  refine lz_top (y := x1) hx1 ?_
  refine lq_M (S := SU) (fL := fun _ => (mkM (my 0) (my 1) (my 2) (my 3) (my 4) (my 5) (my 6) (R 0) (R 1) (R 2))) (fu := fun q => q) (As := [.int x1]) (rest := []) ⟨hx, hb, hml, hown, hts⟩ (w_X12_mate l D cI cS _ b (mkM (my 0) (my 1) (my 2) (my 3) (my 4) (my 5) (my 6) (R 0) (R 1) (R 2)) v hTM hV x1 ) hKK hP hD hS hA (cwV 1 hts gL_law_X12_mate rfl rfl rfl (by decide +kernel) ⟨Nat.le_of_ble_eq_true rfl, Nat.le_of_ble_eq_true rfl⟩) rfl hl.1 rfl (Nat.le_of_ble_eq_true rfl) dL_law_375 (CSL.hf hcs) (fun r52182 v H locs hr52182 hP hD hS => ?_)
  have hV := hr52182.1
  refine lv_pop hx hb dL_law_378 rfl ?_
  refine lv_goto (tgt := 1486) hx hb dL_law_379 (by decide) ?_
  exact tail na nc N  cx my R u v _ _ _ _ _ ⟨hcs, ⟨hTX, hTM, hV, hR⟩, hP, hD, hS, hl⟩
set_option maxHeartbeats 4000000 in
set_option maxRecDepth 100000 in
theorem lc_6 {p : Program} {l : Launch} {e : Env} {s : State} {m : MethodId} {below : List Frame} {meth : Method} {c : Code} {b0 L0 : Nat} {xs : Nat → Int32} {D : va_G} {cI cS : ClassId} {A : Nat → Prop} {H : Heap} {locs : List Loc} {ls : Array Slot} {Q : State → Prop} {a b : Nat → Nat} {na nc N cells slots : Nat} {cx my : Nat → Int32} {R u v : SU} {i : Int32} (hx : p.tables.exec = Jvm.exec) (hb : c.code = cL_law) (hml : c.maxLocals = 4) (hown : s.vm.findClass RL = some m.cls) (hts : ∀ w ∈ wsL_law, w.before #[Value.ref b0] s = true) (hKK : KK D cI cS s) (hAB0 : AB s s.heap) (hA0 : ∀ q : Nat, q < s.heap.size → ¬ A q) (hX : va_X b0 L0 xs s s.heap) (hbl : b0 < s.heap.size) (hbA : ¬ A b0) (hA : ∀ q : Nat, s.heap.size ≤ q → A q) (hL0 : L0 ≤ 3072) (hi0 : 0 ≤ i.toInt) (hi1 : i.toInt + 6 ≤ (L0 : Int)) (hst : ST D cI cS A s a b b0 i na nc N cx my R u v H locs ls cells slots) (tail : ∀ (na nc N : Nat) (cx my : Nat → Int32) (R u v : SU) (H : Heap) (locs : List Loc) (ls : Array Slot) (cells slots : Nat), ST D cI cS A s a b b0 i na nc N cx my R u v H locs ls cells slots → W p l e room_1 s m #[Value.ref b0] below meth c H locs cells slots Q (F0 m 1486 ls [])) : W p l e room_1 s m #[Value.ref b0] below meth c H locs cells slots Q (F0 m 382 ls []) := by
  obtain ⟨hcs, ⟨hTX, hTM, hV, hR⟩, hP, hD, hS, hl⟩ := hst
  have hN := hcs.hN
  have hK := hKK.1
  have hR : (cx 0).toInt = (my 0).toInt ∧ (cx 5).toInt = (my 1).toInt ∧ (cx 4).toInt = ((R 2) 1).toInt ∧ (cx 6).toInt = (my 2).toInt ∧ (cx 3).toInt = (my 3).toInt ∧ (cx 2).toInt = ((R 2) 0).toInt ∧ (cx 7).toInt = ((R 0) 0).toInt ∧ (cx 8).toInt = ((R 0) 1).toInt ∧ (cx 9).toInt = ((R 0) 2).toInt ∧ (cx 10).toInt = ((R 0) 3).toInt ∧ (cx 11).toInt = ((R 1) 0).toInt ∧ (cx 12).toInt = ((R 1) 1).toInt ∧ (cx 13).toInt = ((R 1) 2).toInt ∧ (cx 14).toInt = ((R 1) 3).toInt := hR
  obtain ⟨x1, hx1⟩ : ∃ z, xs (i + 1).toNatClampNeg = z := ⟨_, rfl⟩
  obtain ⟨x2, hx2⟩ : ∃ z, xs (i + 2).toNatClampNeg = z := ⟨_, rfl⟩
  obtain ⟨x3, hx3⟩ : ∃ z, xs (i + 3).toNatClampNeg = z := ⟨_, rfl⟩
  obtain ⟨x4, hx4⟩ : ∃ z, xs (i + 4).toNatClampNeg = z := ⟨_, rfl⟩
  obtain ⟨x5, hx5⟩ : ∃ z, xs (i + 5).toNatClampNeg = z := ⟨_, rfl⟩
  refine lv_aload_n hx hb dL_law_382 rfl (lv_at hl 2 rfl) ?_
  refine lv_aload_n hx hb dL_law_383 rfl (lv_at hl 3 rfl) ?_
  refine lv_iload_n hx hb dL_law_384 rfl (lv_at hl 0 rfl) ?_
  refine lv_iconst (v := 1) hx hb dL_law_385 (by decide) ?_
  refine lv_iadd hx hb dL_law_386 ?_
  refine va_sld hx hb hX hbl hbA hS (lw_vin hi0 hi1 hL0 (by decide)) dL_law_387 ?_
  refine lz_top (y := x1) hx1 ?_
  by_cases q1 : x1.toInt < 0
  · refine lq_SX (As := [.int x1]) (rest := []) ⟨hx, hb, hml, hown, hts⟩ (k_X11_ways_b1 l D cI cS a na nc N (mkL (cx 0) (cx 1) (cx 2) (cx 3) (cx 4) (cx 5) (cx 6) (cx 7) (cx 8) (cx 9) (cx 10) (cx 11) (cx 12) (cx 13) (cx 14)) u hTX hN x1 (show Rg (-2147483648) (-1) x1 from ⟨(rg_any x1).1, by omega⟩)) hKK hP (cwV 1 hts gL_law_X11_ways rfl rfl rfl (by decide +kernel) ⟨Nat.le_of_ble_eq_true rfl, Nat.le_of_ble_eq_true rfl⟩) rfl hl.1 rfl (Nat.le_of_ble_eq_true rfl) dL_law_388 (CSL.hf hcs) (fun r52183 hr52183 => ?_)
    refine lv_pop hx hb dL_law_391 rfl ?_
    refine lv_aload_n hx hb dL_law_392 rfl (lv_at hl 1 rfl) ?_
    refine lv_aload_n hx hb dL_law_393 rfl (lv_at hl 3 rfl) ?_
    refine lv_iload_n hx hb dL_law_394 rfl (lv_at hl 0 rfl) ?_
    refine lv_iconst (v := 1) hx hb dL_law_395 (by decide) ?_
    refine lv_iadd hx hb dL_law_396 ?_
    refine va_sld hx hb hX hbl hbA hS (lw_vin hi0 hi1 hL0 (by decide)) dL_law_397 ?_
    refine lz_top (y := x1) hx1 ?_
    refine lq_M (S := SU) (fL := fun _ => (mkM (my 0) (my 1) (my 2) (my 3) (my 4) (my 5) (my 6) (R 0) (R 1) (R 2))) (fu := fun q => q) (As := [.int x1]) (rest := []) ⟨hx, hb, hml, hown, hts⟩ (w_X12_ways l D cI cS _ b (mkM (my 0) (my 1) (my 2) (my 3) (my 4) (my 5) (my 6) (R 0) (R 1) (R 2)) v hTM hV x1 ) hKK hP hD hS hA (cwV 1 hts gL_law_X12_ways rfl rfl rfl (by decide +kernel) ⟨Nat.le_of_ble_eq_true rfl, Nat.le_of_ble_eq_true rfl⟩) rfl hl.1 rfl (Nat.le_of_ble_eq_true rfl) dL_law_398 (CSL.hf hcs) (fun r52184 v H locs hr52184 hP hD hS => ?_)
    have hV := hr52184.1
    refine lv_pop hx hb dL_law_401 rfl ?_
    refine lv_goto (tgt := 1486) hx hb dL_law_402 (by decide) ?_
    exact tail na nc N  cx my R u v _ _ _ _ _ ⟨hcs, ⟨hTX, hTM, hV, hR⟩, hP, hD, hS, hl⟩
  by_cases q2 : 6 < x1.toInt
  · refine lq_SX (As := [.int x1]) (rest := []) ⟨hx, hb, hml, hown, hts⟩ (k_X11_ways_b2 l D cI cS a na nc N (mkL (cx 0) (cx 1) (cx 2) (cx 3) (cx 4) (cx 5) (cx 6) (cx 7) (cx 8) (cx 9) (cx 10) (cx 11) (cx 12) (cx 13) (cx 14)) u hTX hN x1 (show Rg 7 2147483647 x1 from ⟨by omega, (rg_any x1).2⟩)) hKK hP (cwV 1 hts gL_law_X11_ways rfl rfl rfl (by decide +kernel) ⟨Nat.le_of_ble_eq_true rfl, Nat.le_of_ble_eq_true rfl⟩) rfl hl.1 rfl (Nat.le_of_ble_eq_true rfl) dL_law_388 (CSL.hf hcs) (fun r52185 hr52185 => ?_)
    refine lv_pop hx hb dL_law_391 rfl ?_
    refine lv_aload_n hx hb dL_law_392 rfl (lv_at hl 1 rfl) ?_
    refine lv_aload_n hx hb dL_law_393 rfl (lv_at hl 3 rfl) ?_
    refine lv_iload_n hx hb dL_law_394 rfl (lv_at hl 0 rfl) ?_
    refine lv_iconst (v := 1) hx hb dL_law_395 (by decide) ?_
    refine lv_iadd hx hb dL_law_396 ?_
    refine va_sld hx hb hX hbl hbA hS (lw_vin hi0 hi1 hL0 (by decide)) dL_law_397 ?_
    refine lz_top (y := x1) hx1 ?_
    refine lq_M (S := SU) (fL := fun _ => (mkM (my 0) (my 1) (my 2) (my 3) (my 4) (my 5) (my 6) (R 0) (R 1) (R 2))) (fu := fun q => q) (As := [.int x1]) (rest := []) ⟨hx, hb, hml, hown, hts⟩ (w_X12_ways l D cI cS _ b (mkM (my 0) (my 1) (my 2) (my 3) (my 4) (my 5) (my 6) (R 0) (R 1) (R 2)) v hTM hV x1 ) hKK hP hD hS hA (cwV 1 hts gL_law_X12_ways rfl rfl rfl (by decide +kernel) ⟨Nat.le_of_ble_eq_true rfl, Nat.le_of_ble_eq_true rfl⟩) rfl hl.1 rfl (Nat.le_of_ble_eq_true rfl) dL_law_398 (CSL.hf hcs) (fun r52186 v H locs hr52186 hP hD hS => ?_)
    have hV := hr52186.1
    refine lv_pop hx hb dL_law_401 rfl ?_
    refine lv_goto (tgt := 1486) hx hb dL_law_402 (by decide) ?_
    exact tail na nc N  cx my R u v _ _ _ _ _ ⟨hcs, ⟨hTX, hTM, hV, hR⟩, hP, hD, hS, hl⟩
  have q3 : Rg 0 6 x1 := ⟨by omega, by omega⟩
  rcases hcs with ⟨rfl, rfl, rfl⟩ | ⟨rfl, rfl, rfl⟩
  · refine lq_X (S := Nat × Nat × SU) (fna := fun q => q.1) (fnc := fun q => q.2.1) (fN := fun _ => 24576) (fL := fun _ => (mkL (cx 0) (cx 1) (cx 2) (cx 3) (cx 4) (cx 5) (cx 6) (cx 7) (cx 8) (cx 9) (cx 10) (cx 11) (cx 12) (cx 13) (cx 14))) (fu := fun q => q.2.2) (As := [.int x1]) (rest := []) ⟨hx, hb, hml, hown, hts⟩ (k_X11_ways_0 l D cI cS _ a na nc (mkL (cx 0) (cx 1) (cx 2) (cx 3) (cx 4) (cx 5) (cx 6) (cx 7) (cx 8) (cx 9) (cx 10) (cx 11) (cx 12) (cx 13) (cx 14)) u hTX x1 (q3)) hKK hP hD hS hA (cwV 1 hts gL_law_X11_ways rfl rfl rfl (by decide +kernel) ⟨Nat.le_of_ble_eq_true rfl, Nat.le_of_ble_eq_true rfl⟩) rfl hl.1 rfl (Nat.le_of_ble_eq_true rfl) dL_law_388 ⟨Nat.le_of_ble_eq_true rfl, Nat.le_of_ble_eq_true rfl⟩ (fun r52187 q9 H locs hr52187 hP hD hS => ?_)
    obtain ⟨na, nc, u⟩ := q9
    refine lv_pop hx hb dL_law_391 rfl ?_
    refine lv_aload_n hx hb dL_law_392 rfl (lv_at hl 1 rfl) ?_
    refine lv_aload_n hx hb dL_law_393 rfl (lv_at hl 3 rfl) ?_
    refine lv_iload_n hx hb dL_law_394 rfl (lv_at hl 0 rfl) ?_
    refine lv_iconst (v := 1) hx hb dL_law_395 (by decide) ?_
    refine lv_iadd hx hb dL_law_396 ?_
    refine va_sld hx hb hX hbl hbA hS (lw_vin hi0 hi1 hL0 (by decide)) dL_law_397 ?_
    refine lz_top (y := x1) hx1 ?_
    refine lq_M (S := SU) (fL := fun _ => (mkM (my 0) (my 1) (my 2) (my 3) (my 4) (my 5) (my 6) (R 0) (R 1) (R 2))) (fu := fun q => q) (As := [.int x1]) (rest := []) ⟨hx, hb, hml, hown, hts⟩ (w_X12_ways l D cI cS _ b (mkM (my 0) (my 1) (my 2) (my 3) (my 4) (my 5) (my 6) (R 0) (R 1) (R 2)) v hTM hV x1 ) hKK hP hD hS hA (cwV 1 hts gL_law_X12_ways rfl rfl rfl (by decide +kernel) ⟨Nat.le_of_ble_eq_true rfl, Nat.le_of_ble_eq_true rfl⟩) rfl hl.1 rfl (Nat.le_of_ble_eq_true rfl) dL_law_398 (CSL.hf (show CSL 24576 2002 124578 from Or.inr ⟨rfl, rfl, rfl⟩)) (fun r52188 v H locs hr52188 hP hD hS => ?_)
    have hV := hr52188.1
    refine lv_pop hx hb dL_law_401 rfl ?_
    refine lv_goto (tgt := 1486) hx hb dL_law_402 (by decide) ?_
    exact tail na nc 24576  cx my R u v _ _ _ _ _ ⟨(show CSL 24576 2002 124578 from Or.inr ⟨rfl, rfl, rfl⟩), ⟨hTX, hTM, hV, hR⟩, hP, hD, hS, hl⟩
  · refine lq_X (S := SU) (fna := fun _ => na) (fnc := fun _ => nc) (fN := fun _ => 24576) (fL := fun _ => (mkL (cx 0) (cx 1) (cx 2) (cx 3) (cx 4) (cx 5) (cx 6) (cx 7) (cx 8) (cx 9) (cx 10) (cx 11) (cx 12) (cx 13) (cx 14))) (fu := fun q => q) (As := [.int x1]) (rest := []) ⟨hx, hb, hml, hown, hts⟩ (k_X11_ways_1 l D cI cS _ a na nc (mkL (cx 0) (cx 1) (cx 2) (cx 3) (cx 4) (cx 5) (cx 6) (cx 7) (cx 8) (cx 9) (cx 10) (cx 11) (cx 12) (cx 13) (cx 14)) u hTX x1 (q3)) hKK hP hD hS hA (cwV 1 hts gL_law_X11_ways rfl rfl rfl (by decide +kernel) ⟨Nat.le_of_ble_eq_true rfl, Nat.le_of_ble_eq_true rfl⟩) rfl hl.1 rfl (Nat.le_of_ble_eq_true rfl) dL_law_388 (CSL.hf (show CSL 24576 2002 124578 from Or.inr ⟨rfl, rfl, rfl⟩)) (fun r52189 u H locs hr52189 hP hD hS => ?_)
    refine lv_pop hx hb dL_law_391 rfl ?_
    refine lv_aload_n hx hb dL_law_392 rfl (lv_at hl 1 rfl) ?_
    refine lv_aload_n hx hb dL_law_393 rfl (lv_at hl 3 rfl) ?_
    refine lv_iload_n hx hb dL_law_394 rfl (lv_at hl 0 rfl) ?_
    refine lv_iconst (v := 1) hx hb dL_law_395 (by decide) ?_
    refine lv_iadd hx hb dL_law_396 ?_
    refine va_sld hx hb hX hbl hbA hS (lw_vin hi0 hi1 hL0 (by decide)) dL_law_397 ?_
    refine lz_top (y := x1) hx1 ?_
    refine lq_M (S := SU) (fL := fun _ => (mkM (my 0) (my 1) (my 2) (my 3) (my 4) (my 5) (my 6) (R 0) (R 1) (R 2))) (fu := fun q => q) (As := [.int x1]) (rest := []) ⟨hx, hb, hml, hown, hts⟩ (w_X12_ways l D cI cS _ b (mkM (my 0) (my 1) (my 2) (my 3) (my 4) (my 5) (my 6) (R 0) (R 1) (R 2)) v hTM hV x1 ) hKK hP hD hS hA (cwV 1 hts gL_law_X12_ways rfl rfl rfl (by decide +kernel) ⟨Nat.le_of_ble_eq_true rfl, Nat.le_of_ble_eq_true rfl⟩) rfl hl.1 rfl (Nat.le_of_ble_eq_true rfl) dL_law_398 (CSL.hf (show CSL 24576 2002 124578 from Or.inr ⟨rfl, rfl, rfl⟩)) (fun r52190 v H locs hr52190 hP hD hS => ?_)
    have hV := hr52190.1
    refine lv_pop hx hb dL_law_401 rfl ?_
    refine lv_goto (tgt := 1486) hx hb dL_law_402 (by decide) ?_
    exact tail na nc 24576  cx my R u v _ _ _ _ _ ⟨(show CSL 24576 2002 124578 from Or.inr ⟨rfl, rfl, rfl⟩), ⟨hTX, hTM, hV, hR⟩, hP, hD, hS, hl⟩
set_option maxHeartbeats 4000000 in
set_option maxRecDepth 100000 in
theorem lc_7 {p : Program} {l : Launch} {e : Env} {s : State} {m : MethodId} {below : List Frame} {meth : Method} {c : Code} {b0 L0 : Nat} {xs : Nat → Int32} {D : va_G} {cI cS : ClassId} {A : Nat → Prop} {H : Heap} {locs : List Loc} {ls : Array Slot} {Q : State → Prop} {a b : Nat → Nat} {na nc N cells slots : Nat} {cx my : Nat → Int32} {R u v : SU} {i : Int32} (hx : p.tables.exec = Jvm.exec) (hb : c.code = cL_law) (hml : c.maxLocals = 4) (hown : s.vm.findClass RL = some m.cls) (hts : ∀ w ∈ wsL_law, w.before #[Value.ref b0] s = true) (hKK : KK D cI cS s) (hAB0 : AB s s.heap) (hA0 : ∀ q : Nat, q < s.heap.size → ¬ A q) (hX : va_X b0 L0 xs s s.heap) (hbl : b0 < s.heap.size) (hbA : ¬ A b0) (hA : ∀ q : Nat, s.heap.size ≤ q → A q) (hL0 : L0 ≤ 3072) (hi0 : 0 ≤ i.toInt) (hi1 : i.toInt + 6 ≤ (L0 : Int)) (hst : ST D cI cS A s a b b0 i na nc N cx my R u v H locs ls cells slots) (tail : ∀ (na nc N : Nat) (cx my : Nat → Int32) (R u v : SU) (H : Heap) (locs : List Loc) (ls : Array Slot) (cells slots : Nat), ST D cI cS A s a b b0 i na nc N cx my R u v H locs ls cells slots → W p l e room_1 s m #[Value.ref b0] below meth c H locs cells slots Q (F0 m 1486 ls [])) : W p l e room_1 s m #[Value.ref b0] below meth c H locs cells slots Q (F0 m 405 ls []) := by
  obtain ⟨hcs, ⟨hTX, hTM, hV, hR⟩, hP, hD, hS, hl⟩ := hst
  have hN := hcs.hN
  have hK := hKK.1
  have hR : (cx 0).toInt = (my 0).toInt ∧ (cx 5).toInt = (my 1).toInt ∧ (cx 4).toInt = ((R 2) 1).toInt ∧ (cx 6).toInt = (my 2).toInt ∧ (cx 3).toInt = (my 3).toInt ∧ (cx 2).toInt = ((R 2) 0).toInt ∧ (cx 7).toInt = ((R 0) 0).toInt ∧ (cx 8).toInt = ((R 0) 1).toInt ∧ (cx 9).toInt = ((R 0) 2).toInt ∧ (cx 10).toInt = ((R 0) 3).toInt ∧ (cx 11).toInt = ((R 1) 0).toInt ∧ (cx 12).toInt = ((R 1) 1).toInt ∧ (cx 13).toInt = ((R 1) 2).toInt ∧ (cx 14).toInt = ((R 1) 3).toInt := hR
  obtain ⟨x1, hx1⟩ : ∃ z, xs (i + 1).toNatClampNeg = z := ⟨_, rfl⟩
  obtain ⟨x2, hx2⟩ : ∃ z, xs (i + 2).toNatClampNeg = z := ⟨_, rfl⟩
  obtain ⟨x3, hx3⟩ : ∃ z, xs (i + 3).toNatClampNeg = z := ⟨_, rfl⟩
  obtain ⟨x4, hx4⟩ : ∃ z, xs (i + 4).toNatClampNeg = z := ⟨_, rfl⟩
  obtain ⟨x5, hx5⟩ : ∃ z, xs (i + 5).toNatClampNeg = z := ⟨_, rfl⟩
  refine lv_aload_n hx hb dL_law_405 rfl (lv_at hl 2 rfl) ?_
  refine lv_aload_n hx hb dL_law_406 rfl (lv_at hl 3 rfl) ?_
  refine lv_iload_n hx hb dL_law_407 rfl (lv_at hl 0 rfl) ?_
  refine lv_iconst (v := 1) hx hb dL_law_408 (by decide) ?_
  refine lv_iadd hx hb dL_law_409 ?_
  refine va_sld hx hb hX hbl hbA hS (lw_vin hi0 hi1 hL0 (by decide)) dL_law_410 ?_
  refine lz_top (y := x1) hx1 ?_
  refine lv_aload_n hx hb dL_law_411 rfl (lv_at hl 3 rfl) ?_
  refine lv_iload_n hx hb dL_law_412 rfl (lv_at hl 0 rfl) ?_
  refine lv_iconst (v := 2) hx hb dL_law_413 (by decide) ?_
  refine lv_iadd hx hb dL_law_414 ?_
  refine va_sld hx hb hX hbl hbA hS (lw_vin hi0 hi1 hL0 (by decide)) dL_law_415 ?_
  refine lz_top (y := x2) hx2 ?_
  by_cases q1 : x2.toInt < 0
  · refine lq_SX (As := [.int x1, .int x2]) (rest := []) ⟨hx, hb, hml, hown, hts⟩ (k_X11_alone_b1 l D cI cS a na nc N (mkL (cx 0) (cx 1) (cx 2) (cx 3) (cx 4) (cx 5) (cx 6) (cx 7) (cx 8) (cx 9) (cx 10) (cx 11) (cx 12) (cx 13) (cx 14)) u hTX hN x1 x2 (show Rg (-2147483648) (-1) x2 from ⟨(rg_any x2).1, by omega⟩)) hKK hP (cwV 2 hts gL_law_X11_alone rfl rfl rfl (by decide +kernel) ⟨Nat.le_of_ble_eq_true rfl, Nat.le_of_ble_eq_true rfl⟩) rfl hl.1 rfl (Nat.le_of_ble_eq_true rfl) dL_law_416 (CSL.hf hcs) (fun r52191 hr52191 => ?_)
    refine lv_pop hx hb dL_law_419 rfl ?_
    refine lv_aload_n hx hb dL_law_420 rfl (lv_at hl 1 rfl) ?_
    refine lv_aload_n hx hb dL_law_421 rfl (lv_at hl 3 rfl) ?_
    refine lv_iload_n hx hb dL_law_422 rfl (lv_at hl 0 rfl) ?_
    refine lv_iconst (v := 1) hx hb dL_law_423 (by decide) ?_
    refine lv_iadd hx hb dL_law_424 ?_
    refine va_sld hx hb hX hbl hbA hS (lw_vin hi0 hi1 hL0 (by decide)) dL_law_425 ?_
    refine lz_top (y := x1) hx1 ?_
    refine lv_aload_n hx hb dL_law_426 rfl (lv_at hl 3 rfl) ?_
    refine lv_iload_n hx hb dL_law_427 rfl (lv_at hl 0 rfl) ?_
    refine lv_iconst (v := 2) hx hb dL_law_428 (by decide) ?_
    refine lv_iadd hx hb dL_law_429 ?_
    refine va_sld hx hb hX hbl hbA hS (lw_vin hi0 hi1 hL0 (by decide)) dL_law_430 ?_
    refine lz_top (y := x2) hx2 ?_
    refine lq_M (S := SU) (fL := fun _ => (mkM (my 0) (my 1) (my 2) (my 3) (my 4) (my 5) (my 6) (R 0) (R 1) (R 2))) (fu := fun q => q) (As := [.int x1, .int x2]) (rest := []) ⟨hx, hb, hml, hown, hts⟩ (w_X12_alone l D cI cS _ b (mkM (my 0) (my 1) (my 2) (my 3) (my 4) (my 5) (my 6) (R 0) (R 1) (R 2)) v hTM hV x1 x2 ) hKK hP hD hS hA (cwV 2 hts gL_law_X12_alone rfl rfl rfl (by decide +kernel) ⟨Nat.le_of_ble_eq_true rfl, Nat.le_of_ble_eq_true rfl⟩) rfl hl.1 rfl (Nat.le_of_ble_eq_true rfl) dL_law_431 (CSL.hf hcs) (fun r52192 v H locs hr52192 hP hD hS => ?_)
    have hV := hr52192.1
    refine lv_pop hx hb dL_law_434 rfl ?_
    refine lv_goto (tgt := 1486) hx hb dL_law_435 (by decide) ?_
    exact tail na nc N  cx my R u v _ _ _ _ _ ⟨hcs, ⟨hTX, hTM, hV, hR⟩, hP, hD, hS, hl⟩
  by_cases q2 : 1 < x2.toInt
  · refine lq_SX (As := [.int x1, .int x2]) (rest := []) ⟨hx, hb, hml, hown, hts⟩ (k_X11_alone_b2 l D cI cS a na nc N (mkL (cx 0) (cx 1) (cx 2) (cx 3) (cx 4) (cx 5) (cx 6) (cx 7) (cx 8) (cx 9) (cx 10) (cx 11) (cx 12) (cx 13) (cx 14)) u hTX hN x1 x2 (show Rg 2 2147483647 x2 from ⟨by omega, (rg_any x2).2⟩)) hKK hP (cwV 2 hts gL_law_X11_alone rfl rfl rfl (by decide +kernel) ⟨Nat.le_of_ble_eq_true rfl, Nat.le_of_ble_eq_true rfl⟩) rfl hl.1 rfl (Nat.le_of_ble_eq_true rfl) dL_law_416 (CSL.hf hcs) (fun r52193 hr52193 => ?_)
    refine lv_pop hx hb dL_law_419 rfl ?_
    refine lv_aload_n hx hb dL_law_420 rfl (lv_at hl 1 rfl) ?_
    refine lv_aload_n hx hb dL_law_421 rfl (lv_at hl 3 rfl) ?_
    refine lv_iload_n hx hb dL_law_422 rfl (lv_at hl 0 rfl) ?_
    refine lv_iconst (v := 1) hx hb dL_law_423 (by decide) ?_
    refine lv_iadd hx hb dL_law_424 ?_
    refine va_sld hx hb hX hbl hbA hS (lw_vin hi0 hi1 hL0 (by decide)) dL_law_425 ?_
    refine lz_top (y := x1) hx1 ?_
    refine lv_aload_n hx hb dL_law_426 rfl (lv_at hl 3 rfl) ?_
    refine lv_iload_n hx hb dL_law_427 rfl (lv_at hl 0 rfl) ?_
    refine lv_iconst (v := 2) hx hb dL_law_428 (by decide) ?_
    refine lv_iadd hx hb dL_law_429 ?_
    refine va_sld hx hb hX hbl hbA hS (lw_vin hi0 hi1 hL0 (by decide)) dL_law_430 ?_
    refine lz_top (y := x2) hx2 ?_
    refine lq_M (S := SU) (fL := fun _ => (mkM (my 0) (my 1) (my 2) (my 3) (my 4) (my 5) (my 6) (R 0) (R 1) (R 2))) (fu := fun q => q) (As := [.int x1, .int x2]) (rest := []) ⟨hx, hb, hml, hown, hts⟩ (w_X12_alone l D cI cS _ b (mkM (my 0) (my 1) (my 2) (my 3) (my 4) (my 5) (my 6) (R 0) (R 1) (R 2)) v hTM hV x1 x2 ) hKK hP hD hS hA (cwV 2 hts gL_law_X12_alone rfl rfl rfl (by decide +kernel) ⟨Nat.le_of_ble_eq_true rfl, Nat.le_of_ble_eq_true rfl⟩) rfl hl.1 rfl (Nat.le_of_ble_eq_true rfl) dL_law_431 (CSL.hf hcs) (fun r52194 v H locs hr52194 hP hD hS => ?_)
    have hV := hr52194.1
    refine lv_pop hx hb dL_law_434 rfl ?_
    refine lv_goto (tgt := 1486) hx hb dL_law_435 (by decide) ?_
    exact tail na nc N  cx my R u v _ _ _ _ _ ⟨hcs, ⟨hTX, hTM, hV, hR⟩, hP, hD, hS, hl⟩
  have q3 : Rg 0 1 x2 := ⟨by omega, by omega⟩
  by_cases q4 : 0 ≤ x1.toInt ∧ x1.toInt < (cx 0).toInt
  · rcases hcs with ⟨rfl, rfl, rfl⟩ | ⟨rfl, rfl, rfl⟩
    · refine lq_X (S := Nat × Nat × SU) (fna := fun q => q.1) (fnc := fun q => q.2.1) (fN := fun _ => 24576) (fL := fun _ => (mkL (cx 0) (cx 1) (cx 2) (cx 3) (cx 4) (cx 5) (cx 6) (cx 7) (cx 8) (cx 9) (cx 10) (cx 11) (cx 12) (cx 13) (cx 14))) (fu := fun q => q.2.2) (As := [.int x1, .int x2]) (rest := []) ⟨hx, hb, hml, hown, hts⟩ (k_X11_alone_0 l D cI cS _ a na nc (mkL (cx 0) (cx 1) (cx 2) (cx 3) (cx 4) (cx 5) (cx 6) (cx 7) (cx 8) (cx 9) (cx 10) (cx 11) (cx 12) (cx 13) (cx 14)) u hTX x1 x2 (q3) (q4)) hKK hP hD hS hA (cwV 2 hts gL_law_X11_alone rfl rfl rfl (by decide +kernel) ⟨Nat.le_of_ble_eq_true rfl, Nat.le_of_ble_eq_true rfl⟩) rfl hl.1 rfl (Nat.le_of_ble_eq_true rfl) dL_law_416 ⟨Nat.le_of_ble_eq_true rfl, Nat.le_of_ble_eq_true rfl⟩ (fun r52195 q9 H locs hr52195 hP hD hS => ?_)
      obtain ⟨na, nc, u⟩ := q9
      refine lv_pop hx hb dL_law_419 rfl ?_
      refine lv_aload_n hx hb dL_law_420 rfl (lv_at hl 1 rfl) ?_
      refine lv_aload_n hx hb dL_law_421 rfl (lv_at hl 3 rfl) ?_
      refine lv_iload_n hx hb dL_law_422 rfl (lv_at hl 0 rfl) ?_
      refine lv_iconst (v := 1) hx hb dL_law_423 (by decide) ?_
      refine lv_iadd hx hb dL_law_424 ?_
      refine va_sld hx hb hX hbl hbA hS (lw_vin hi0 hi1 hL0 (by decide)) dL_law_425 ?_
      refine lz_top (y := x1) hx1 ?_
      refine lv_aload_n hx hb dL_law_426 rfl (lv_at hl 3 rfl) ?_
      refine lv_iload_n hx hb dL_law_427 rfl (lv_at hl 0 rfl) ?_
      refine lv_iconst (v := 2) hx hb dL_law_428 (by decide) ?_
      refine lv_iadd hx hb dL_law_429 ?_
      refine va_sld hx hb hX hbl hbA hS (lw_vin hi0 hi1 hL0 (by decide)) dL_law_430 ?_
      refine lz_top (y := x2) hx2 ?_
      refine lq_M (S := SU) (fL := fun _ => (mkM (my 0) (my 1) (my 2) (my 3) (my 4) (my 5) (my 6) (R 0) (R 1) (R 2))) (fu := fun q => q) (As := [.int x1, .int x2]) (rest := []) ⟨hx, hb, hml, hown, hts⟩ (w_X12_alone l D cI cS _ b (mkM (my 0) (my 1) (my 2) (my 3) (my 4) (my 5) (my 6) (R 0) (R 1) (R 2)) v hTM hV x1 x2 ) hKK hP hD hS hA (cwV 2 hts gL_law_X12_alone rfl rfl rfl (by decide +kernel) ⟨Nat.le_of_ble_eq_true rfl, Nat.le_of_ble_eq_true rfl⟩) rfl hl.1 rfl (Nat.le_of_ble_eq_true rfl) dL_law_431 (CSL.hf (show CSL 24576 2002 124578 from Or.inr ⟨rfl, rfl, rfl⟩)) (fun r52196 v H locs hr52196 hP hD hS => ?_)
      have hV := hr52196.1
      refine lv_pop hx hb dL_law_434 rfl ?_
      refine lv_goto (tgt := 1486) hx hb dL_law_435 (by decide) ?_
      exact tail na nc 24576  cx my R u v _ _ _ _ _ ⟨(show CSL 24576 2002 124578 from Or.inr ⟨rfl, rfl, rfl⟩), ⟨hTX, hTM, hV, hR⟩, hP, hD, hS, hl⟩
    · refine lq_X (S := SU) (fna := fun _ => na) (fnc := fun _ => nc) (fN := fun _ => 24576) (fL := fun _ => (mkL (cx 0) (cx 1) (cx 2) (cx 3) (cx 4) (cx 5) (cx 6) (cx 7) (cx 8) (cx 9) (cx 10) (cx 11) (cx 12) (cx 13) (cx 14))) (fu := fun q => q) (As := [.int x1, .int x2]) (rest := []) ⟨hx, hb, hml, hown, hts⟩ (k_X11_alone_1 l D cI cS _ a na nc (mkL (cx 0) (cx 1) (cx 2) (cx 3) (cx 4) (cx 5) (cx 6) (cx 7) (cx 8) (cx 9) (cx 10) (cx 11) (cx 12) (cx 13) (cx 14)) u hTX x1 x2 (q3) (q4)) hKK hP hD hS hA (cwV 2 hts gL_law_X11_alone rfl rfl rfl (by decide +kernel) ⟨Nat.le_of_ble_eq_true rfl, Nat.le_of_ble_eq_true rfl⟩) rfl hl.1 rfl (Nat.le_of_ble_eq_true rfl) dL_law_416 (CSL.hf (show CSL 24576 2002 124578 from Or.inr ⟨rfl, rfl, rfl⟩)) (fun r52197 u H locs hr52197 hP hD hS => ?_)
      refine lv_pop hx hb dL_law_419 rfl ?_
      refine lv_aload_n hx hb dL_law_420 rfl (lv_at hl 1 rfl) ?_
      refine lv_aload_n hx hb dL_law_421 rfl (lv_at hl 3 rfl) ?_
      refine lv_iload_n hx hb dL_law_422 rfl (lv_at hl 0 rfl) ?_
      refine lv_iconst (v := 1) hx hb dL_law_423 (by decide) ?_
      refine lv_iadd hx hb dL_law_424 ?_
      refine va_sld hx hb hX hbl hbA hS (lw_vin hi0 hi1 hL0 (by decide)) dL_law_425 ?_
      refine lz_top (y := x1) hx1 ?_
      refine lv_aload_n hx hb dL_law_426 rfl (lv_at hl 3 rfl) ?_
      refine lv_iload_n hx hb dL_law_427 rfl (lv_at hl 0 rfl) ?_
      refine lv_iconst (v := 2) hx hb dL_law_428 (by decide) ?_
      refine lv_iadd hx hb dL_law_429 ?_
      refine va_sld hx hb hX hbl hbA hS (lw_vin hi0 hi1 hL0 (by decide)) dL_law_430 ?_
      refine lz_top (y := x2) hx2 ?_
      refine lq_M (S := SU) (fL := fun _ => (mkM (my 0) (my 1) (my 2) (my 3) (my 4) (my 5) (my 6) (R 0) (R 1) (R 2))) (fu := fun q => q) (As := [.int x1, .int x2]) (rest := []) ⟨hx, hb, hml, hown, hts⟩ (w_X12_alone l D cI cS _ b (mkM (my 0) (my 1) (my 2) (my 3) (my 4) (my 5) (my 6) (R 0) (R 1) (R 2)) v hTM hV x1 x2 ) hKK hP hD hS hA (cwV 2 hts gL_law_X12_alone rfl rfl rfl (by decide +kernel) ⟨Nat.le_of_ble_eq_true rfl, Nat.le_of_ble_eq_true rfl⟩) rfl hl.1 rfl (Nat.le_of_ble_eq_true rfl) dL_law_431 (CSL.hf (show CSL 24576 2002 124578 from Or.inr ⟨rfl, rfl, rfl⟩)) (fun r52198 v H locs hr52198 hP hD hS => ?_)
      have hV := hr52198.1
      refine lv_pop hx hb dL_law_434 rfl ?_
      refine lv_goto (tgt := 1486) hx hb dL_law_435 (by decide) ?_
      exact tail na nc 24576  cx my R u v _ _ _ _ _ ⟨(show CSL 24576 2002 124578 from Or.inr ⟨rfl, rfl, rfl⟩), ⟨hTX, hTM, hV, hR⟩, hP, hD, hS, hl⟩
  · refine lq_SX (As := [.int x1, .int x2]) (rest := []) ⟨hx, hb, hml, hown, hts⟩ (k_X11_alone_b3 l D cI cS a na nc N (mkL (cx 0) (cx 1) (cx 2) (cx 3) (cx 4) (cx 5) (cx 6) (cx 7) (cx 8) (cx 9) (cx 10) (cx 11) (cx 12) (cx 13) (cx 14)) u hTX hN x1 x2 (q4)) hKK hP (cwV 2 hts gL_law_X11_alone rfl rfl rfl (by decide +kernel) ⟨Nat.le_of_ble_eq_true rfl, Nat.le_of_ble_eq_true rfl⟩) rfl hl.1 rfl (Nat.le_of_ble_eq_true rfl) dL_law_416 (CSL.hf hcs) (fun r52199 hr52199 => ?_)
    refine lv_pop hx hb dL_law_419 rfl ?_
    refine lv_aload_n hx hb dL_law_420 rfl (lv_at hl 1 rfl) ?_
    refine lv_aload_n hx hb dL_law_421 rfl (lv_at hl 3 rfl) ?_
    refine lv_iload_n hx hb dL_law_422 rfl (lv_at hl 0 rfl) ?_
    refine lv_iconst (v := 1) hx hb dL_law_423 (by decide) ?_
    refine lv_iadd hx hb dL_law_424 ?_
    refine va_sld hx hb hX hbl hbA hS (lw_vin hi0 hi1 hL0 (by decide)) dL_law_425 ?_
    refine lz_top (y := x1) hx1 ?_
    refine lv_aload_n hx hb dL_law_426 rfl (lv_at hl 3 rfl) ?_
    refine lv_iload_n hx hb dL_law_427 rfl (lv_at hl 0 rfl) ?_
    refine lv_iconst (v := 2) hx hb dL_law_428 (by decide) ?_
    refine lv_iadd hx hb dL_law_429 ?_
    refine va_sld hx hb hX hbl hbA hS (lw_vin hi0 hi1 hL0 (by decide)) dL_law_430 ?_
    refine lz_top (y := x2) hx2 ?_
    refine lq_M (S := SU) (fL := fun _ => (mkM (my 0) (my 1) (my 2) (my 3) (my 4) (my 5) (my 6) (R 0) (R 1) (R 2))) (fu := fun q => q) (As := [.int x1, .int x2]) (rest := []) ⟨hx, hb, hml, hown, hts⟩ (w_X12_alone l D cI cS _ b (mkM (my 0) (my 1) (my 2) (my 3) (my 4) (my 5) (my 6) (R 0) (R 1) (R 2)) v hTM hV x1 x2 ) hKK hP hD hS hA (cwV 2 hts gL_law_X12_alone rfl rfl rfl (by decide +kernel) ⟨Nat.le_of_ble_eq_true rfl, Nat.le_of_ble_eq_true rfl⟩) rfl hl.1 rfl (Nat.le_of_ble_eq_true rfl) dL_law_431 (CSL.hf hcs) (fun r52200 v H locs hr52200 hP hD hS => ?_)
    have hV := hr52200.1
    refine lv_pop hx hb dL_law_434 rfl ?_
    refine lv_goto (tgt := 1486) hx hb dL_law_435 (by decide) ?_
    exact tail na nc N  cx my R u v _ _ _ _ _ ⟨hcs, ⟨hTX, hTM, hV, hR⟩, hP, hD, hS, hl⟩
set_option maxHeartbeats 4000000 in
set_option maxRecDepth 100000 in
theorem lc_8 {p : Program} {l : Launch} {e : Env} {s : State} {m : MethodId} {below : List Frame} {meth : Method} {c : Code} {b0 L0 : Nat} {xs : Nat → Int32} {D : va_G} {cI cS : ClassId} {A : Nat → Prop} {H : Heap} {locs : List Loc} {ls : Array Slot} {Q : State → Prop} {a b : Nat → Nat} {na nc N cells slots : Nat} {cx my : Nat → Int32} {R u v : SU} {i : Int32} (hx : p.tables.exec = Jvm.exec) (hb : c.code = cL_law) (hml : c.maxLocals = 4) (hown : s.vm.findClass RL = some m.cls) (hts : ∀ w ∈ wsL_law, w.before #[Value.ref b0] s = true) (hKK : KK D cI cS s) (hAB0 : AB s s.heap) (hA0 : ∀ q : Nat, q < s.heap.size → ¬ A q) (hX : va_X b0 L0 xs s s.heap) (hbl : b0 < s.heap.size) (hbA : ¬ A b0) (hA : ∀ q : Nat, s.heap.size ≤ q → A q) (hL0 : L0 ≤ 3072) (hi0 : 0 ≤ i.toInt) (hi1 : i.toInt + 6 ≤ (L0 : Int)) (hst : ST D cI cS A s a b b0 i na nc N cx my R u v H locs ls cells slots) (tail : ∀ (na nc N : Nat) (cx my : Nat → Int32) (R u v : SU) (H : Heap) (locs : List Loc) (ls : Array Slot) (cells slots : Nat), ST D cI cS A s a b b0 i na nc N cx my R u v H locs ls cells slots → W p l e room_1 s m #[Value.ref b0] below meth c H locs cells slots Q (F0 m 1486 ls [])) : W p l e room_1 s m #[Value.ref b0] below meth c H locs cells slots Q (F0 m 438 ls []) := by
  obtain ⟨hcs, ⟨hTX, hTM, hV, hR⟩, hP, hD, hS, hl⟩ := hst
  have hN := hcs.hN
  have hK := hKK.1
  have hR : (cx 0).toInt = (my 0).toInt ∧ (cx 5).toInt = (my 1).toInt ∧ (cx 4).toInt = ((R 2) 1).toInt ∧ (cx 6).toInt = (my 2).toInt ∧ (cx 3).toInt = (my 3).toInt ∧ (cx 2).toInt = ((R 2) 0).toInt ∧ (cx 7).toInt = ((R 0) 0).toInt ∧ (cx 8).toInt = ((R 0) 1).toInt ∧ (cx 9).toInt = ((R 0) 2).toInt ∧ (cx 10).toInt = ((R 0) 3).toInt ∧ (cx 11).toInt = ((R 1) 0).toInt ∧ (cx 12).toInt = ((R 1) 1).toInt ∧ (cx 13).toInt = ((R 1) 2).toInt ∧ (cx 14).toInt = ((R 1) 3).toInt := hR
  obtain ⟨x1, hx1⟩ : ∃ z, xs (i + 1).toNatClampNeg = z := ⟨_, rfl⟩
  obtain ⟨x2, hx2⟩ : ∃ z, xs (i + 2).toNatClampNeg = z := ⟨_, rfl⟩
  obtain ⟨x3, hx3⟩ : ∃ z, xs (i + 3).toNatClampNeg = z := ⟨_, rfl⟩
  obtain ⟨x4, hx4⟩ : ∃ z, xs (i + 4).toNatClampNeg = z := ⟨_, rfl⟩
  obtain ⟨x5, hx5⟩ : ∃ z, xs (i + 5).toNatClampNeg = z := ⟨_, rfl⟩
  refine lv_aload_n hx hb dL_law_438 rfl (lv_at hl 2 rfl) ?_
  refine lv_aload_n hx hb dL_law_439 rfl (lv_at hl 3 rfl) ?_
  refine lv_iload_n hx hb dL_law_440 rfl (lv_at hl 0 rfl) ?_
  refine lv_iconst (v := 1) hx hb dL_law_441 (by decide) ?_
  refine lv_iadd hx hb dL_law_442 ?_
  refine va_sld hx hb hX hbl hbA hS (lw_vin hi0 hi1 hL0 (by decide)) dL_law_443 ?_
  refine lz_top (y := x1) hx1 ?_
  refine lq_X (S := SU) (fna := fun _ => na) (fnc := fun _ => nc) (fN := fun _ => N) (fL := fun _ => (mkL (cx 0) (cx 1) (cx 2) (cx 3) (cx 4) (cx 5) (cx 6) (cx 7) (cx 8) (cx 9) (cx 10) (cx 11) (cx 12) (cx 13) (cx 14))) (fu := fun q => q) (As := [.int x1]) (rest := []) ⟨hx, hb, hml, hown, hts⟩ (k_X11_mark l D cI cS _ a na nc N (mkL (cx 0) (cx 1) (cx 2) (cx 3) (cx 4) (cx 5) (cx 6) (cx 7) (cx 8) (cx 9) (cx 10) (cx 11) (cx 12) (cx 13) (cx 14)) u hTX hN x1 ) hKK hP hD hS hA (cwV 1 hts gL_law_X11_mark rfl rfl rfl (by decide +kernel) ⟨Nat.le_of_ble_eq_true rfl, Nat.le_of_ble_eq_true rfl⟩) rfl hl.1 rfl (Nat.le_of_ble_eq_true rfl) dL_law_444 (CSL.hf hcs) (fun r52201 u H locs hr52201 hP hD hS => ?_)
  refine lv_pop hx hb dL_law_447 rfl ?_
  refine lv_aload_n hx hb dL_law_448 rfl (lv_at hl 1 rfl) ?_
  refine lv_aload_n hx hb dL_law_449 rfl (lv_at hl 3 rfl) ?_
  refine lv_iload_n hx hb dL_law_450 rfl (lv_at hl 0 rfl) ?_
  refine lv_iconst (v := 1) hx hb dL_law_451 (by decide) ?_
  refine lv_iadd hx hb dL_law_452 ?_
  refine va_sld hx hb hX hbl hbA hS (lw_vin hi0 hi1 hL0 (by decide)) dL_law_453 ?_
  refine lz_top (y := x1) hx1 ?_
  refine lq_M (S := SU) (fL := fun _ => (mkM (my 0) (my 1) (my 2) (my 3) (my 4) (my 5) (my 6) (R 0) (R 1) (R 2))) (fu := fun q => q) (As := [.int x1]) (rest := []) ⟨hx, hb, hml, hown, hts⟩ (w_X12_mark l D cI cS _ b (mkM (my 0) (my 1) (my 2) (my 3) (my 4) (my 5) (my 6) (R 0) (R 1) (R 2)) v hTM hV x1 ) hKK hP hD hS hA (cwV 1 hts gL_law_X12_mark rfl rfl rfl (by decide +kernel) ⟨Nat.le_of_ble_eq_true rfl, Nat.le_of_ble_eq_true rfl⟩) rfl hl.1 rfl (Nat.le_of_ble_eq_true rfl) dL_law_454 (CSL.hf hcs) (fun r52202 v H locs hr52202 hP hD hS => ?_)
  have hV := hr52202.1
  refine lv_pop hx hb dL_law_457 rfl ?_
  refine lv_goto (tgt := 1486) hx hb dL_law_458 (by decide) ?_
  exact tail na nc N  cx my R u v _ _ _ _ _ ⟨hcs, ⟨hTX, hTM, hV, hR⟩, hP, hD, hS, hl⟩
set_option maxHeartbeats 4000000 in
set_option maxRecDepth 100000 in
theorem lc_9 {p : Program} {l : Launch} {e : Env} {s : State} {m : MethodId} {below : List Frame} {meth : Method} {c : Code} {b0 L0 : Nat} {xs : Nat → Int32} {D : va_G} {cI cS : ClassId} {A : Nat → Prop} {H : Heap} {locs : List Loc} {ls : Array Slot} {Q : State → Prop} {a b : Nat → Nat} {na nc N cells slots : Nat} {cx my : Nat → Int32} {R u v : SU} {i : Int32} (hx : p.tables.exec = Jvm.exec) (hb : c.code = cL_law) (hml : c.maxLocals = 4) (hown : s.vm.findClass RL = some m.cls) (hts : ∀ w ∈ wsL_law, w.before #[Value.ref b0] s = true) (hKK : KK D cI cS s) (hAB0 : AB s s.heap) (hA0 : ∀ q : Nat, q < s.heap.size → ¬ A q) (hX : va_X b0 L0 xs s s.heap) (hbl : b0 < s.heap.size) (hbA : ¬ A b0) (hA : ∀ q : Nat, s.heap.size ≤ q → A q) (hL0 : L0 ≤ 3072) (hi0 : 0 ≤ i.toInt) (hi1 : i.toInt + 6 ≤ (L0 : Int)) (hst : ST D cI cS A s a b b0 i na nc N cx my R u v H locs ls cells slots) (tail : ∀ (na nc N : Nat) (cx my : Nat → Int32) (R u v : SU) (H : Heap) (locs : List Loc) (ls : Array Slot) (cells slots : Nat), ST D cI cS A s a b b0 i na nc N cx my R u v H locs ls cells slots → W p l e room_1 s m #[Value.ref b0] below meth c H locs cells slots Q (F0 m 1486 ls [])) : W p l e room_1 s m #[Value.ref b0] below meth c H locs cells slots Q (F0 m 461 ls []) := by
  obtain ⟨hcs, ⟨hTX, hTM, hV, hR⟩, hP, hD, hS, hl⟩ := hst
  have hN := hcs.hN
  have hK := hKK.1
  have hR : (cx 0).toInt = (my 0).toInt ∧ (cx 5).toInt = (my 1).toInt ∧ (cx 4).toInt = ((R 2) 1).toInt ∧ (cx 6).toInt = (my 2).toInt ∧ (cx 3).toInt = (my 3).toInt ∧ (cx 2).toInt = ((R 2) 0).toInt ∧ (cx 7).toInt = ((R 0) 0).toInt ∧ (cx 8).toInt = ((R 0) 1).toInt ∧ (cx 9).toInt = ((R 0) 2).toInt ∧ (cx 10).toInt = ((R 0) 3).toInt ∧ (cx 11).toInt = ((R 1) 0).toInt ∧ (cx 12).toInt = ((R 1) 1).toInt ∧ (cx 13).toInt = ((R 1) 2).toInt ∧ (cx 14).toInt = ((R 1) 3).toInt := hR
  obtain ⟨x1, hx1⟩ : ∃ z, xs (i + 1).toNatClampNeg = z := ⟨_, rfl⟩
  obtain ⟨x2, hx2⟩ : ∃ z, xs (i + 2).toNatClampNeg = z := ⟨_, rfl⟩
  obtain ⟨x3, hx3⟩ : ∃ z, xs (i + 3).toNatClampNeg = z := ⟨_, rfl⟩
  obtain ⟨x4, hx4⟩ : ∃ z, xs (i + 4).toNatClampNeg = z := ⟨_, rfl⟩
  obtain ⟨x5, hx5⟩ : ∃ z, xs (i + 5).toNatClampNeg = z := ⟨_, rfl⟩
  refine lv_aload_n hx hb dL_law_461 rfl (lv_at hl 2 rfl) ?_
  refine lv_aload_n hx hb dL_law_462 rfl (lv_at hl 3 rfl) ?_
  refine lv_iload_n hx hb dL_law_463 rfl (lv_at hl 0 rfl) ?_
  refine lv_iconst (v := 1) hx hb dL_law_464 (by decide) ?_
  refine lv_iadd hx hb dL_law_465 ?_
  refine va_sld hx hb hX hbl hbA hS (lw_vin hi0 hi1 hL0 (by decide)) dL_law_466 ?_
  refine lz_top (y := x1) hx1 ?_
  refine lq_X (S := SU) (fna := fun _ => na) (fnc := fun _ => nc) (fN := fun _ => N) (fL := fun _ => (mkL (cx 0) (cx 1) (cx 2) (cx 3) (cx 4) (cx 5) (cx 6) (cx 7) (cx 8) (cx 9) (cx 10) (cx 11) (cx 12) (cx 13) (cx 14))) (fu := fun q => q) (As := [.int x1]) (rest := []) ⟨hx, hb, hml, hown, hts⟩ (k_X11_marked l D cI cS _ a na nc N (mkL (cx 0) (cx 1) (cx 2) (cx 3) (cx 4) (cx 5) (cx 6) (cx 7) (cx 8) (cx 9) (cx 10) (cx 11) (cx 12) (cx 13) (cx 14)) u hTX hN x1 ) hKK hP hD hS hA (cwV 1 hts gL_law_X11_marked rfl rfl rfl (by decide +kernel) ⟨Nat.le_of_ble_eq_true rfl, Nat.le_of_ble_eq_true rfl⟩) rfl hl.1 rfl (Nat.le_of_ble_eq_true rfl) dL_law_467 (CSL.hf hcs) (fun r52203 u H locs hr52203 hP hD hS => ?_)
  refine lv_pop hx hb dL_law_470 rfl ?_
  refine lv_aload_n hx hb dL_law_471 rfl (lv_at hl 1 rfl) ?_
  refine lv_aload_n hx hb dL_law_472 rfl (lv_at hl 3 rfl) ?_
  refine lv_iload_n hx hb dL_law_473 rfl (lv_at hl 0 rfl) ?_
  refine lv_iconst (v := 1) hx hb dL_law_474 (by decide) ?_
  refine lv_iadd hx hb dL_law_475 ?_
  refine va_sld hx hb hX hbl hbA hS (lw_vin hi0 hi1 hL0 (by decide)) dL_law_476 ?_
  refine lz_top (y := x1) hx1 ?_
  refine lq_M (S := SU) (fL := fun _ => (mkM (my 0) (my 1) (my 2) (my 3) (my 4) (my 5) (my 6) (R 0) (R 1) (R 2))) (fu := fun q => q) (As := [.int x1]) (rest := []) ⟨hx, hb, hml, hown, hts⟩ (w_X12_marked l D cI cS _ b (mkM (my 0) (my 1) (my 2) (my 3) (my 4) (my 5) (my 6) (R 0) (R 1) (R 2)) v hTM hV x1 ) hKK hP hD hS hA (cwV 1 hts gL_law_X12_marked rfl rfl rfl (by decide +kernel) ⟨Nat.le_of_ble_eq_true rfl, Nat.le_of_ble_eq_true rfl⟩) rfl hl.1 rfl (Nat.le_of_ble_eq_true rfl) dL_law_477 (CSL.hf hcs) (fun r52204 v H locs hr52204 hP hD hS => ?_)
  have hV := hr52204.1
  refine lv_pop hx hb dL_law_480 rfl ?_
  refine lv_goto (tgt := 1486) hx hb dL_law_481 (by decide) ?_
  exact tail na nc N  cx my R u v _ _ _ _ _ ⟨hcs, ⟨hTX, hTM, hV, hR⟩, hP, hD, hS, hl⟩
set_option maxHeartbeats 4000000 in
set_option maxRecDepth 100000 in
theorem lc_10 {p : Program} {l : Launch} {e : Env} {s : State} {m : MethodId} {below : List Frame} {meth : Method} {c : Code} {b0 L0 : Nat} {xs : Nat → Int32} {D : va_G} {cI cS : ClassId} {A : Nat → Prop} {H : Heap} {locs : List Loc} {ls : Array Slot} {Q : State → Prop} {a b : Nat → Nat} {na nc N cells slots : Nat} {cx my : Nat → Int32} {R u v : SU} {i : Int32} (hx : p.tables.exec = Jvm.exec) (hb : c.code = cL_law) (hml : c.maxLocals = 4) (hown : s.vm.findClass RL = some m.cls) (hts : ∀ w ∈ wsL_law, w.before #[Value.ref b0] s = true) (hKK : KK D cI cS s) (hAB0 : AB s s.heap) (hA0 : ∀ q : Nat, q < s.heap.size → ¬ A q) (hX : va_X b0 L0 xs s s.heap) (hbl : b0 < s.heap.size) (hbA : ¬ A b0) (hA : ∀ q : Nat, s.heap.size ≤ q → A q) (hL0 : L0 ≤ 3072) (hi0 : 0 ≤ i.toInt) (hi1 : i.toInt + 6 ≤ (L0 : Int)) (hst : ST D cI cS A s a b b0 i na nc N cx my R u v H locs ls cells slots) (tail : ∀ (na nc N : Nat) (cx my : Nat → Int32) (R u v : SU) (H : Heap) (locs : List Loc) (ls : Array Slot) (cells slots : Nat), ST D cI cS A s a b b0 i na nc N cx my R u v H locs ls cells slots → W p l e room_1 s m #[Value.ref b0] below meth c H locs cells slots Q (F0 m 1486 ls [])) : W p l e room_1 s m #[Value.ref b0] below meth c H locs cells slots Q (F0 m 484 ls []) := by
  obtain ⟨hcs, ⟨hTX, hTM, hV, hR⟩, hP, hD, hS, hl⟩ := hst
  have hN := hcs.hN
  have hK := hKK.1
  have hR : (cx 0).toInt = (my 0).toInt ∧ (cx 5).toInt = (my 1).toInt ∧ (cx 4).toInt = ((R 2) 1).toInt ∧ (cx 6).toInt = (my 2).toInt ∧ (cx 3).toInt = (my 3).toInt ∧ (cx 2).toInt = ((R 2) 0).toInt ∧ (cx 7).toInt = ((R 0) 0).toInt ∧ (cx 8).toInt = ((R 0) 1).toInt ∧ (cx 9).toInt = ((R 0) 2).toInt ∧ (cx 10).toInt = ((R 0) 3).toInt ∧ (cx 11).toInt = ((R 1) 0).toInt ∧ (cx 12).toInt = ((R 1) 1).toInt ∧ (cx 13).toInt = ((R 1) 2).toInt ∧ (cx 14).toInt = ((R 1) 3).toInt := hR
  obtain ⟨x1, hx1⟩ : ∃ z, xs (i + 1).toNatClampNeg = z := ⟨_, rfl⟩
  obtain ⟨x2, hx2⟩ : ∃ z, xs (i + 2).toNatClampNeg = z := ⟨_, rfl⟩
  obtain ⟨x3, hx3⟩ : ∃ z, xs (i + 3).toNatClampNeg = z := ⟨_, rfl⟩
  obtain ⟨x4, hx4⟩ : ∃ z, xs (i + 4).toNatClampNeg = z := ⟨_, rfl⟩
  obtain ⟨x5, hx5⟩ : ∃ z, xs (i + 5).toNatClampNeg = z := ⟨_, rfl⟩
  refine lv_aload_n hx hb dL_law_484 rfl (lv_at hl 2 rfl) ?_
  refine lv_aload_n hx hb dL_law_485 rfl (lv_at hl 3 rfl) ?_
  refine lv_iload_n hx hb dL_law_486 rfl (lv_at hl 0 rfl) ?_
  refine lv_iconst (v := 1) hx hb dL_law_487 (by decide) ?_
  refine lv_iadd hx hb dL_law_488 ?_
  refine va_sld hx hb hX hbl hbA hS (lw_vin hi0 hi1 hL0 (by decide)) dL_law_489 ?_
  refine lz_top (y := x1) hx1 ?_
  refine lq_X (S := SU) (fna := fun _ => na) (fnc := fun _ => nc) (fN := fun _ => N) (fL := fun _ => (mkL (cx 0) (cx 1) (cx 2) (cx 3) (cx 4) (cx 5) (cx 6) (cx 7) (cx 8) (cx 9) (cx 10) (cx 11) (cx 12) (cx 13) (cx 14))) (fu := fun q => q) (As := [.int x1]) (rest := []) ⟨hx, hb, hml, hown, hts⟩ (k_X11_pieces l D cI cS _ a na nc N (mkL (cx 0) (cx 1) (cx 2) (cx 3) (cx 4) (cx 5) (cx 6) (cx 7) (cx 8) (cx 9) (cx 10) (cx 11) (cx 12) (cx 13) (cx 14)) u hTX hN x1 ) hKK hP hD hS hA (cwV 1 hts gL_law_X11_pieces rfl rfl rfl (by decide +kernel) ⟨Nat.le_of_ble_eq_true rfl, Nat.le_of_ble_eq_true rfl⟩) rfl hl.1 rfl (Nat.le_of_ble_eq_true rfl) dL_law_490 (CSL.hf hcs) (fun r52205 u H locs hr52205 hP hD hS => ?_)
  refine lv_pop hx hb dL_law_493 rfl ?_
  refine lv_aload_n hx hb dL_law_494 rfl (lv_at hl 1 rfl) ?_
  refine lv_aload_n hx hb dL_law_495 rfl (lv_at hl 3 rfl) ?_
  refine lv_iload_n hx hb dL_law_496 rfl (lv_at hl 0 rfl) ?_
  refine lv_iconst (v := 1) hx hb dL_law_497 (by decide) ?_
  refine lv_iadd hx hb dL_law_498 ?_
  refine va_sld hx hb hX hbl hbA hS (lw_vin hi0 hi1 hL0 (by decide)) dL_law_499 ?_
  refine lz_top (y := x1) hx1 ?_
  refine lq_M (S := SU) (fL := fun _ => (mkM (my 0) (my 1) (my 2) (my 3) (my 4) (my 5) (my 6) (R 0) (R 1) (R 2))) (fu := fun q => q) (As := [.int x1]) (rest := []) ⟨hx, hb, hml, hown, hts⟩ (w_X12_pieces l D cI cS _ b (mkM (my 0) (my 1) (my 2) (my 3) (my 4) (my 5) (my 6) (R 0) (R 1) (R 2)) v hTM hV x1 ) hKK hP hD hS hA (cwV 1 hts gL_law_X12_pieces rfl rfl rfl (by decide +kernel) ⟨Nat.le_of_ble_eq_true rfl, Nat.le_of_ble_eq_true rfl⟩) rfl hl.1 rfl (Nat.le_of_ble_eq_true rfl) dL_law_500 (CSL.hf hcs) (fun r52206 v H locs hr52206 hP hD hS => ?_)
  have hV := hr52206.1
  refine lv_pop hx hb dL_law_503 rfl ?_
  refine lv_goto (tgt := 1486) hx hb dL_law_504 (by decide) ?_
  exact tail na nc N  cx my R u v _ _ _ _ _ ⟨hcs, ⟨hTX, hTM, hV, hR⟩, hP, hD, hS, hl⟩
