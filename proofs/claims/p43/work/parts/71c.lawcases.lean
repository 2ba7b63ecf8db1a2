set_option maxHeartbeats 4000000 in
set_option maxRecDepth 100000 in
theorem lc_25 {p : Program} {l : Launch} {e : Env} {s : State} {m : MethodId} {below : List Frame} {meth : Method} {c : Code} {b0 L0 : Nat} {xs : Nat → Int32} {D : va_G} {cI cS : ClassId} {A : Nat → Prop} {H : Heap} {locs : List Loc} {ls : Array Slot} {Q : State → Prop} {a b : Nat → Nat} {na nc N cells slots : Nat} {cx my : Nat → Int32} {R u v : SU} {i : Int32} (hx : p.tables.exec = Jvm.exec) (hb : c.code = cL_law) (hml : c.maxLocals = 4) (hown : s.vm.findClass RL = some m.cls) (hts : ∀ w ∈ wsL_law, w.before #[Value.ref b0] s = true) (hKK : KK D cI cS s) (hAB0 : AB s s.heap) (hA0 : ∀ q : Nat, q < s.heap.size → ¬ A q) (hX : va_X b0 L0 xs s s.heap) (hbl : b0 < s.heap.size) (hbA : ¬ A b0) (hA : ∀ q : Nat, s.heap.size ≤ q → A q) (hL0 : L0 ≤ 3072) (hi0 : 0 ≤ i.toInt) (hi1 : i.toInt + 6 ≤ (L0 : Int)) (hst : ST D cI cS A s a b b0 i na nc N cx my R u v H locs ls cells slots) (tail : ∀ (na nc N : Nat) (cx my : Nat → Int32) (R u v : SU) (H : Heap) (locs : List Loc) (ls : Array Slot) (cells slots : Nat), ST D cI cS A s a b b0 i na nc N cx my R u v H locs ls cells slots → W p l e room_1 s m #[Value.ref b0] below meth c H locs cells slots Q (F0 m 1486 ls [])) : W p l e room_1 s m #[Value.ref b0] below meth c H locs cells slots Q (F0 m 869 ls []) := by
  obtain ⟨hcs, ⟨hTX, hTM, hV, hR⟩, hP, hD, hS, hl⟩ := hst
  have hN := hcs.hN
  have hK := hKK.1
  have hR : (cx 0).toInt = (my 0).toInt ∧ (cx 5).toInt = (my 1).toInt ∧ (cx 4).toInt = ((R 2) 1).toInt ∧ (cx 6).toInt = (my 2).toInt ∧ (cx 3).toInt = (my 3).toInt ∧ (cx 2).toInt = ((R 2) 0).toInt ∧ (cx 7).toInt = ((R 0) 0).toInt ∧ (cx 8).toInt = ((R 0) 1).toInt ∧ (cx 9).toInt = ((R 0) 2).toInt ∧ (cx 10).toInt = ((R 0) 3).toInt ∧ (cx 11).toInt = ((R 1) 0).toInt ∧ (cx 12).toInt = ((R 1) 1).toInt ∧ (cx 13).toInt = ((R 1) 2).toInt ∧ (cx 14).toInt = ((R 1) 3).toInt := hR
  obtain ⟨x1, hx1⟩ : ∃ z, xs (i + 1).toNatClampNeg = z := ⟨_, rfl⟩
  obtain ⟨x2, hx2⟩ : ∃ z, xs (i + 2).toNatClampNeg = z := ⟨_, rfl⟩
  obtain ⟨x3, hx3⟩ : ∃ z, xs (i + 3).toNatClampNeg = z := ⟨_, rfl⟩
  obtain ⟨x4, hx4⟩ : ∃ z, xs (i + 4).toNatClampNeg = z := ⟨_, rfl⟩
  obtain ⟨x5, hx5⟩ : ∃ z, xs (i + 5).toNatClampNeg = z := ⟨_, rfl⟩
  refine lv_aload_n hx hb dL_law_869 rfl (lv_at hl 2 rfl) ?_
  refine lv_aload_n hx hb dL_law_870 rfl (lv_at hl 3 rfl) ?_
  refine lv_iload_n hx hb dL_law_871 rfl (lv_at hl 0 rfl) ?_
  refine lv_iconst (v := 1) hx hb dL_law_872 (by decide) ?_
  refine lv_iadd hx hb dL_law_873 ?_
  refine va_sld hx hb hX hbl hbA hS (lw_vin hi0 hi1 hL0 (by decide)) dL_law_874 ?_
  refine lz_top (y := x1) hx1 ?_
  refine lv_aload_n hx hb dL_law_875 rfl (lv_at hl 3 rfl) ?_
  refine lv_iload_n hx hb dL_law_876 rfl (lv_at hl 0 rfl) ?_
  refine lv_iconst (v := 2) hx hb dL_law_877 (by decide) ?_
  refine lv_iadd hx hb dL_law_878 ?_
  refine va_sld hx hb hX hbl hbA hS (lw_vin hi0 hi1 hL0 (by decide)) dL_law_879 ?_
  refine lz_top (y := x2) hx2 ?_
  refine lq_X (S := SU) (fna := fun _ => na) (fnc := fun _ => nc) (fN := fun _ => N) (fL := fun _ => (mkL (cx 0) (cx 1) (cx 2) (cx 3) (cx 4) (cx 5) (cx 6) (cx 7) (cx 8) (cx 9) (cx 10) (cx 11) (cx 12) (cx 13) (cx 14))) (fu := fun q => q) (As := [.int x1, .int x2]) (rest := []) ⟨hx, hb, hml, hown, hts⟩ (k_X11_way l D cI cS _ a na nc N (mkL (cx 0) (cx 1) (cx 2) (cx 3) (cx 4) (cx 5) (cx 6) (cx 7) (cx 8) (cx 9) (cx 10) (cx 11) (cx 12) (cx 13) (cx 14)) u hTX hN x1 x2 ) hKK hP hD hS hA (cwV 2 hts gL_law_X11_way rfl rfl rfl (by decide +kernel) ⟨Nat.le_of_ble_eq_true rfl, Nat.le_of_ble_eq_true rfl⟩) rfl hl.1 rfl (Nat.le_of_ble_eq_true rfl) dL_law_880 (CSL.hf hcs) (fun r52235 u H locs hr52235 hP hD hS => ?_)
  refine lv_pop hx hb dL_law_883 rfl ?_
  refine lv_aload_n hx hb dL_law_884 rfl (lv_at hl 1 rfl) ?_
  refine lv_aload_n hx hb dL_law_885 rfl (lv_at hl 3 rfl) ?_
  refine lv_iload_n hx hb dL_law_886 rfl (lv_at hl 0 rfl) ?_
  refine lv_iconst (v := 1) hx hb dL_law_887 (by decide) ?_
  refine lv_iadd hx hb dL_law_888 ?_
  refine va_sld hx hb hX hbl hbA hS (lw_vin hi0 hi1 hL0 (by decide)) dL_law_889 ?_
  refine lz_top (y := x1) hx1 ?_
  refine lv_aload_n hx hb dL_law_890 rfl (lv_at hl 3 rfl) ?_
  refine lv_iload_n hx hb dL_law_891 rfl (lv_at hl 0 rfl) ?_
  refine lv_iconst (v := 2) hx hb dL_law_892 (by decide) ?_
  refine lv_iadd hx hb dL_law_893 ?_
  refine va_sld hx hb hX hbl hbA hS (lw_vin hi0 hi1 hL0 (by decide)) dL_law_894 ?_
  refine lz_top (y := x2) hx2 ?_
  refine lq_M (S := SU) (fL := fun _ => (mkM (my 0) (my 1) (my 2) (my 3) (my 4) (my 5) (my 6) (R 0) (R 1) (R 2))) (fu := fun q => q) (As := [.int x1, .int x2]) (rest := []) ⟨hx, hb, hml, hown, hts⟩ (w_X12_way l D cI cS _ b (mkM (my 0) (my 1) (my 2) (my 3) (my 4) (my 5) (my 6) (R 0) (R 1) (R 2)) v hTM hV x1 x2 ) hKK hP hD hS hA (cwV 2 hts gL_law_X12_way rfl rfl rfl (by decide +kernel) ⟨Nat.le_of_ble_eq_true rfl, Nat.le_of_ble_eq_true rfl⟩) rfl hl.1 rfl (Nat.le_of_ble_eq_true rfl) dL_law_895 (CSL.hf hcs) (fun r52236 v H locs hr52236 hP hD hS => ?_)
  have hV := hr52236.1
  refine lv_pop hx hb dL_law_898 rfl ?_
  refine lv_goto (tgt := 1486) hx hb dL_law_899 (by decide) ?_
  exact tail na nc N  cx my R u v _ _ _ _ _ ⟨hcs, ⟨hTX, hTM, hV, hR⟩, hP, hD, hS, hl⟩
set_option maxHeartbeats 4000000 in
set_option maxRecDepth 100000 in
theorem lc_26 {p : Program} {l : Launch} {e : Env} {s : State} {m : MethodId} {below : List Frame} {meth : Method} {c : Code} {b0 L0 : Nat} {xs : Nat → Int32} {D : va_G} {cI cS : ClassId} {A : Nat → Prop} {H : Heap} {locs : List Loc} {ls : Array Slot} {Q : State → Prop} {a b : Nat → Nat} {na nc N cells slots : Nat} {cx my : Nat → Int32} {R u v : SU} {i : Int32} (hx : p.tables.exec = Jvm.exec) (hb : c.code = cL_law) (hml : c.maxLocals = 4) (hown : s.vm.findClass RL = some m.cls) (hts : ∀ w ∈ wsL_law, w.before #[Value.ref b0] s = true) (hKK : KK D cI cS s) (hAB0 : AB s s.heap) (hA0 : ∀ q : Nat, q < s.heap.size → ¬ A q) (hX : va_X b0 L0 xs s s.heap) (hbl : b0 < s.heap.size) (hbA : ¬ A b0) (hA : ∀ q : Nat, s.heap.size ≤ q → A q) (hL0 : L0 ≤ 3072) (hi0 : 0 ≤ i.toInt) (hi1 : i.toInt + 6 ≤ (L0 : Int)) (hst : ST D cI cS A s a b b0 i na nc N cx my R u v H locs ls cells slots) (tail : ∀ (na nc N : Nat) (cx my : Nat → Int32) (R u v : SU) (H : Heap) (locs : List Loc) (ls : Array Slot) (cells slots : Nat), ST D cI cS A s a b b0 i na nc N cx my R u v H locs ls cells slots → W p l e room_1 s m #[Value.ref b0] below meth c H locs cells slots Q (F0 m 1486 ls [])) : W p l e room_1 s m #[Value.ref b0] below meth c H locs cells slots Q (F0 m 902 ls []) := by
  obtain ⟨hcs, ⟨hTX, hTM, hV, hR⟩, hP, hD, hS, hl⟩ := hst
  have hN := hcs.hN
  have hK := hKK.1
  have hR : (cx 0).toInt = (my 0).toInt ∧ (cx 5).toInt = (my 1).toInt ∧ (cx 4).toInt = ((R 2) 1).toInt ∧ (cx 6).toInt = (my 2).toInt ∧ (cx 3).toInt = (my 3).toInt ∧ (cx 2).toInt = ((R 2) 0).toInt ∧ (cx 7).toInt = ((R 0) 0).toInt ∧ (cx 8).toInt = ((R 0) 1).toInt ∧ (cx 9).toInt = ((R 0) 2).toInt ∧ (cx 10).toInt = ((R 0) 3).toInt ∧ (cx 11).toInt = ((R 1) 0).toInt ∧ (cx 12).toInt = ((R 1) 1).toInt ∧ (cx 13).toInt = ((R 1) 2).toInt ∧ (cx 14).toInt = ((R 1) 3).toInt := hR
  obtain ⟨x1, hx1⟩ : ∃ z, xs (i + 1).toNatClampNeg = z := ⟨_, rfl⟩
  obtain ⟨x2, hx2⟩ : ∃ z, xs (i + 2).toNatClampNeg = z := ⟨_, rfl⟩
  obtain ⟨x3, hx3⟩ : ∃ z, xs (i + 3).toNatClampNeg = z := ⟨_, rfl⟩
  obtain ⟨x4, hx4⟩ : ∃ z, xs (i + 4).toNatClampNeg = z := ⟨_, rfl⟩
  obtain ⟨x5, hx5⟩ : ∃ z, xs (i + 5).toNatClampNeg = z := ⟨_, rfl⟩
  refine lv_aload_n hx hb dL_law_902 rfl (lv_at hl 2 rfl) ?_
  refine lv_aload_n hx hb dL_law_903 rfl (lv_at hl 3 rfl) ?_
  refine lv_iload_n hx hb dL_law_904 rfl (lv_at hl 0 rfl) ?_
  refine lv_iconst (v := 1) hx hb dL_law_905 (by decide) ?_
  refine lv_iadd hx hb dL_law_906 ?_
  refine va_sld hx hb hX hbl hbA hS (lw_vin hi0 hi1 hL0 (by decide)) dL_law_907 ?_
  refine lz_top (y := x1) hx1 ?_
  refine lq_X (S := Int32 × Int32 × Int32 × Int32 × Int32 × Int32 × Int32 × Int32 × SU) (fna := fun _ => na) (fnc := fun _ => nc) (fN := fun _ => N) (fL := fun q => mkL (cx 0) (cx 1) (cx 2) (cx 3) (cx 4) (cx 5) (cx 6) q.1 q.2.1 q.2.2.1 q.2.2.2.1 q.2.2.2.2.1 q.2.2.2.2.2.1 q.2.2.2.2.2.2.1 q.2.2.2.2.2.2.2.1) (fu := fun q => q.2.2.2.2.2.2.2.2) (As := [.int x1]) (rest := []) ⟨hx, hb, hml, hown, hts⟩ (k_X11_grow l D cI cS _ a na nc N (cx 0) (cx 1) (cx 2) (cx 3) (cx 4) (cx 5) (cx 6) (cx 7) (cx 8) (cx 9) (cx 10) (cx 11) (cx 12) (cx 13) (cx 14) u hTX hN x1 ) hKK hP hD hS hA (cwV 1 hts gL_law_X11_grow rfl rfl rfl (by decide +kernel) ⟨Nat.le_of_ble_eq_true rfl, Nat.le_of_ble_eq_true rfl⟩) rfl hl.1 rfl (Nat.le_of_ble_eq_true rfl) dL_law_908 (CSL.hf hcs) (fun r52237 q9 H locs hr52237 hP hD hS => ?_)
  obtain ⟨r52238, r52239, r52240, r52241, r52242, r52243, r52244, r52245, u⟩ := q9
  have hr52237 : Rg (-2147483648) 2147483647 r52237 ∧ Rg 0 40 r52242 ∧ Rg 0 40 r52243 ∧ Rg 0 40 r52244 ∧ Rg 0 40 r52245 ∧ (r52238.toInt = (cx 7).toInt ∧ r52242.toInt = (cx 11).toInt) ∧ (r52239.toInt = (cx 8).toInt ∧ r52243.toInt = (cx 12).toInt) ∧ (r52240.toInt = (cx 9).toInt ∧ r52244.toInt = (cx 13).toInt) ∧ (r52241.toInt = (cx 10).toInt ∧ r52245.toInt = (cx 14).toInt) := hr52237
  have hTX : TyX (mkL (cx 0) (cx 1) (cx 2) (cx 3) (cx 4) (cx 5) (cx 6) r52238 r52239 r52240 r52241 r52242 r52243 r52244 r52245) := ⟨hTX.1, hTX.2.1, hTX.2.2.1, hTX.2.2.2.1, (rg_w hr52237.2.1 (by decide) (by decide)), (rg_w hr52237.2.2.1 (by decide) (by decide)), (rg_w hr52237.2.2.2.1 (by decide) (by decide)), (rg_w hr52237.2.2.2.2.1 (by decide) (by decide))⟩
  refine lv_pop hx hb dL_law_911 rfl ?_
  refine lv_aload_n hx hb dL_law_912 rfl (lv_at hl 1 rfl) ?_
  refine lv_aload_n hx hb dL_law_913 rfl (lv_at hl 3 rfl) ?_
  refine lv_iload_n hx hb dL_law_914 rfl (lv_at hl 0 rfl) ?_
  refine lv_iconst (v := 1) hx hb dL_law_915 (by decide) ?_
  refine lv_iadd hx hb dL_law_916 ?_
  refine va_sld hx hb hX hbl hbA hS (lw_vin hi0 hi1 hL0 (by decide)) dL_law_917 ?_
  refine lz_top (y := x1) hx1 ?_
  refine lq_M (S := SU) (fL := fun _ => (mkM (my 0) (my 1) (my 2) (my 3) (my 4) (my 5) (my 6) (R 0) (R 1) (R 2))) (fu := fun q => q) (As := [.int x1]) (rest := []) ⟨hx, hb, hml, hown, hts⟩ (w_X12_grow l D cI cS _ b (mkM (my 0) (my 1) (my 2) (my 3) (my 4) (my 5) (my 6) (R 0) (R 1) (R 2)) v hTM hV x1 ) hKK hP hD hS hA (cwV 1 hts gL_law_X12_grow rfl rfl rfl (by decide +kernel) ⟨Nat.le_of_ble_eq_true rfl, Nat.le_of_ble_eq_true rfl⟩) rfl hl.1 rfl (Nat.le_of_ble_eq_true rfl) dL_law_918 (CSL.hf hcs) (fun r52246 v H locs hr52246 hP hD hS => ?_)
  have hV := hr52246.1
  refine lv_pop hx hb dL_law_921 rfl ?_
  refine lv_goto (tgt := 1486) hx hb dL_law_922 (by decide) ?_
  have hR2 : (cx 0).toInt = (my 0).toInt ∧ (cx 5).toInt = (my 1).toInt ∧ (cx 4).toInt = ((R 2) 1).toInt ∧ (cx 6).toInt = (my 2).toInt ∧ (cx 3).toInt = (my 3).toInt ∧ (cx 2).toInt = ((R 2) 0).toInt ∧ r52238.toInt = ((R 0) 0).toInt ∧ r52239.toInt = ((R 0) 1).toInt ∧ r52240.toInt = ((R 0) 2).toInt ∧ r52241.toInt = ((R 0) 3).toInt ∧ r52242.toInt = ((R 1) 0).toInt ∧ r52243.toInt = ((R 1) 1).toInt ∧ r52244.toInt = ((R 1) 2).toInt ∧ r52245.toInt = ((R 1) 3).toInt := by have zr := hR; have zz0 := hr52237.2.2.2.2.2.1; have zz1 := hr52237.2.2.2.2.2.2.1; have zz2 := hr52237.2.2.2.2.2.2.2.1; have zz3 := hr52237.2.2.2.2.2.2.2.2; refine ⟨by omega, by omega, by omega, by omega, by omega, by omega, by omega, by omega, by omega, by omega, by omega, by omega, by omega, by omega⟩
  exact tail na nc N  (upd (upd (upd (upd (upd (upd (upd (upd cx 7 r52238) 8 r52239) 9 r52240) 10 r52241) 11 r52242) 12 r52243) 13 r52244) 14 r52245) my R u v _ _ _ _ _ ⟨hcs, ⟨hTX, hTM, hV, hR2⟩, hP, hD, hS, hl⟩
set_option maxHeartbeats 4000000 in
set_option maxRecDepth 100000 in
theorem lc_27 {p : Program} {l : Launch} {e : Env} {s : State} {m : MethodId} {below : List Frame} {meth : Method} {c : Code} {b0 L0 : Nat} {xs : Nat → Int32} {D : va_G} {cI cS : ClassId} {A : Nat → Prop} {H : Heap} {locs : List Loc} {ls : Array Slot} {Q : State → Prop} {a b : Nat → Nat} {na nc N cells slots : Nat} {cx my : Nat → Int32} {R u v : SU} {i : Int32} (hx : p.tables.exec = Jvm.exec) (hb : c.code = cL_law) (hml : c.maxLocals = 4) (hown : s.vm.findClass RL = some m.cls) (hts : ∀ w ∈ wsL_law, w.before #[Value.ref b0] s = true) (hKK : KK D cI cS s) (hAB0 : AB s s.heap) (hA0 : ∀ q : Nat, q < s.heap.size → ¬ A q) (hX : va_X b0 L0 xs s s.heap) (hbl : b0 < s.heap.size) (hbA : ¬ A b0) (hA : ∀ q : Nat, s.heap.size ≤ q → A q) (hL0 : L0 ≤ 3072) (hi0 : 0 ≤ i.toInt) (hi1 : i.toInt + 6 ≤ (L0 : Int)) (hst : ST D cI cS A s a b b0 i na nc N cx my R u v H locs ls cells slots) (tail : ∀ (na nc N : Nat) (cx my : Nat → Int32) (R u v : SU) (H : Heap) (locs : List Loc) (ls : Array Slot) (cells slots : Nat), ST D cI cS A s a b b0 i na nc N cx my R u v H locs ls cells slots → W p l e room_1 s m #[Value.ref b0] below meth c H locs cells slots Q (F0 m 1486 ls [])) : W p l e room_1 s m #[Value.ref b0] below meth c H locs cells slots Q (F0 m 925 ls []) := by
  obtain ⟨hcs, ⟨hTX, hTM, hV, hR⟩, hP, hD, hS, hl⟩ := hst
  have hN := hcs.hN
  have hK := hKK.1
  have hR : (cx 0).toInt = (my 0).toInt ∧ (cx 5).toInt = (my 1).toInt ∧ (cx 4).toInt = ((R 2) 1).toInt ∧ (cx 6).toInt = (my 2).toInt ∧ (cx 3).toInt = (my 3).toInt ∧ (cx 2).toInt = ((R 2) 0).toInt ∧ (cx 7).toInt = ((R 0) 0).toInt ∧ (cx 8).toInt = ((R 0) 1).toInt ∧ (cx 9).toInt = ((R 0) 2).toInt ∧ (cx 10).toInt = ((R 0) 3).toInt ∧ (cx 11).toInt = ((R 1) 0).toInt ∧ (cx 12).toInt = ((R 1) 1).toInt ∧ (cx 13).toInt = ((R 1) 2).toInt ∧ (cx 14).toInt = ((R 1) 3).toInt := hR
  obtain ⟨x1, hx1⟩ : ∃ z, xs (i + 1).toNatClampNeg = z := ⟨_, rfl⟩
  obtain ⟨x2, hx2⟩ : ∃ z, xs (i + 2).toNatClampNeg = z := ⟨_, rfl⟩
  obtain ⟨x3, hx3⟩ : ∃ z, xs (i + 3).toNatClampNeg = z := ⟨_, rfl⟩
  obtain ⟨x4, hx4⟩ : ∃ z, xs (i + 4).toNatClampNeg = z := ⟨_, rfl⟩
  obtain ⟨x5, hx5⟩ : ∃ z, xs (i + 5).toNatClampNeg = z := ⟨_, rfl⟩
  refine lv_aload_n hx hb dL_law_925 rfl (lv_at hl 2 rfl) ?_
  refine lv_aload_n hx hb dL_law_926 rfl (lv_at hl 3 rfl) ?_
  refine lv_iload_n hx hb dL_law_927 rfl (lv_at hl 0 rfl) ?_
  refine lv_iconst (v := 1) hx hb dL_law_928 (by decide) ?_
  refine lv_iadd hx hb dL_law_929 ?_
  refine va_sld hx hb hX hbl hbA hS (lw_vin hi0 hi1 hL0 (by decide)) dL_law_930 ?_
  refine lz_top (y := x1) hx1 ?_
  refine lv_aload_n hx hb dL_law_931 rfl (lv_at hl 3 rfl) ?_
  refine lv_iload_n hx hb dL_law_932 rfl (lv_at hl 0 rfl) ?_
  refine lv_iconst (v := 2) hx hb dL_law_933 (by decide) ?_
  refine lv_iadd hx hb dL_law_934 ?_
  refine va_sld hx hb hX hbl hbA hS (lw_vin hi0 hi1 hL0 (by decide)) dL_law_935 ?_
  refine lz_top (y := x2) hx2 ?_
  refine lv_aload_n hx hb dL_law_936 rfl (lv_at hl 3 rfl) ?_
  refine lv_iload_n hx hb dL_law_937 rfl (lv_at hl 0 rfl) ?_
  refine lv_iconst (v := 3) hx hb dL_law_938 (by decide) ?_
  refine lv_iadd hx hb dL_law_939 ?_
  refine va_sld hx hb hX hbl hbA hS (lw_vin hi0 hi1 hL0 (by decide)) dL_law_940 ?_
  refine lz_top (y := x3) hx3 ?_
  refine lq_X (S := SU) (fna := fun _ => na) (fnc := fun _ => nc) (fN := fun _ => N) (fL := fun _ => (mkL (cx 0) (cx 1) (cx 2) (cx 3) (cx 4) (cx 5) (cx 6) (cx 7) (cx 8) (cx 9) (cx 10) (cx 11) (cx 12) (cx 13) (cx 14))) (fu := fun q => q) (As := [.int x1, .int x2, .int x3]) (rest := []) ⟨hx, hb, hml, hown, hts⟩ (k_X11_chains l D cI cS _ a na nc N (mkL (cx 0) (cx 1) (cx 2) (cx 3) (cx 4) (cx 5) (cx 6) (cx 7) (cx 8) (cx 9) (cx 10) (cx 11) (cx 12) (cx 13) (cx 14)) u hTX hN x1 x2 x3 ) hKK hP hD hS hA (cwV 3 hts gL_law_X11_chains rfl rfl rfl (by decide +kernel) ⟨Nat.le_of_ble_eq_true rfl, Nat.le_of_ble_eq_true rfl⟩) rfl hl.1 rfl (Nat.le_of_ble_eq_true rfl) dL_law_941 (CSL.hf hcs) (fun r52247 u H locs hr52247 hP hD hS => ?_)
  refine lv_pop hx hb dL_law_944 rfl ?_
  refine lv_aload_n hx hb dL_law_945 rfl (lv_at hl 1 rfl) ?_
  refine lv_aload_n hx hb dL_law_946 rfl (lv_at hl 3 rfl) ?_
  refine lv_iload_n hx hb dL_law_947 rfl (lv_at hl 0 rfl) ?_
  refine lv_iconst (v := 1) hx hb dL_law_948 (by decide) ?_
  refine lv_iadd hx hb dL_law_949 ?_
  refine va_sld hx hb hX hbl hbA hS (lw_vin hi0 hi1 hL0 (by decide)) dL_law_950 ?_
  refine lz_top (y := x1) hx1 ?_
  refine lv_aload_n hx hb dL_law_951 rfl (lv_at hl 3 rfl) ?_
  refine lv_iload_n hx hb dL_law_952 rfl (lv_at hl 0 rfl) ?_
  refine lv_iconst (v := 2) hx hb dL_law_953 (by decide) ?_
  refine lv_iadd hx hb dL_law_954 ?_
  refine va_sld hx hb hX hbl hbA hS (lw_vin hi0 hi1 hL0 (by decide)) dL_law_955 ?_
  refine lz_top (y := x2) hx2 ?_
  refine lv_aload_n hx hb dL_law_956 rfl (lv_at hl 3 rfl) ?_
  refine lv_iload_n hx hb dL_law_957 rfl (lv_at hl 0 rfl) ?_
  refine lv_iconst (v := 3) hx hb dL_law_958 (by decide) ?_
  refine lv_iadd hx hb dL_law_959 ?_
  refine va_sld hx hb hX hbl hbA hS (lw_vin hi0 hi1 hL0 (by decide)) dL_law_960 ?_
  refine lz_top (y := x3) hx3 ?_
  refine lq_M (S := SU) (fL := fun _ => (mkM (my 0) (my 1) (my 2) (my 3) (my 4) (my 5) (my 6) (R 0) (R 1) (R 2))) (fu := fun q => q) (As := [.int x1, .int x2, .int x3]) (rest := []) ⟨hx, hb, hml, hown, hts⟩ (w_X12_chains l D cI cS _ b (mkM (my 0) (my 1) (my 2) (my 3) (my 4) (my 5) (my 6) (R 0) (R 1) (R 2)) v hTM hV x1 x2 x3 ) hKK hP hD hS hA (cwV 3 hts gL_law_X12_chains rfl rfl rfl (by decide +kernel) ⟨Nat.le_of_ble_eq_true rfl, Nat.le_of_ble_eq_true rfl⟩) rfl hl.1 rfl (Nat.le_of_ble_eq_true rfl) dL_law_961 (CSL.hf hcs) (fun r52248 v H locs hr52248 hP hD hS => ?_)
  have hV := hr52248.1
  refine lv_pop hx hb dL_law_964 rfl ?_
  refine lv_goto (tgt := 1486) hx hb dL_law_965 (by decide) ?_
  exact tail na nc N  cx my R u v _ _ _ _ _ ⟨hcs, ⟨hTX, hTM, hV, hR⟩, hP, hD, hS, hl⟩
set_option maxHeartbeats 4000000 in
set_option maxRecDepth 100000 in
theorem lc_28 {p : Program} {l : Launch} {e : Env} {s : State} {m : MethodId} {below : List Frame} {meth : Method} {c : Code} {b0 L0 : Nat} {xs : Nat → Int32} {D : va_G} {cI cS : ClassId} {A : Nat → Prop} {H : Heap} {locs : List Loc} {ls : Array Slot} {Q : State → Prop} {a b : Nat → Nat} {na nc N cells slots : Nat} {cx my : Nat → Int32} {R u v : SU} {i : Int32} (hx : p.tables.exec = Jvm.exec) (hb : c.code = cL_law) (hml : c.maxLocals = 4) (hown : s.vm.findClass RL = some m.cls) (hts : ∀ w ∈ wsL_law, w.before #[Value.ref b0] s = true) (hKK : KK D cI cS s) (hAB0 : AB s s.heap) (hA0 : ∀ q : Nat, q < s.heap.size → ¬ A q) (hX : va_X b0 L0 xs s s.heap) (hbl : b0 < s.heap.size) (hbA : ¬ A b0) (hA : ∀ q : Nat, s.heap.size ≤ q → A q) (hL0 : L0 ≤ 3072) (hi0 : 0 ≤ i.toInt) (hi1 : i.toInt + 6 ≤ (L0 : Int)) (hst : ST D cI cS A s a b b0 i na nc N cx my R u v H locs ls cells slots) (tail : ∀ (na nc N : Nat) (cx my : Nat → Int32) (R u v : SU) (H : Heap) (locs : List Loc) (ls : Array Slot) (cells slots : Nat), ST D cI cS A s a b b0 i na nc N cx my R u v H locs ls cells slots → W p l e room_1 s m #[Value.ref b0] below meth c H locs cells slots Q (F0 m 1486 ls [])) : W p l e room_1 s m #[Value.ref b0] below meth c H locs cells slots Q (F0 m 968 ls []) := by
  obtain ⟨hcs, ⟨hTX, hTM, hV, hR⟩, hP, hD, hS, hl⟩ := hst
  have hN := hcs.hN
  have hK := hKK.1
  have hR : (cx 0).toInt = (my 0).toInt ∧ (cx 5).toInt = (my 1).toInt ∧ (cx 4).toInt = ((R 2) 1).toInt ∧ (cx 6).toInt = (my 2).toInt ∧ (cx 3).toInt = (my 3).toInt ∧ (cx 2).toInt = ((R 2) 0).toInt ∧ (cx 7).toInt = ((R 0) 0).toInt ∧ (cx 8).toInt = ((R 0) 1).toInt ∧ (cx 9).toInt = ((R 0) 2).toInt ∧ (cx 10).toInt = ((R 0) 3).toInt ∧ (cx 11).toInt = ((R 1) 0).toInt ∧ (cx 12).toInt = ((R 1) 1).toInt ∧ (cx 13).toInt = ((R 1) 2).toInt ∧ (cx 14).toInt = ((R 1) 3).toInt := hR
  obtain ⟨x1, hx1⟩ : ∃ z, xs (i + 1).toNatClampNeg = z := ⟨_, rfl⟩
  obtain ⟨x2, hx2⟩ : ∃ z, xs (i + 2).toNatClampNeg = z := ⟨_, rfl⟩
  obtain ⟨x3, hx3⟩ : ∃ z, xs (i + 3).toNatClampNeg = z := ⟨_, rfl⟩
  obtain ⟨x4, hx4⟩ : ∃ z, xs (i + 4).toNatClampNeg = z := ⟨_, rfl⟩
  obtain ⟨x5, hx5⟩ : ∃ z, xs (i + 5).toNatClampNeg = z := ⟨_, rfl⟩
  refine lv_aload_n hx hb dL_law_968 rfl (lv_at hl 2 rfl) ?_
  refine lv_aload_n hx hb dL_law_969 rfl (lv_at hl 3 rfl) ?_
  refine lv_iload_n hx hb dL_law_970 rfl (lv_at hl 0 rfl) ?_
  refine lv_iconst (v := 1) hx hb dL_law_971 (by decide) ?_
  refine lv_iadd hx hb dL_law_972 ?_
  refine va_sld hx hb hX hbl hbA hS (lw_vin hi0 hi1 hL0 (by decide)) dL_law_973 ?_
  refine lz_top (y := x1) hx1 ?_
  refine lv_aload_n hx hb dL_law_974 rfl (lv_at hl 3 rfl) ?_
  refine lv_iload_n hx hb dL_law_975 rfl (lv_at hl 0 rfl) ?_
  refine lv_iconst (v := 2) hx hb dL_law_976 (by decide) ?_
  refine lv_iadd hx hb dL_law_977 ?_
  refine va_sld hx hb hX hbl hbA hS (lw_vin hi0 hi1 hL0 (by decide)) dL_law_978 ?_
  refine lz_top (y := x2) hx2 ?_
  refine lq_X (S := Int32 × Int32 × Int32 × Int32 × Int32 × Int32 × Int32 × Int32 × SU) (fna := fun _ => na) (fnc := fun _ => nc) (fN := fun _ => N) (fL := fun q => mkL (cx 0) (cx 1) (cx 2) (cx 3) (cx 4) (cx 5) (cx 6) q.1 q.2.1 q.2.2.1 q.2.2.2.1 q.2.2.2.2.1 q.2.2.2.2.2.1 q.2.2.2.2.2.2.1 q.2.2.2.2.2.2.2.1) (fu := fun q => q.2.2.2.2.2.2.2.2) (As := [.int x1, .int x2]) (rest := []) ⟨hx, hb, hml, hown, hts⟩ (k_X11_paint l D cI cS _ a na nc N (cx 0) (cx 1) (cx 2) (cx 3) (cx 4) (cx 5) (cx 6) (cx 7) (cx 8) (cx 9) (cx 10) (cx 11) (cx 12) (cx 13) (cx 14) u hTX hN x1 x2 ) hKK hP hD hS hA (cwV 2 hts gL_law_X11_paint rfl rfl rfl (by decide +kernel) ⟨Nat.le_of_ble_eq_true rfl, Nat.le_of_ble_eq_true rfl⟩) rfl hl.1 rfl (Nat.le_of_ble_eq_true rfl) dL_law_979 (CSL.hf hcs) (fun r52249 q9 H locs hr52249 hP hD hS => ?_)
  obtain ⟨r52250, r52251, r52252, r52253, r52254, r52255, r52256, r52257, u⟩ := q9
  have hr52249 : Rg (-2) 12 r52249 ∧ Rg 0 40 r52254 ∧ Rg 0 40 r52255 ∧ Rg 0 40 r52256 ∧ Rg 0 40 r52257 ∧ ((x1.toInt < 0 ∨ 3 < x1.toInt ∨ x2.toInt < 0 ∨ 1 < x2.toInt → r52249.toInt = -2) ∧ (0 ≤ x1.toInt → x1.toInt ≤ 3 → 0 ≤ x2.toInt → x2.toInt ≤ 1 → r52249.toInt = (cx 0).toInt)) ∧ ((¬ r52249.toInt = -2 → x1.toInt = 0 → r52250.toInt = x2.toInt ∧ r52254.toInt = (cx 0).toInt) ∧ ((r52249.toInt = -2 ∨ ¬ x1.toInt = 0) → r52250.toInt = (cx 7).toInt ∧ r52254.toInt = (cx 11).toInt)) ∧ ((¬ r52249.toInt = -2 → x1.toInt = 1 → r52251.toInt = x2.toInt ∧ r52255.toInt = (cx 0).toInt) ∧ ((r52249.toInt = -2 ∨ ¬ x1.toInt = 1) → r52251.toInt = (cx 8).toInt ∧ r52255.toInt = (cx 12).toInt)) ∧ ((¬ r52249.toInt = -2 → x1.toInt = 2 → r52252.toInt = x2.toInt ∧ r52256.toInt = (cx 0).toInt) ∧ ((r52249.toInt = -2 ∨ ¬ x1.toInt = 2) → r52252.toInt = (cx 9).toInt ∧ r52256.toInt = (cx 13).toInt)) ∧ ((¬ r52249.toInt = -2 → x1.toInt = 3 → r52253.toInt = x2.toInt ∧ r52257.toInt = (cx 0).toInt) ∧ ((r52249.toInt = -2 ∨ ¬ x1.toInt = 3) → r52253.toInt = (cx 10).toInt ∧ r52257.toInt = (cx 14).toInt)) := hr52249
  have hTX : TyX (mkL (cx 0) (cx 1) (cx 2) (cx 3) (cx 4) (cx 5) (cx 6) r52250 r52251 r52252 r52253 r52254 r52255 r52256 r52257) := ⟨hTX.1, hTX.2.1, hTX.2.2.1, hTX.2.2.2.1, (rg_w hr52249.2.1 (by decide) (by decide)), (rg_w hr52249.2.2.1 (by decide) (by decide)), (rg_w hr52249.2.2.2.1 (by decide) (by decide)), (rg_w hr52249.2.2.2.2.1 (by decide) (by decide))⟩
  refine lv_pop hx hb dL_law_982 rfl ?_
  refine lv_aload_n hx hb dL_law_983 rfl (lv_at hl 1 rfl) ?_
  refine lv_aload_n hx hb dL_law_984 rfl (lv_at hl 3 rfl) ?_
  refine lv_iload_n hx hb dL_law_985 rfl (lv_at hl 0 rfl) ?_
  refine lv_iconst (v := 1) hx hb dL_law_986 (by decide) ?_
  refine lv_iadd hx hb dL_law_987 ?_
  refine va_sld hx hb hX hbl hbA hS (lw_vin hi0 hi1 hL0 (by decide)) dL_law_988 ?_
  refine lz_top (y := x1) hx1 ?_
  refine lv_aload_n hx hb dL_law_989 rfl (lv_at hl 3 rfl) ?_
  refine lv_iload_n hx hb dL_law_990 rfl (lv_at hl 0 rfl) ?_
  refine lv_iconst (v := 2) hx hb dL_law_991 (by decide) ?_
  refine lv_iadd hx hb dL_law_992 ?_
  refine va_sld hx hb hX hbl hbA hS (lw_vin hi0 hi1 hL0 (by decide)) dL_law_993 ?_
  refine lz_top (y := x2) hx2 ?_
  refine lq_M (S := (Nat → Int32) × (Nat → Int32) × SU) (fL := fun q => mkM (my 0) (my 1) (my 2) (my 3) (my 4) (my 5) (my 6) q.1 q.2.1 (R 2)) (fu := fun q => q.2.2) (As := [.int x1, .int x2]) (rest := []) ⟨hx, hb, hml, hown, hts⟩ (w_X12_paint l D cI cS _ b (my 0) (my 1) (my 2) (my 3) (my 4) (my 5) (my 6) (R 0) (R 1) (R 2) v hTM hV x1 x2 ) hKK hP hD hS hA (cwV 2 hts gL_law_X12_paint rfl rfl rfl (by decide +kernel) ⟨Nat.le_of_ble_eq_true rfl, Nat.le_of_ble_eq_true rfl⟩) rfl hl.1 rfl (Nat.le_of_ble_eq_true rfl) dL_law_994 (CSL.hf hcs) (fun r52258 q9 H locs hr52258 hP hD hS => ?_)
  obtain ⟨f52259, f52260, v⟩ := q9
  have hr52258 : TyV v ∧ Rg (-2) 12 r52258 ∧ Ar (-1) 1 f52259 ∧ Ar 0 40 f52260 ∧ ((x1.toInt < 0 ∨ 3 < x1.toInt ∨ x2.toInt < 0 ∨ 1 < x2.toInt → r52258.toInt = -2) ∧ (0 ≤ x1.toInt → x1.toInt ≤ 3 → 0 ≤ x2.toInt → x2.toInt ≤ 1 → r52258.toInt = (my 0).toInt)) ∧ ((r52258.toInt = -2 → f52259 = (R 0) ∧ f52260 = (R 1)) ∧ (¬ r52258.toInt = -2 → f52259 = upd (R 0) x1.toNatClampNeg x2 ∧ f52260 = upd (R 1) x1.toNatClampNeg (my 0))) := hr52258
  have hV := hr52258.1
  have hTM : TyL (mkM (my 0) (my 1) (my 2) (my 3) (my 4) (my 5) (my 6) f52259 f52260 (R 2)) := ⟨hTM.1, hTM.2.1, hr52258.2.2.1, hr52258.2.2.2.1, hTM.2.2.2.2.1, hTM.2.2.2.2.2⟩
  refine lv_pop hx hb dL_law_997 rfl ?_
  refine lv_goto (tgt := 1486) hx hb dL_law_998 (by decide) ?_
  have hj0 := pa_rel (k := 0) (by decide) hr52249.2.2.2.2.2.1 hr52258.2.2.2.2.1 hr52249.2.2.2.2.2.2.1 hr52258.2.2.2.2.2 (show (cx 7).toInt = ((R 0) 0).toInt from by have zr := hR; omega) (show (cx 11).toInt = ((R 1) 0).toInt from by have zr := hR; omega) (show (cx 0).toInt = (my 0).toInt from by have zr := hR; omega)
  have hj1 := pa_rel (k := 1) (by decide) hr52249.2.2.2.2.2.1 hr52258.2.2.2.2.1 hr52249.2.2.2.2.2.2.2.1 hr52258.2.2.2.2.2 (show (cx 8).toInt = ((R 0) 1).toInt from by have zr := hR; omega) (show (cx 12).toInt = ((R 1) 1).toInt from by have zr := hR; omega) (show (cx 0).toInt = (my 0).toInt from by have zr := hR; omega)
  have hj2 := pa_rel (k := 2) (by decide) hr52249.2.2.2.2.2.1 hr52258.2.2.2.2.1 hr52249.2.2.2.2.2.2.2.2.1 hr52258.2.2.2.2.2 (show (cx 9).toInt = ((R 0) 2).toInt from by have zr := hR; omega) (show (cx 13).toInt = ((R 1) 2).toInt from by have zr := hR; omega) (show (cx 0).toInt = (my 0).toInt from by have zr := hR; omega)
  have hj3 := pa_rel (k := 3) (by decide) hr52249.2.2.2.2.2.1 hr52258.2.2.2.2.1 hr52249.2.2.2.2.2.2.2.2.2 hr52258.2.2.2.2.2 (show (cx 10).toInt = ((R 0) 3).toInt from by have zr := hR; omega) (show (cx 14).toInt = ((R 1) 3).toInt from by have zr := hR; omega) (show (cx 0).toInt = (my 0).toInt from by have zr := hR; omega)
  have hR2 : (cx 0).toInt = (my 0).toInt ∧ (cx 5).toInt = (my 1).toInt ∧ (cx 4).toInt = ((R 2) 1).toInt ∧ (cx 6).toInt = (my 2).toInt ∧ (cx 3).toInt = (my 3).toInt ∧ (cx 2).toInt = ((R 2) 0).toInt ∧ r52250.toInt = (f52259 0).toInt ∧ r52251.toInt = (f52259 1).toInt ∧ r52252.toInt = (f52259 2).toInt ∧ r52253.toInt = (f52259 3).toInt ∧ r52254.toInt = (f52260 0).toInt ∧ r52255.toInt = (f52260 1).toInt ∧ r52256.toInt = (f52260 2).toInt ∧ r52257.toInt = (f52260 3).toInt := ⟨(by have zr := hR; omega), (by have zr := hR; omega), (by have zr := hR; omega), (by have zr := hR; omega), (by have zr := hR; omega), (by have zr := hR; omega), hj0.1, hj1.1, hj2.1, hj3.1, hj0.2, hj1.2, hj2.2, hj3.2⟩
  exact tail na nc N  (upd (upd (upd (upd (upd (upd (upd (upd cx 7 r52250) 8 r52251) 9 r52252) 10 r52253) 11 r52254) 12 r52255) 13 r52256) 14 r52257) my (sU (sU R 0 f52259) 1 f52260) u v _ _ _ _ _ ⟨hcs, ⟨hTX, hTM, hV, hR2⟩, hP, hD, hS, hl⟩
set_option maxHeartbeats 4000000 in
set_option maxRecDepth 100000 in
theorem lc_29 {p : Program} {l : Launch} {e : Env} {s : State} {m : MethodId} {below : List Frame} {meth : Method} {c : Code} {b0 L0 : Nat} {xs : Nat → Int32} {D : va_G} {cI cS : ClassId} {A : Nat → Prop} {H : Heap} {locs : List Loc} {ls : Array Slot} {Q : State → Prop} {a b : Nat → Nat} {na nc N cells slots : Nat} {cx my : Nat → Int32} {R u v : SU} {i : Int32} (hx : p.tables.exec = Jvm.exec) (hb : c.code = cL_law) (hml : c.maxLocals = 4) (hown : s.vm.findClass RL = some m.cls) (hts : ∀ w ∈ wsL_law, w.before #[Value.ref b0] s = true) (hKK : KK D cI cS s) (hAB0 : AB s s.heap) (hA0 : ∀ q : Nat, q < s.heap.size → ¬ A q) (hX : va_X b0 L0 xs s s.heap) (hbl : b0 < s.heap.size) (hbA : ¬ A b0) (hA : ∀ q : Nat, s.heap.size ≤ q → A q) (hL0 : L0 ≤ 3072) (hi0 : 0 ≤ i.toInt) (hi1 : i.toInt + 6 ≤ (L0 : Int)) (hst : ST D cI cS A s a b b0 i na nc N cx my R u v H locs ls cells slots) (tail : ∀ (na nc N : Nat) (cx my : Nat → Int32) (R u v : SU) (H : Heap) (locs : List Loc) (ls : Array Slot) (cells slots : Nat), ST D cI cS A s a b b0 i na nc N cx my R u v H locs ls cells slots → W p l e room_1 s m #[Value.ref b0] below meth c H locs cells slots Q (F0 m 1486 ls [])) : W p l e room_1 s m #[Value.ref b0] below meth c H locs cells slots Q (F0 m 1001 ls []) := by
  obtain ⟨hcs, ⟨hTX, hTM, hV, hR⟩, hP, hD, hS, hl⟩ := hst
  have hN := hcs.hN
  have hK := hKK.1
  have hR : (cx 0).toInt = (my 0).toInt ∧ (cx 5).toInt = (my 1).toInt ∧ (cx 4).toInt = ((R 2) 1).toInt ∧ (cx 6).toInt = (my 2).toInt ∧ (cx 3).toInt = (my 3).toInt ∧ (cx 2).toInt = ((R 2) 0).toInt ∧ (cx 7).toInt = ((R 0) 0).toInt ∧ (cx 8).toInt = ((R 0) 1).toInt ∧ (cx 9).toInt = ((R 0) 2).toInt ∧ (cx 10).toInt = ((R 0) 3).toInt ∧ (cx 11).toInt = ((R 1) 0).toInt ∧ (cx 12).toInt = ((R 1) 1).toInt ∧ (cx 13).toInt = ((R 1) 2).toInt ∧ (cx 14).toInt = ((R 1) 3).toInt := hR
  obtain ⟨x1, hx1⟩ : ∃ z, xs (i + 1).toNatClampNeg = z := ⟨_, rfl⟩
  obtain ⟨x2, hx2⟩ : ∃ z, xs (i + 2).toNatClampNeg = z := ⟨_, rfl⟩
  obtain ⟨x3, hx3⟩ : ∃ z, xs (i + 3).toNatClampNeg = z := ⟨_, rfl⟩
  obtain ⟨x4, hx4⟩ : ∃ z, xs (i + 4).toNatClampNeg = z := ⟨_, rfl⟩
  obtain ⟨x5, hx5⟩ : ∃ z, xs (i + 5).toNatClampNeg = z := ⟨_, rfl⟩
  refine lv_aload_n hx hb dL_law_1001 rfl (lv_at hl 2 rfl) ?_
  refine lv_aload_n hx hb dL_law_1002 rfl (lv_at hl 3 rfl) ?_
  refine lv_iload_n hx hb dL_law_1003 rfl (lv_at hl 0 rfl) ?_
  refine lv_iconst (v := 1) hx hb dL_law_1004 (by decide) ?_
  refine lv_iadd hx hb dL_law_1005 ?_
  refine va_sld hx hb hX hbl hbA hS (lw_vin hi0 hi1 hL0 (by decide)) dL_law_1006 ?_
  refine lz_top (y := x1) hx1 ?_
  refine lv_aload_n hx hb dL_law_1007 rfl (lv_at hl 3 rfl) ?_
  refine lv_iload_n hx hb dL_law_1008 rfl (lv_at hl 0 rfl) ?_
  refine lv_iconst (v := 2) hx hb dL_law_1009 (by decide) ?_
  refine lv_iadd hx hb dL_law_1010 ?_
  refine va_sld hx hb hX hbl hbA hS (lw_vin hi0 hi1 hL0 (by decide)) dL_law_1011 ?_
  refine lz_top (y := x2) hx2 ?_
  refine lq_X (S := Int32 × SU) (fna := fun _ => na) (fnc := fun _ => nc) (fN := fun _ => N) (fL := fun q => mkL (cx 0) (cx 1) (cx 2) (cx 3) (cx 4) (cx 5) q.1 (cx 7) (cx 8) (cx 9) (cx 10) (cx 11) (cx 12) (cx 13) (cx 14)) (fu := fun q => q.2) (As := [.int x1, .int x2]) (rest := []) ⟨hx, hb, hml, hown, hts⟩ (k_X11_feed l D cI cS _ a na nc N (cx 0) (cx 1) (cx 2) (cx 3) (cx 4) (cx 5) (cx 6) (cx 7) (cx 8) (cx 9) (cx 10) (cx 11) (cx 12) (cx 13) (cx 14) u hTX hN x1 x2 ) hKK hP hD hS hA (cwV 2 hts gL_law_X11_feed rfl rfl rfl (by decide +kernel) ⟨Nat.le_of_ble_eq_true rfl, Nat.le_of_ble_eq_true rfl⟩) rfl hl.1 rfl (Nat.le_of_ble_eq_true rfl) dL_law_1012 (CSL.hf hcs) (fun r52261 q9 H locs hr52261 hP hD hS => ?_)
  obtain ⟨r52262, u⟩ := q9
  have hr52261 : Rg (-4) 120 r52261 ∧ Rg 0 120 r52262 ∧ ((x2.toInt < 1 ∨ 4 < x2.toInt → r52261.toInt = -2 ∧ r52262.toInt = (cx 6).toInt) ∧ (1 ≤ x2.toInt → x2.toInt ≤ 4 → 120 < (cx 6).toInt + x2.toInt → r52261.toInt = -4 ∧ r52262.toInt = (cx 6).toInt) ∧ (1 ≤ x2.toInt → x2.toInt ≤ 4 → (cx 6).toInt + x2.toInt ≤ 120 → r52261.toInt = (cx 6).toInt + x2.toInt ∧ r52262.toInt = (cx 6).toInt + x2.toInt)) := hr52261
  have hTX : TyX (mkL (cx 0) (cx 1) (cx 2) (cx 3) (cx 4) (cx 5) r52262 (cx 7) (cx 8) (cx 9) (cx 10) (cx 11) (cx 12) (cx 13) (cx 14)) := ⟨hTX.1, hTX.2.1, hTX.2.2.1, (rg_w hr52261.2.1 (by decide) (by decide)), hTX.2.2.2.2.1, hTX.2.2.2.2.2.1, hTX.2.2.2.2.2.2.1, hTX.2.2.2.2.2.2.2⟩
  refine lv_pop hx hb dL_law_1015 rfl ?_
  refine lv_aload_n hx hb dL_law_1016 rfl (lv_at hl 1 rfl) ?_
  refine lv_aload_n hx hb dL_law_1017 rfl (lv_at hl 3 rfl) ?_
  refine lv_iload_n hx hb dL_law_1018 rfl (lv_at hl 0 rfl) ?_
  refine lv_iconst (v := 1) hx hb dL_law_1019 (by decide) ?_
  refine lv_iadd hx hb dL_law_1020 ?_
  refine va_sld hx hb hX hbl hbA hS (lw_vin hi0 hi1 hL0 (by decide)) dL_law_1021 ?_
  refine lz_top (y := x1) hx1 ?_
  refine lv_aload_n hx hb dL_law_1022 rfl (lv_at hl 3 rfl) ?_
  refine lv_iload_n hx hb dL_law_1023 rfl (lv_at hl 0 rfl) ?_
  refine lv_iconst (v := 2) hx hb dL_law_1024 (by decide) ?_
  refine lv_iadd hx hb dL_law_1025 ?_
  refine va_sld hx hb hX hbl hbA hS (lw_vin hi0 hi1 hL0 (by decide)) dL_law_1026 ?_
  refine lz_top (y := x2) hx2 ?_
  refine lq_M (S := Int32 × SU) (fL := fun q => mkM (my 0) (my 1) q.1 (my 3) (my 4) (my 5) (my 6) (R 0) (R 1) (R 2)) (fu := fun q => q.2) (As := [.int x1, .int x2]) (rest := []) ⟨hx, hb, hml, hown, hts⟩ (w_X12_feed l D cI cS _ b (my 0) (my 1) (my 2) (my 3) (my 4) (my 5) (my 6) (R 0) (R 1) (R 2) v hTM hV x1 x2 ) hKK hP hD hS hA (cwV 2 hts gL_law_X12_feed rfl rfl rfl (by decide +kernel) ⟨Nat.le_of_ble_eq_true rfl, Nat.le_of_ble_eq_true rfl⟩) rfl hl.1 rfl (Nat.le_of_ble_eq_true rfl) dL_law_1027 (CSL.hf hcs) (fun r52263 q9 H locs hr52263 hP hD hS => ?_)
  obtain ⟨r52264, v⟩ := q9
  have hr52263 : TyV v ∧ Rg (-4) 120 r52263 ∧ Rg 0 120 r52264 ∧ ((x2.toInt < 1 ∨ 4 < x2.toInt → r52263.toInt = -2 ∧ r52264.toInt = (my 2).toInt) ∧ (1 ≤ x2.toInt → x2.toInt ≤ 4 → 120 < (my 2).toInt + x2.toInt → r52263.toInt = -4 ∧ r52264.toInt = (my 2).toInt) ∧ (1 ≤ x2.toInt → x2.toInt ≤ 4 → (my 2).toInt + x2.toInt ≤ 120 → r52263.toInt = (my 2).toInt + x2.toInt ∧ r52264.toInt = (my 2).toInt + x2.toInt)) := hr52263
  have hV := hr52263.1
  have hTM : TyL (mkM (my 0) (my 1) r52264 (my 3) (my 4) (my 5) (my 6) (R 0) (R 1) (R 2)) := ⟨hTM.1, (rg_w hr52263.2.2.1 (by decide) (by decide)), hTM.2.2.1, hTM.2.2.2.1, hTM.2.2.2.2.1, hTM.2.2.2.2.2⟩
  refine lv_pop hx hb dL_law_1030 rfl ?_
  refine lv_goto (tgt := 1486) hx hb dL_law_1031 (by decide) ?_
  have hR2 : (cx 0).toInt = (my 0).toInt ∧ (cx 5).toInt = (my 1).toInt ∧ (cx 4).toInt = ((R 2) 1).toInt ∧ r52262.toInt = r52264.toInt ∧ (cx 3).toInt = (my 3).toInt ∧ (cx 2).toInt = ((R 2) 0).toInt ∧ (cx 7).toInt = ((R 0) 0).toInt ∧ (cx 8).toInt = ((R 0) 1).toInt ∧ (cx 9).toInt = ((R 0) 2).toInt ∧ (cx 10).toInt = ((R 0) 3).toInt ∧ (cx 11).toInt = ((R 1) 0).toInt ∧ (cx 12).toInt = ((R 1) 1).toInt ∧ (cx 13).toInt = ((R 1) 2).toInt ∧ (cx 14).toInt = ((R 1) 3).toInt := by have zr := hR; have zz0 := hr52261.2.2; have zz1 := hr52263.2.2.2; refine ⟨by omega, by omega, by omega, by omega, by omega, by omega, by omega, by omega, by omega, by omega, by omega, by omega, by omega, by omega⟩
  exact tail na nc N  (upd cx 6 r52262) (upd my 2 r52264) R u v _ _ _ _ _ ⟨hcs, ⟨hTX, hTM, hV, hR2⟩, hP, hD, hS, hl⟩
set_option maxHeartbeats 4000000 in
set_option maxRecDepth 100000 in
theorem lc_30 {p : Program} {l : Launch} {e : Env} {s : State} {m : MethodId} {below : List Frame} {meth : Method} {c : Code} {b0 L0 : Nat} {xs : Nat → Int32} {D : va_G} {cI cS : ClassId} {A : Nat → Prop} {H : Heap} {locs : List Loc} {ls : Array Slot} {Q : State → Prop} {a b : Nat → Nat} {na nc N cells slots : Nat} {cx my : Nat → Int32} {R u v : SU} {i : Int32} (hx : p.tables.exec = Jvm.exec) (hb : c.code = cL_law) (hml : c.maxLocals = 4) (hown : s.vm.findClass RL = some m.cls) (hts : ∀ w ∈ wsL_law, w.before #[Value.ref b0] s = true) (hKK : KK D cI cS s) (hAB0 : AB s s.heap) (hA0 : ∀ q : Nat, q < s.heap.size → ¬ A q) (hX : va_X b0 L0 xs s s.heap) (hbl : b0 < s.heap.size) (hbA : ¬ A b0) (hA : ∀ q : Nat, s.heap.size ≤ q → A q) (hL0 : L0 ≤ 3072) (hi0 : 0 ≤ i.toInt) (hi1 : i.toInt + 6 ≤ (L0 : Int)) (hst : ST D cI cS A s a b b0 i na nc N cx my R u v H locs ls cells slots) (tail : ∀ (na nc N : Nat) (cx my : Nat → Int32) (R u v : SU) (H : Heap) (locs : List Loc) (ls : Array Slot) (cells slots : Nat), ST D cI cS A s a b b0 i na nc N cx my R u v H locs ls cells slots → W p l e room_1 s m #[Value.ref b0] below meth c H locs cells slots Q (F0 m 1486 ls [])) : W p l e room_1 s m #[Value.ref b0] below meth c H locs cells slots Q (F0 m 1034 ls []) := by
  obtain ⟨hcs, ⟨hTX, hTM, hV, hR⟩, hP, hD, hS, hl⟩ := hst
  have hN := hcs.hN
  have hK := hKK.1
  have hR : (cx 0).toInt = (my 0).toInt ∧ (cx 5).toInt = (my 1).toInt ∧ (cx 4).toInt = ((R 2) 1).toInt ∧ (cx 6).toInt = (my 2).toInt ∧ (cx 3).toInt = (my 3).toInt ∧ (cx 2).toInt = ((R 2) 0).toInt ∧ (cx 7).toInt = ((R 0) 0).toInt ∧ (cx 8).toInt = ((R 0) 1).toInt ∧ (cx 9).toInt = ((R 0) 2).toInt ∧ (cx 10).toInt = ((R 0) 3).toInt ∧ (cx 11).toInt = ((R 1) 0).toInt ∧ (cx 12).toInt = ((R 1) 1).toInt ∧ (cx 13).toInt = ((R 1) 2).toInt ∧ (cx 14).toInt = ((R 1) 3).toInt := hR
  obtain ⟨x1, hx1⟩ : ∃ z, xs (i + 1).toNatClampNeg = z := ⟨_, rfl⟩
  obtain ⟨x2, hx2⟩ : ∃ z, xs (i + 2).toNatClampNeg = z := ⟨_, rfl⟩
  obtain ⟨x3, hx3⟩ : ∃ z, xs (i + 3).toNatClampNeg = z := ⟨_, rfl⟩
  obtain ⟨x4, hx4⟩ : ∃ z, xs (i + 4).toNatClampNeg = z := ⟨_, rfl⟩
  obtain ⟨x5, hx5⟩ : ∃ z, xs (i + 5).toNatClampNeg = z := ⟨_, rfl⟩
  refine lv_aload_n hx hb dL_law_1034 rfl (lv_at hl 2 rfl) ?_
  refine lq_X (S := Int32 × SU) (fna := fun _ => na) (fnc := fun _ => nc) (fN := fun _ => N) (fL := fun q => mkL (cx 0) (cx 1) (cx 2) (cx 3) (cx 4) (cx 5) q.1 (cx 7) (cx 8) (cx 9) (cx 10) (cx 11) (cx 12) (cx 13) (cx 14)) (fu := fun q => q.2) (As := []) (rest := []) ⟨hx, hb, hml, hown, hts⟩ (k_X11_wipe l D cI cS _ a na nc N (cx 0) (cx 1) (cx 2) (cx 3) (cx 4) (cx 5) (cx 6) (cx 7) (cx 8) (cx 9) (cx 10) (cx 11) (cx 12) (cx 13) (cx 14) u hTX hN  ) hKK hP hD hS hA (cwV 0 hts gL_law_X11_wipe rfl rfl rfl (by decide +kernel) ⟨Nat.le_of_ble_eq_true rfl, Nat.le_of_ble_eq_true rfl⟩) rfl hl.1 rfl (Nat.le_of_ble_eq_true rfl) dL_law_1035 (CSL.hf hcs) (fun r52265 q9 H locs hr52265 hP hD hS => ?_)
  obtain ⟨r52266, u⟩ := q9
  have hr52265 : Rg 0 120 r52265 ∧ Rg 0 0 r52266 ∧ (r52265.toInt = (cx 6).toInt ∧ r52266.toInt = 0) := hr52265
  have hTX : TyX (mkL (cx 0) (cx 1) (cx 2) (cx 3) (cx 4) (cx 5) r52266 (cx 7) (cx 8) (cx 9) (cx 10) (cx 11) (cx 12) (cx 13) (cx 14)) := ⟨hTX.1, hTX.2.1, hTX.2.2.1, (rg_w hr52265.2.1 (by decide) (by decide)), hTX.2.2.2.2.1, hTX.2.2.2.2.2.1, hTX.2.2.2.2.2.2.1, hTX.2.2.2.2.2.2.2⟩
  refine lv_pop hx hb dL_law_1038 rfl ?_
  refine lv_aload_n hx hb dL_law_1039 rfl (lv_at hl 1 rfl) ?_
  refine lq_M (S := Int32 × SU) (fL := fun q => mkM (my 0) (my 1) q.1 (my 3) (my 4) (my 5) (my 6) (R 0) (R 1) (R 2)) (fu := fun q => q.2) (As := []) (rest := []) ⟨hx, hb, hml, hown, hts⟩ (w_X12_wipe l D cI cS _ b (my 0) (my 1) (my 2) (my 3) (my 4) (my 5) (my 6) (R 0) (R 1) (R 2) v hTM hV  ) hKK hP hD hS hA (cwV 0 hts gL_law_X12_wipe rfl rfl rfl (by decide +kernel) ⟨Nat.le_of_ble_eq_true rfl, Nat.le_of_ble_eq_true rfl⟩) rfl hl.1 rfl (Nat.le_of_ble_eq_true rfl) dL_law_1040 (CSL.hf hcs) (fun r52267 q9 H locs hr52267 hP hD hS => ?_)
  obtain ⟨r52268, v⟩ := q9
  have hr52267 : TyV v ∧ Rg 0 120 r52267 ∧ Rg 0 0 r52268 ∧ (r52267.toInt = (my 2).toInt ∧ r52268.toInt = 0) := hr52267
  have hV := hr52267.1
  have hTM : TyL (mkM (my 0) (my 1) r52268 (my 3) (my 4) (my 5) (my 6) (R 0) (R 1) (R 2)) := ⟨hTM.1, (rg_w hr52267.2.2.1 (by decide) (by decide)), hTM.2.2.1, hTM.2.2.2.1, hTM.2.2.2.2.1, hTM.2.2.2.2.2⟩
  refine lv_pop hx hb dL_law_1043 rfl ?_
  refine lv_goto (tgt := 1486) hx hb dL_law_1044 (by decide) ?_
  have hR2 : (cx 0).toInt = (my 0).toInt ∧ (cx 5).toInt = (my 1).toInt ∧ (cx 4).toInt = ((R 2) 1).toInt ∧ r52266.toInt = r52268.toInt ∧ (cx 3).toInt = (my 3).toInt ∧ (cx 2).toInt = ((R 2) 0).toInt ∧ (cx 7).toInt = ((R 0) 0).toInt ∧ (cx 8).toInt = ((R 0) 1).toInt ∧ (cx 9).toInt = ((R 0) 2).toInt ∧ (cx 10).toInt = ((R 0) 3).toInt ∧ (cx 11).toInt = ((R 1) 0).toInt ∧ (cx 12).toInt = ((R 1) 1).toInt ∧ (cx 13).toInt = ((R 1) 2).toInt ∧ (cx 14).toInt = ((R 1) 3).toInt := by have zr := hR; have zz0 := hr52265.2.2; have zz1 := hr52267.2.2.2; refine ⟨by omega, by omega, by omega, by omega, by omega, by omega, by omega, by omega, by omega, by omega, by omega, by omega, by omega, by omega⟩
  exact tail na nc N  (upd cx 6 r52266) (upd my 2 r52268) R u v _ _ _ _ _ ⟨hcs, ⟨hTX, hTM, hV, hR2⟩, hP, hD, hS, hl⟩
set_option maxHeartbeats 4000000 in
set_option maxRecDepth 100000 in
theorem lc_31 {p : Program} {l : Launch} {e : Env} {s : State} {m : MethodId} {below : List Frame} {meth : Method} {c : Code} {b0 L0 : Nat} {xs : Nat → Int32} {D : va_G} {cI cS : ClassId} {A : Nat → Prop} {H : Heap} {locs : List Loc} {ls : Array Slot} {Q : State → Prop} {a b : Nat → Nat} {na nc N cells slots : Nat} {cx my : Nat → Int32} {R u v : SU} {i : Int32} (hx : p.tables.exec = Jvm.exec) (hb : c.code = cL_law) (hml : c.maxLocals = 4) (hown : s.vm.findClass RL = some m.cls) (hts : ∀ w ∈ wsL_law, w.before #[Value.ref b0] s = true) (hKK : KK D cI cS s) (hAB0 : AB s s.heap) (hA0 : ∀ q : Nat, q < s.heap.size → ¬ A q) (hX : va_X b0 L0 xs s s.heap) (hbl : b0 < s.heap.size) (hbA : ¬ A b0) (hA : ∀ q : Nat, s.heap.size ≤ q → A q) (hL0 : L0 ≤ 3072) (hi0 : 0 ≤ i.toInt) (hi1 : i.toInt + 6 ≤ (L0 : Int)) (hst : ST D cI cS A s a b b0 i na nc N cx my R u v H locs ls cells slots) (tail : ∀ (na nc N : Nat) (cx my : Nat → Int32) (R u v : SU) (H : Heap) (locs : List Loc) (ls : Array Slot) (cells slots : Nat), ST D cI cS A s a b b0 i na nc N cx my R u v H locs ls cells slots → W p l e room_1 s m #[Value.ref b0] below meth c H locs cells slots Q (F0 m 1486 ls [])) : W p l e room_1 s m #[Value.ref b0] below meth c H locs cells slots Q (F0 m 1047 ls []) := by
  obtain ⟨hcs, ⟨hTX, hTM, hV, hR⟩, hP, hD, hS, hl⟩ := hst
  have hN := hcs.hN
  have hK := hKK.1
  have hR : (cx 0).toInt = (my 0).toInt ∧ (cx 5).toInt = (my 1).toInt ∧ (cx 4).toInt = ((R 2) 1).toInt ∧ (cx 6).toInt = (my 2).toInt ∧ (cx 3).toInt = (my 3).toInt ∧ (cx 2).toInt = ((R 2) 0).toInt ∧ (cx 7).toInt = ((R 0) 0).toInt ∧ (cx 8).toInt = ((R 0) 1).toInt ∧ (cx 9).toInt = ((R 0) 2).toInt ∧ (cx 10).toInt = ((R 0) 3).toInt ∧ (cx 11).toInt = ((R 1) 0).toInt ∧ (cx 12).toInt = ((R 1) 1).toInt ∧ (cx 13).toInt = ((R 1) 2).toInt ∧ (cx 14).toInt = ((R 1) 3).toInt := hR
  obtain ⟨x1, hx1⟩ : ∃ z, xs (i + 1).toNatClampNeg = z := ⟨_, rfl⟩
  obtain ⟨x2, hx2⟩ : ∃ z, xs (i + 2).toNatClampNeg = z := ⟨_, rfl⟩
  obtain ⟨x3, hx3⟩ : ∃ z, xs (i + 3).toNatClampNeg = z := ⟨_, rfl⟩
  obtain ⟨x4, hx4⟩ : ∃ z, xs (i + 4).toNatClampNeg = z := ⟨_, rfl⟩
  obtain ⟨x5, hx5⟩ : ∃ z, xs (i + 5).toNatClampNeg = z := ⟨_, rfl⟩
  refine lv_aload_n hx hb dL_law_1047 rfl (lv_at hl 2 rfl) ?_
  refine lq_X (S := Int32 × SU) (fna := fun _ => na) (fnc := fun _ => nc) (fN := fun _ => N) (fL := fun q => mkL (cx 0) (cx 1) (cx 2) (cx 3) (cx 4) (cx 5) q.1 (cx 7) (cx 8) (cx 9) (cx 10) (cx 11) (cx 12) (cx 13) (cx 14)) (fu := fun q => q.2) (As := []) (rest := []) ⟨hx, hb, hml, hown, hts⟩ (k_X11_text l D cI cS _ a na nc N (cx 0) (cx 1) (cx 2) (cx 3) (cx 4) (cx 5) (cx 6) (cx 7) (cx 8) (cx 9) (cx 10) (cx 11) (cx 12) (cx 13) (cx 14) u hTX hN  ) hKK hP hD hS hA (cwV 0 hts gL_law_X11_text rfl rfl rfl (by decide +kernel) ⟨Nat.le_of_ble_eq_true rfl, Nat.le_of_ble_eq_true rfl⟩) rfl hl.1 rfl (Nat.le_of_ble_eq_true rfl) dL_law_1048 (CSL.hf hcs) (fun r52269 q9 H locs hr52269 hP hD hS => ?_)
  obtain ⟨r52270, u⟩ := q9
  have hr52269 : Rg (-2147483648) 2147483647 r52269 ∧ Rg 0 0 r52270 ∧ (r52270.toInt = 0) := hr52269
  have hTX : TyX (mkL (cx 0) (cx 1) (cx 2) (cx 3) (cx 4) (cx 5) r52270 (cx 7) (cx 8) (cx 9) (cx 10) (cx 11) (cx 12) (cx 13) (cx 14)) := ⟨hTX.1, hTX.2.1, hTX.2.2.1, (rg_w hr52269.2.1 (by decide) (by decide)), hTX.2.2.2.2.1, hTX.2.2.2.2.2.1, hTX.2.2.2.2.2.2.1, hTX.2.2.2.2.2.2.2⟩
  refine lv_pop hx hb dL_law_1051 rfl ?_
  refine lv_aload_n hx hb dL_law_1052 rfl (lv_at hl 1 rfl) ?_
  refine lq_M (S := Int32 × Int32 × Int32 × Int32 × Int32 × Int32 × (Nat → Int32) × SU) (fL := fun q => mkM q.1 q.2.1 q.2.2.1 (my 3) q.2.2.2.1 q.2.2.2.2.1 q.2.2.2.2.2.1 (R 0) (R 1) q.2.2.2.2.2.2.1) (fu := fun q => q.2.2.2.2.2.2.2) (As := []) (rest := []) ⟨hx, hb, hml, hown, hts⟩ (w_X12_text l D cI cS _ b (my 0) (my 1) (my 2) (my 3) (my 4) (my 5) (my 6) (R 0) (R 1) (R 2) v hTM hV  ) hKK hP hD hS hA (cwV 0 hts gL_law_X12_text rfl rfl rfl (by decide +kernel) ⟨Nat.le_of_ble_eq_true rfl, Nat.le_of_ble_eq_true rfl⟩) rfl hl.1 rfl (Nat.le_of_ble_eq_true rfl) dL_law_1053 (CSL.hf hcs) (fun r52271 q9 H locs hr52271 hP hD hS => ?_)
  obtain ⟨r52272, r52273, r52274, r52275, r52276, r52277, f52278, v⟩ := q9
  have hr52271 : TyV v ∧ Rg (-2147483648) 2147483647 r52271 ∧ Rg 0 12 r52272 ∧ Rg 0 0 r52274 ∧ Rg 0 120 r52275 ∧ Kp f52278 ∧ (r52272.toInt = (my 0).toInt ∧ r52273.toInt = (my 1).toInt ∧ (f52278 0).toInt = ((R 2) 0).toInt ∧ (f52278 1).toInt = ((R 2) 1).toInt ∧ r52274.toInt = 0) := hr52271
  have hV := hr52271.1
  have hTM : TyL (mkM r52272 r52273 r52274 (my 3) r52275 r52276 r52277 (R 0) (R 1) f52278) := ⟨(rg_w hr52271.2.2.1 (by decide) (by decide)), (rg_w hr52271.2.2.2.1 (by decide) (by decide)), hTM.2.2.1, hTM.2.2.2.1, hr52271.2.2.2.2.2.1, (rg_w hr52271.2.2.2.2.1 (by decide) (by decide))⟩
  refine lv_pop hx hb dL_law_1056 rfl ?_
  refine lv_goto (tgt := 1486) hx hb dL_law_1057 (by decide) ?_
  have hR2 : (cx 0).toInt = r52272.toInt ∧ (cx 5).toInt = r52273.toInt ∧ (cx 4).toInt = (f52278 1).toInt ∧ r52270.toInt = r52274.toInt ∧ (cx 3).toInt = (my 3).toInt ∧ (cx 2).toInt = (f52278 0).toInt ∧ (cx 7).toInt = ((R 0) 0).toInt ∧ (cx 8).toInt = ((R 0) 1).toInt ∧ (cx 9).toInt = ((R 0) 2).toInt ∧ (cx 10).toInt = ((R 0) 3).toInt ∧ (cx 11).toInt = ((R 1) 0).toInt ∧ (cx 12).toInt = ((R 1) 1).toInt ∧ (cx 13).toInt = ((R 1) 2).toInt ∧ (cx 14).toInt = ((R 1) 3).toInt := by have zr := hR; have zz0 := hr52269.2.2; have zz1 := hr52271.2.2.2.2.2.2; refine ⟨by omega, by omega, by omega, by omega, by omega, by omega, by omega, by omega, by omega, by omega, by omega, by omega, by omega, by omega⟩
  exact tail na nc N  (upd cx 6 r52270) (upd (upd (upd (upd (upd (upd my 0 r52272) 1 r52273) 2 r52274) 4 r52275) 5 r52276) 6 r52277) (sU R 2 f52278) u v _ _ _ _ _ ⟨hcs, ⟨hTX, hTM, hV, hR2⟩, hP, hD, hS, hl⟩
set_option maxHeartbeats 4000000 in
set_option maxRecDepth 100000 in
theorem lc_32 {p : Program} {l : Launch} {e : Env} {s : State} {m : MethodId} {below : List Frame} {meth : Method} {c : Code} {b0 L0 : Nat} {xs : Nat → Int32} {D : va_G} {cI cS : ClassId} {A : Nat → Prop} {H : Heap} {locs : List Loc} {ls : Array Slot} {Q : State → Prop} {a b : Nat → Nat} {na nc N cells slots : Nat} {cx my : Nat → Int32} {R u v : SU} {i : Int32} (hx : p.tables.exec = Jvm.exec) (hb : c.code = cL_law) (hml : c.maxLocals = 4) (hown : s.vm.findClass RL = some m.cls) (hts : ∀ w ∈ wsL_law, w.before #[Value.ref b0] s = true) (hKK : KK D cI cS s) (hAB0 : AB s s.heap) (hA0 : ∀ q : Nat, q < s.heap.size → ¬ A q) (hX : va_X b0 L0 xs s s.heap) (hbl : b0 < s.heap.size) (hbA : ¬ A b0) (hA : ∀ q : Nat, s.heap.size ≤ q → A q) (hL0 : L0 ≤ 3072) (hi0 : 0 ≤ i.toInt) (hi1 : i.toInt + 6 ≤ (L0 : Int)) (hst : ST D cI cS A s a b b0 i na nc N cx my R u v H locs ls cells slots) (tail : ∀ (na nc N : Nat) (cx my : Nat → Int32) (R u v : SU) (H : Heap) (locs : List Loc) (ls : Array Slot) (cells slots : Nat), ST D cI cS A s a b b0 i na nc N cx my R u v H locs ls cells slots → W p l e room_1 s m #[Value.ref b0] below meth c H locs cells slots Q (F0 m 1486 ls [])) : W p l e room_1 s m #[Value.ref b0] below meth c H locs cells slots Q (F0 m 1060 ls []) := by
  obtain ⟨hcs, ⟨hTX, hTM, hV, hR⟩, hP, hD, hS, hl⟩ := hst
  have hN := hcs.hN
  have hK := hKK.1
  have hR : (cx 0).toInt = (my 0).toInt ∧ (cx 5).toInt = (my 1).toInt ∧ (cx 4).toInt = ((R 2) 1).toInt ∧ (cx 6).toInt = (my 2).toInt ∧ (cx 3).toInt = (my 3).toInt ∧ (cx 2).toInt = ((R 2) 0).toInt ∧ (cx 7).toInt = ((R 0) 0).toInt ∧ (cx 8).toInt = ((R 0) 1).toInt ∧ (cx 9).toInt = ((R 0) 2).toInt ∧ (cx 10).toInt = ((R 0) 3).toInt ∧ (cx 11).toInt = ((R 1) 0).toInt ∧ (cx 12).toInt = ((R 1) 1).toInt ∧ (cx 13).toInt = ((R 1) 2).toInt ∧ (cx 14).toInt = ((R 1) 3).toInt := hR
  obtain ⟨x1, hx1⟩ : ∃ z, xs (i + 1).toNatClampNeg = z := ⟨_, rfl⟩
  obtain ⟨x2, hx2⟩ : ∃ z, xs (i + 2).toNatClampNeg = z := ⟨_, rfl⟩
  obtain ⟨x3, hx3⟩ : ∃ z, xs (i + 3).toNatClampNeg = z := ⟨_, rfl⟩
  obtain ⟨x4, hx4⟩ : ∃ z, xs (i + 4).toNatClampNeg = z := ⟨_, rfl⟩
  obtain ⟨x5, hx5⟩ : ∃ z, xs (i + 5).toNatClampNeg = z := ⟨_, rfl⟩
  refine lv_aload_n hx hb dL_law_1060 rfl (lv_at hl 2 rfl) ?_
  refine lv_aload_n hx hb dL_law_1061 rfl (lv_at hl 3 rfl) ?_
  refine lv_iload_n hx hb dL_law_1062 rfl (lv_at hl 0 rfl) ?_
  refine lv_iconst (v := 1) hx hb dL_law_1063 (by decide) ?_
  refine lv_iadd hx hb dL_law_1064 ?_
  refine va_sld hx hb hX hbl hbA hS (lw_vin hi0 hi1 hL0 (by decide)) dL_law_1065 ?_
  refine lz_top (y := x1) hx1 ?_
  refine lq_X (S := Int32 × SU) (fna := fun _ => na) (fnc := fun _ => nc) (fN := fun _ => N) (fL := fun q => mkL (cx 0) (cx 1) (cx 2) (cx 3) (cx 4) q.1 (cx 6) (cx 7) (cx 8) (cx 9) (cx 10) (cx 11) (cx 12) (cx 13) (cx 14)) (fu := fun q => q.2) (As := [.int x1]) (rest := []) ⟨hx, hb, hml, hown, hts⟩ (k_X11_seed l D cI cS _ a na nc N (cx 0) (cx 1) (cx 2) (cx 3) (cx 4) (cx 5) (cx 6) (cx 7) (cx 8) (cx 9) (cx 10) (cx 11) (cx 12) (cx 13) (cx 14) u hTX hN x1 ) hKK hP hD hS hA (cwV 1 hts gL_law_X11_seed rfl rfl rfl (by decide +kernel) ⟨Nat.le_of_ble_eq_true rfl, Nat.le_of_ble_eq_true rfl⟩) rfl hl.1 rfl (Nat.le_of_ble_eq_true rfl) dL_law_1066 (CSL.hf hcs) (fun r52279 q9 H locs hr52279 hP hD hS => ?_)
  obtain ⟨r52280, u⟩ := q9
  have hr52279 : Rg (-2147483648) 2147483647 r52279 ∧ (r52279.toInt = (cx 5).toInt ∧ r52280.toInt = x1.toInt) := hr52279
  have hTX : TyX (mkL (cx 0) (cx 1) (cx 2) (cx 3) (cx 4) r52280 (cx 6) (cx 7) (cx 8) (cx 9) (cx 10) (cx 11) (cx 12) (cx 13) (cx 14)) := ⟨hTX.1, hTX.2.1, hTX.2.2.1, hTX.2.2.2.1, hTX.2.2.2.2.1, hTX.2.2.2.2.2.1, hTX.2.2.2.2.2.2.1, hTX.2.2.2.2.2.2.2⟩
  refine lv_pop hx hb dL_law_1069 rfl ?_
  refine lv_aload_n hx hb dL_law_1070 rfl (lv_at hl 1 rfl) ?_
  refine lv_aload_n hx hb dL_law_1071 rfl (lv_at hl 3 rfl) ?_
  refine lv_iload_n hx hb dL_law_1072 rfl (lv_at hl 0 rfl) ?_
  refine lv_iconst (v := 1) hx hb dL_law_1073 (by decide) ?_
  refine lv_iadd hx hb dL_law_1074 ?_
  refine va_sld hx hb hX hbl hbA hS (lw_vin hi0 hi1 hL0 (by decide)) dL_law_1075 ?_
  refine lz_top (y := x1) hx1 ?_
  refine lq_M (S := Int32 × SU) (fL := fun q => mkM (my 0) q.1 (my 2) (my 3) (my 4) (my 5) (my 6) (R 0) (R 1) (R 2)) (fu := fun q => q.2) (As := [.int x1]) (rest := []) ⟨hx, hb, hml, hown, hts⟩ (w_X12_seed l D cI cS _ b (my 0) (my 1) (my 2) (my 3) (my 4) (my 5) (my 6) (R 0) (R 1) (R 2) v hTM hV x1 ) hKK hP hD hS hA (cwV 1 hts gL_law_X12_seed rfl rfl rfl (by decide +kernel) ⟨Nat.le_of_ble_eq_true rfl, Nat.le_of_ble_eq_true rfl⟩) rfl hl.1 rfl (Nat.le_of_ble_eq_true rfl) dL_law_1076 (CSL.hf hcs) (fun r52281 q9 H locs hr52281 hP hD hS => ?_)
  obtain ⟨r52282, v⟩ := q9
  have hr52281 : TyV v ∧ Rg (-2147483648) 2147483647 r52281 ∧ (r52281.toInt = (my 1).toInt ∧ r52282.toInt = x1.toInt) := hr52281
  have hV := hr52281.1
  have hTM : TyL (mkM (my 0) r52282 (my 2) (my 3) (my 4) (my 5) (my 6) (R 0) (R 1) (R 2)) := ⟨hTM.1, hTM.2.1, hTM.2.2.1, hTM.2.2.2.1, hTM.2.2.2.2.1, hTM.2.2.2.2.2⟩
  refine lv_pop hx hb dL_law_1079 rfl ?_
  refine lv_goto (tgt := 1486) hx hb dL_law_1080 (by decide) ?_
  have hR2 : (cx 0).toInt = (my 0).toInt ∧ r52280.toInt = r52282.toInt ∧ (cx 4).toInt = ((R 2) 1).toInt ∧ (cx 6).toInt = (my 2).toInt ∧ (cx 3).toInt = (my 3).toInt ∧ (cx 2).toInt = ((R 2) 0).toInt ∧ (cx 7).toInt = ((R 0) 0).toInt ∧ (cx 8).toInt = ((R 0) 1).toInt ∧ (cx 9).toInt = ((R 0) 2).toInt ∧ (cx 10).toInt = ((R 0) 3).toInt ∧ (cx 11).toInt = ((R 1) 0).toInt ∧ (cx 12).toInt = ((R 1) 1).toInt ∧ (cx 13).toInt = ((R 1) 2).toInt ∧ (cx 14).toInt = ((R 1) 3).toInt := by have zr := hR; have zz0 := hr52279.2; have zz1 := hr52281.2.2; refine ⟨by omega, by omega, by omega, by omega, by omega, by omega, by omega, by omega, by omega, by omega, by omega, by omega, by omega, by omega⟩
  exact tail na nc N  (upd cx 5 r52280) (upd my 1 r52282) R u v _ _ _ _ _ ⟨hcs, ⟨hTX, hTM, hV, hR2⟩, hP, hD, hS, hl⟩
set_option maxHeartbeats 4000000 in
set_option maxRecDepth 100000 in
theorem lc_33 {p : Program} {l : Launch} {e : Env} {s : State} {m : MethodId} {below : List Frame} {meth : Method} {c : Code} {b0 L0 : Nat} {xs : Nat → Int32} {D : va_G} {cI cS : ClassId} {A : Nat → Prop} {H : Heap} {locs : List Loc} {ls : Array Slot} {Q : State → Prop} {a b : Nat → Nat} {na nc N cells slots : Nat} {cx my : Nat → Int32} {R u v : SU} {i : Int32} (hx : p.tables.exec = Jvm.exec) (hb : c.code = cL_law) (hml : c.maxLocals = 4) (hown : s.vm.findClass RL = some m.cls) (hts : ∀ w ∈ wsL_law, w.before #[Value.ref b0] s = true) (hKK : KK D cI cS s) (hAB0 : AB s s.heap) (hA0 : ∀ q : Nat, q < s.heap.size → ¬ A q) (hX : va_X b0 L0 xs s s.heap) (hbl : b0 < s.heap.size) (hbA : ¬ A b0) (hA : ∀ q : Nat, s.heap.size ≤ q → A q) (hL0 : L0 ≤ 3072) (hi0 : 0 ≤ i.toInt) (hi1 : i.toInt + 6 ≤ (L0 : Int)) (hst : ST D cI cS A s a b b0 i na nc N cx my R u v H locs ls cells slots) (tail : ∀ (na nc N : Nat) (cx my : Nat → Int32) (R u v : SU) (H : Heap) (locs : List Loc) (ls : Array Slot) (cells slots : Nat), ST D cI cS A s a b b0 i na nc N cx my R u v H locs ls cells slots → W p l e room_1 s m #[Value.ref b0] below meth c H locs cells slots Q (F0 m 1486 ls [])) : W p l e room_1 s m #[Value.ref b0] below meth c H locs cells slots Q (F0 m 1083 ls []) := by
  obtain ⟨hcs, ⟨hTX, hTM, hV, hR⟩, hP, hD, hS, hl⟩ := hst
  have hN := hcs.hN
  have hK := hKK.1
  have hR : (cx 0).toInt = (my 0).toInt ∧ (cx 5).toInt = (my 1).toInt ∧ (cx 4).toInt = ((R 2) 1).toInt ∧ (cx 6).toInt = (my 2).toInt ∧ (cx 3).toInt = (my 3).toInt ∧ (cx 2).toInt = ((R 2) 0).toInt ∧ (cx 7).toInt = ((R 0) 0).toInt ∧ (cx 8).toInt = ((R 0) 1).toInt ∧ (cx 9).toInt = ((R 0) 2).toInt ∧ (cx 10).toInt = ((R 0) 3).toInt ∧ (cx 11).toInt = ((R 1) 0).toInt ∧ (cx 12).toInt = ((R 1) 1).toInt ∧ (cx 13).toInt = ((R 1) 2).toInt ∧ (cx 14).toInt = ((R 1) 3).toInt := hR
  obtain ⟨x1, hx1⟩ : ∃ z, xs (i + 1).toNatClampNeg = z := ⟨_, rfl⟩
  obtain ⟨x2, hx2⟩ : ∃ z, xs (i + 2).toNatClampNeg = z := ⟨_, rfl⟩
  obtain ⟨x3, hx3⟩ : ∃ z, xs (i + 3).toNatClampNeg = z := ⟨_, rfl⟩
  obtain ⟨x4, hx4⟩ : ∃ z, xs (i + 4).toNatClampNeg = z := ⟨_, rfl⟩
  obtain ⟨x5, hx5⟩ : ∃ z, xs (i + 5).toNatClampNeg = z := ⟨_, rfl⟩
  refine lv_aload_n hx hb dL_law_1083 rfl (lv_at hl 2 rfl) ?_
  refine lv_aload_n hx hb dL_law_1084 rfl (lv_at hl 3 rfl) ?_
  refine lv_iload_n hx hb dL_law_1085 rfl (lv_at hl 0 rfl) ?_
  refine lv_iconst (v := 1) hx hb dL_law_1086 (by decide) ?_
  refine lv_iadd hx hb dL_law_1087 ?_
  refine va_sld hx hb hX hbl hbA hS (lw_vin hi0 hi1 hL0 (by decide)) dL_law_1088 ?_
  refine lz_top (y := x1) hx1 ?_
  refine lv_aload_n hx hb dL_law_1089 rfl (lv_at hl 3 rfl) ?_
  refine lv_iload_n hx hb dL_law_1090 rfl (lv_at hl 0 rfl) ?_
  refine lv_iconst (v := 2) hx hb dL_law_1091 (by decide) ?_
  refine lv_iadd hx hb dL_law_1092 ?_
  refine va_sld hx hb hX hbl hbA hS (lw_vin hi0 hi1 hL0 (by decide)) dL_law_1093 ?_
  refine lz_top (y := x2) hx2 ?_
  refine lq_X (S := Int32 × Int32 × SU) (fna := fun _ => na) (fnc := fun _ => nc) (fN := fun _ => N) (fL := fun q => mkL q.1 (cx 1) (cx 2) (cx 3) (cx 4) q.2.1 (cx 6) (cx 7) (cx 8) (cx 9) (cx 10) (cx 11) (cx 12) (cx 13) (cx 14)) (fu := fun q => q.2.2) (As := [.int x1, .int x2]) (rest := []) ⟨hx, hb, hml, hown, hts⟩ (k_X11_deal l D cI cS _ a na nc N (cx 0) (cx 1) (cx 2) (cx 3) (cx 4) (cx 5) (cx 6) (cx 7) (cx 8) (cx 9) (cx 10) (cx 11) (cx 12) (cx 13) (cx 14) u hTX hN x1 x2 ) hKK hP hD hS hA (cwV 2 hts gL_law_X11_deal rfl rfl rfl (by decide +kernel) ⟨Nat.le_of_ble_eq_true rfl, Nat.le_of_ble_eq_true rfl⟩) rfl hl.1 rfl (Nat.le_of_ble_eq_true rfl) dL_law_1094 (CSL.hf hcs) (fun r52283 q9 H locs hr52283 hP hD hS => ?_)
  obtain ⟨r52284, r52285, u⟩ := q9
  have hr52283 : Rg (-2147483648) 2147483647 r52283 ∧ Rg 0 12 r52284 ∧ ((x1.toInt < 0 ∨ 12 < x1.toInt ∨ x2.toInt < 0 ∨ 10 < x2.toInt → r52285.toInt = (cx 5).toInt) ∧ (0 ≤ x1.toInt → x1.toInt ≤ 12 → 0 ≤ x2.toInt → x2.toInt ≤ 10 → r52285.toInt = (zout x1.toNatClampNeg (cx 5) x1.toNatClampNeg).toInt)) ∧ ((x1.toInt < 0 ∨ 12 < x1.toInt ∨ x2.toInt < 0 ∨ 10 < x2.toInt → r52283.toInt = -2 ∧ r52284.toInt = (cx 0).toInt) ∧ (0 ≤ x1.toInt → x1.toInt ≤ 12 → 0 ≤ x2.toInt → x2.toInt ≤ 10 → r52284.toInt = x1.toInt)) := hr52283
  have hTX : TyX (mkL r52284 (cx 1) (cx 2) (cx 3) (cx 4) r52285 (cx 6) (cx 7) (cx 8) (cx 9) (cx 10) (cx 11) (cx 12) (cx 13) (cx 14)) := ⟨(rg_w hr52283.2.1 (by decide) (by decide)), hTX.2.1, hTX.2.2.1, hTX.2.2.2.1, hTX.2.2.2.2.1, hTX.2.2.2.2.2.1, hTX.2.2.2.2.2.2.1, hTX.2.2.2.2.2.2.2⟩
  refine lv_pop hx hb dL_law_1097 rfl ?_
  refine lv_aload_n hx hb dL_law_1098 rfl (lv_at hl 1 rfl) ?_
  refine lv_aload_n hx hb dL_law_1099 rfl (lv_at hl 3 rfl) ?_
  refine lv_iload_n hx hb dL_law_1100 rfl (lv_at hl 0 rfl) ?_
  refine lv_iconst (v := 1) hx hb dL_law_1101 (by decide) ?_
  refine lv_iadd hx hb dL_law_1102 ?_
  refine va_sld hx hb hX hbl hbA hS (lw_vin hi0 hi1 hL0 (by decide)) dL_law_1103 ?_
  refine lz_top (y := x1) hx1 ?_
  refine lv_aload_n hx hb dL_law_1104 rfl (lv_at hl 3 rfl) ?_
  refine lv_iload_n hx hb dL_law_1105 rfl (lv_at hl 0 rfl) ?_
  refine lv_iconst (v := 2) hx hb dL_law_1106 (by decide) ?_
  refine lv_iadd hx hb dL_law_1107 ?_
  refine va_sld hx hb hX hbl hbA hS (lw_vin hi0 hi1 hL0 (by decide)) dL_law_1108 ?_
  refine lz_top (y := x2) hx2 ?_
  refine lq_M (S := Int32 × Int32 × SU) (fL := fun q => mkM q.1 q.2.1 (my 2) (my 3) (my 4) (my 5) (my 6) (R 0) (R 1) (R 2)) (fu := fun q => q.2.2) (As := [.int x1, .int x2]) (rest := []) ⟨hx, hb, hml, hown, hts⟩ (w_X12_deal l D cI cS _ b (my 0) (my 1) (my 2) (my 3) (my 4) (my 5) (my 6) (R 0) (R 1) (R 2) v hTM hV x1 x2 ) hKK hP hD hS hA (cwV 2 hts gL_law_X12_deal rfl rfl rfl (by decide +kernel) ⟨Nat.le_of_ble_eq_true rfl, Nat.le_of_ble_eq_true rfl⟩) rfl hl.1 rfl (Nat.le_of_ble_eq_true rfl) dL_law_1109 (CSL.hf hcs) (fun r52286 q9 H locs hr52286 hP hD hS => ?_)
  obtain ⟨r52287, r52288, v⟩ := q9
  have hr52286 : TyV v ∧ Rg (-2147483648) 2147483647 r52286 ∧ Rg 0 12 r52287 ∧ ((x1.toInt < 0 ∨ 12 < x1.toInt ∨ x2.toInt < 0 ∨ 10 < x2.toInt → r52288.toInt = (my 1).toInt) ∧ (0 ≤ x1.toInt → x1.toInt ≤ 12 → 0 ≤ x2.toInt → x2.toInt ≤ 10 → r52288.toInt = (zout x1.toNatClampNeg (my 1) x1.toNatClampNeg).toInt)) ∧ ((x1.toInt < 0 ∨ 12 < x1.toInt ∨ x2.toInt < 0 ∨ 10 < x2.toInt → r52286.toInt = -2 ∧ r52287.toInt = (my 0).toInt) ∧ (0 ≤ x1.toInt → x1.toInt ≤ 12 → 0 ≤ x2.toInt → x2.toInt ≤ 10 → r52287.toInt = x1.toInt)) := hr52286
  have hV := hr52286.1
  have hTM : TyL (mkM r52287 r52288 (my 2) (my 3) (my 4) (my 5) (my 6) (R 0) (R 1) (R 2)) := ⟨(rg_w hr52286.2.2.1 (by decide) (by decide)), hTM.2.1, hTM.2.2.1, hTM.2.2.2.1, hTM.2.2.2.2.1, hTM.2.2.2.2.2⟩
  refine lv_pop hx hb dL_law_1112 rfl ?_
  refine lv_goto (tgt := 1486) hx hb dL_law_1113 (by decide) ?_
  have ez : cx 5 = my 1 := Int32.toInt_inj.mp (by have zr := hR; omega)
  have eo : (zout x1.toNatClampNeg (cx 5) x1.toNatClampNeg).toInt = (zout x1.toNatClampNeg (my 1) x1.toNatClampNeg).toInt := by rw [ez]
  have hR2 : r52284.toInt = r52287.toInt ∧ r52285.toInt = r52288.toInt ∧ (cx 4).toInt = ((R 2) 1).toInt ∧ (cx 6).toInt = (my 2).toInt ∧ (cx 3).toInt = (my 3).toInt ∧ (cx 2).toInt = ((R 2) 0).toInt ∧ (cx 7).toInt = ((R 0) 0).toInt ∧ (cx 8).toInt = ((R 0) 1).toInt ∧ (cx 9).toInt = ((R 0) 2).toInt ∧ (cx 10).toInt = ((R 0) 3).toInt ∧ (cx 11).toInt = ((R 1) 0).toInt ∧ (cx 12).toInt = ((R 1) 1).toInt ∧ (cx 13).toInt = ((R 1) 2).toInt ∧ (cx 14).toInt = ((R 1) 3).toInt := by have zr := hR; have zz0 := hr52283.2.2.1; have zz1 := hr52283.2.2.2; have zz2 := hr52286.2.2.2.1; have zz3 := hr52286.2.2.2.2; refine ⟨by omega, by omega, by omega, by omega, by omega, by omega, by omega, by omega, by omega, by omega, by omega, by omega, by omega, by omega⟩
  exact tail na nc N  (upd (upd cx 0 r52284) 5 r52285) (upd (upd my 0 r52287) 1 r52288) R u v _ _ _ _ _ ⟨hcs, ⟨hTX, hTM, hV, hR2⟩, hP, hD, hS, hl⟩
set_option maxHeartbeats 4000000 in
set_option maxRecDepth 100000 in
theorem lc_34 {p : Program} {l : Launch} {e : Env} {s : State} {m : MethodId} {below : List Frame} {meth : Method} {c : Code} {b0 L0 : Nat} {xs : Nat → Int32} {D : va_G} {cI cS : ClassId} {A : Nat → Prop} {H : Heap} {locs : List Loc} {ls : Array Slot} {Q : State → Prop} {a b : Nat → Nat} {na nc N cells slots : Nat} {cx my : Nat → Int32} {R u v : SU} {i : Int32} (hx : p.tables.exec = Jvm.exec) (hb : c.code = cL_law) (hml : c.maxLocals = 4) (hown : s.vm.findClass RL = some m.cls) (hts : ∀ w ∈ wsL_law, w.before #[Value.ref b0] s = true) (hKK : KK D cI cS s) (hAB0 : AB s s.heap) (hA0 : ∀ q : Nat, q < s.heap.size → ¬ A q) (hX : va_X b0 L0 xs s s.heap) (hbl : b0 < s.heap.size) (hbA : ¬ A b0) (hA : ∀ q : Nat, s.heap.size ≤ q → A q) (hL0 : L0 ≤ 3072) (hi0 : 0 ≤ i.toInt) (hi1 : i.toInt + 6 ≤ (L0 : Int)) (hst : ST D cI cS A s a b b0 i na nc N cx my R u v H locs ls cells slots) (tail : ∀ (na nc N : Nat) (cx my : Nat → Int32) (R u v : SU) (H : Heap) (locs : List Loc) (ls : Array Slot) (cells slots : Nat), ST D cI cS A s a b b0 i na nc N cx my R u v H locs ls cells slots → W p l e room_1 s m #[Value.ref b0] below meth c H locs cells slots Q (F0 m 1486 ls [])) : W p l e room_1 s m #[Value.ref b0] below meth c H locs cells slots Q (F0 m 1116 ls []) := by
  obtain ⟨hcs, ⟨hTX, hTM, hV, hR⟩, hP, hD, hS, hl⟩ := hst
  have hN := hcs.hN
  have hK := hKK.1
  have hR : (cx 0).toInt = (my 0).toInt ∧ (cx 5).toInt = (my 1).toInt ∧ (cx 4).toInt = ((R 2) 1).toInt ∧ (cx 6).toInt = (my 2).toInt ∧ (cx 3).toInt = (my 3).toInt ∧ (cx 2).toInt = ((R 2) 0).toInt ∧ (cx 7).toInt = ((R 0) 0).toInt ∧ (cx 8).toInt = ((R 0) 1).toInt ∧ (cx 9).toInt = ((R 0) 2).toInt ∧ (cx 10).toInt = ((R 0) 3).toInt ∧ (cx 11).toInt = ((R 1) 0).toInt ∧ (cx 12).toInt = ((R 1) 1).toInt ∧ (cx 13).toInt = ((R 1) 2).toInt ∧ (cx 14).toInt = ((R 1) 3).toInt := hR
  obtain ⟨x1, hx1⟩ : ∃ z, xs (i + 1).toNatClampNeg = z := ⟨_, rfl⟩
  obtain ⟨x2, hx2⟩ : ∃ z, xs (i + 2).toNatClampNeg = z := ⟨_, rfl⟩
  obtain ⟨x3, hx3⟩ : ∃ z, xs (i + 3).toNatClampNeg = z := ⟨_, rfl⟩
  obtain ⟨x4, hx4⟩ : ∃ z, xs (i + 4).toNatClampNeg = z := ⟨_, rfl⟩
  obtain ⟨x5, hx5⟩ : ∃ z, xs (i + 5).toNatClampNeg = z := ⟨_, rfl⟩
  refine lv_aload_n hx hb dL_law_1116 rfl (lv_at hl 2 rfl) ?_
  refine lv_aload_n hx hb dL_law_1117 rfl (lv_at hl 3 rfl) ?_
  refine lv_iload_n hx hb dL_law_1118 rfl (lv_at hl 0 rfl) ?_
  refine lv_iconst (v := 1) hx hb dL_law_1119 (by decide) ?_
  refine lv_iadd hx hb dL_law_1120 ?_
  refine va_sld hx hb hX hbl hbA hS (lw_vin hi0 hi1 hL0 (by decide)) dL_law_1121 ?_
  refine lz_top (y := x1) hx1 ?_
  refine lv_aload_n hx hb dL_law_1122 rfl (lv_at hl 3 rfl) ?_
  refine lv_iload_n hx hb dL_law_1123 rfl (lv_at hl 0 rfl) ?_
  refine lv_iconst (v := 2) hx hb dL_law_1124 (by decide) ?_
  refine lv_iadd hx hb dL_law_1125 ?_
  refine va_sld hx hb hX hbl hbA hS (lw_vin hi0 hi1 hL0 (by decide)) dL_law_1126 ?_
  refine lz_top (y := x2) hx2 ?_
  refine lv_aload_n hx hb dL_law_1127 rfl (lv_at hl 3 rfl) ?_
  refine lv_iload_n hx hb dL_law_1128 rfl (lv_at hl 0 rfl) ?_
  refine lv_iconst (v := 3) hx hb dL_law_1129 (by decide) ?_
  refine lv_iadd hx hb dL_law_1130 ?_
  refine va_sld hx hb hX hbl hbA hS (lw_vin hi0 hi1 hL0 (by decide)) dL_law_1131 ?_
  refine lz_top (y := x3) hx3 ?_
  refine lv_aload_n hx hb dL_law_1132 rfl (lv_at hl 3 rfl) ?_
  refine lv_iload_n hx hb dL_law_1133 rfl (lv_at hl 0 rfl) ?_
  refine lv_iconst (v := 4) hx hb dL_law_1134 (by decide) ?_
  refine lv_iadd hx hb dL_law_1135 ?_
  refine va_sld hx hb hX hbl hbA hS (lw_vin hi0 hi1 hL0 (by decide)) dL_law_1136 ?_
  refine lz_top (y := x4) hx4 ?_
  refine lq_X (S := Int32 × Int32 × SU) (fna := fun _ => na) (fnc := fun _ => nc) (fN := fun _ => N) (fL := fun q => mkL (cx 0) q.1 (cx 2) (cx 3) (cx 4) q.2.1 (cx 6) (cx 7) (cx 8) (cx 9) (cx 10) (cx 11) (cx 12) (cx 13) (cx 14)) (fu := fun q => q.2.2) (As := [.int x1, .int x2, .int x3, .int x4]) (rest := []) ⟨hx, hb, hml, hown, hts⟩ (k_X11_times l D cI cS _ a na nc N (cx 0) (cx 1) (cx 2) (cx 3) (cx 4) (cx 5) (cx 6) (cx 7) (cx 8) (cx 9) (cx 10) (cx 11) (cx 12) (cx 13) (cx 14) u hTX hN x1 x2 x3 x4 ) hKK hP hD hS hA (cwV 4 hts gL_law_X11_times rfl rfl rfl (by decide +kernel) ⟨Nat.le_of_ble_eq_true rfl, Nat.le_of_ble_eq_true rfl⟩) rfl hl.1 rfl (Nat.le_of_ble_eq_true rfl) dL_law_1137 (CSL.hf hcs) (fun r52289 q9 H locs hr52289 hP hD hS => ?_)
  obtain ⟨r52290, r52291, u⟩ := q9
  have hr52289 : Rg (-2147483648) 2147483647 r52289 ∧ Rg 0 12 r52290 ∧ (r52291.toInt = (cx 5).toInt) := hr52289
  have hTX : TyX (mkL (cx 0) r52290 (cx 2) (cx 3) (cx 4) r52291 (cx 6) (cx 7) (cx 8) (cx 9) (cx 10) (cx 11) (cx 12) (cx 13) (cx 14)) := ⟨hTX.1, (rg_w hr52289.2.1 (by decide) (by decide)), hTX.2.2.1, hTX.2.2.2.1, hTX.2.2.2.2.1, hTX.2.2.2.2.2.1, hTX.2.2.2.2.2.2.1, hTX.2.2.2.2.2.2.2⟩
  refine lv_pop hx hb dL_law_1140 rfl ?_
  refine lv_aload_n hx hb dL_law_1141 rfl (lv_at hl 1 rfl) ?_
  refine lv_aload_n hx hb dL_law_1142 rfl (lv_at hl 3 rfl) ?_
  refine lv_iload_n hx hb dL_law_1143 rfl (lv_at hl 0 rfl) ?_
  refine lv_iconst (v := 1) hx hb dL_law_1144 (by decide) ?_
  refine lv_iadd hx hb dL_law_1145 ?_
  refine va_sld hx hb hX hbl hbA hS (lw_vin hi0 hi1 hL0 (by decide)) dL_law_1146 ?_
  refine lz_top (y := x1) hx1 ?_
  refine lv_aload_n hx hb dL_law_1147 rfl (lv_at hl 3 rfl) ?_
  refine lv_iload_n hx hb dL_law_1148 rfl (lv_at hl 0 rfl) ?_
  refine lv_iconst (v := 2) hx hb dL_law_1149 (by decide) ?_
  refine lv_iadd hx hb dL_law_1150 ?_
  refine va_sld hx hb hX hbl hbA hS (lw_vin hi0 hi1 hL0 (by decide)) dL_law_1151 ?_
  refine lz_top (y := x2) hx2 ?_
  refine lv_aload_n hx hb dL_law_1152 rfl (lv_at hl 3 rfl) ?_
  refine lv_iload_n hx hb dL_law_1153 rfl (lv_at hl 0 rfl) ?_
  refine lv_iconst (v := 3) hx hb dL_law_1154 (by decide) ?_
  refine lv_iadd hx hb dL_law_1155 ?_
  refine va_sld hx hb hX hbl hbA hS (lw_vin hi0 hi1 hL0 (by decide)) dL_law_1156 ?_
  refine lz_top (y := x3) hx3 ?_
  refine lv_aload_n hx hb dL_law_1157 rfl (lv_at hl 3 rfl) ?_
  refine lv_iload_n hx hb dL_law_1158 rfl (lv_at hl 0 rfl) ?_
  refine lv_iconst (v := 4) hx hb dL_law_1159 (by decide) ?_
  refine lv_iadd hx hb dL_law_1160 ?_
  refine va_sld hx hb hX hbl hbA hS (lw_vin hi0 hi1 hL0 (by decide)) dL_law_1161 ?_
  refine lz_top (y := x4) hx4 ?_
  refine lq_M (S := Int32 × Int32 × (Nat → Int32) × SU) (fL := fun q => mkM q.1 q.2.1 (my 2) (my 3) (my 4) (my 5) (my 6) (R 0) (R 1) q.2.2.1) (fu := fun q => q.2.2.2) (As := [.int x1, .int x2, .int x3, .int x4]) (rest := []) ⟨hx, hb, hml, hown, hts⟩ (w_X12_times l D cI cS _ b (my 0) (my 1) (my 2) (my 3) (my 4) (my 5) (my 6) (R 0) (R 1) (R 2) v hTM hV x1 x2 x3 x4 ) hKK hP hD hS hA (cwV 4 hts gL_law_X12_times rfl rfl rfl (by decide +kernel) ⟨Nat.le_of_ble_eq_true rfl, Nat.le_of_ble_eq_true rfl⟩) rfl hl.1 rfl (Nat.le_of_ble_eq_true rfl) dL_law_1162 (CSL.hf hcs) (fun r52292 q9 H locs hr52292 hP hD hS => ?_)
  obtain ⟨r52293, r52294, f52295, v⟩ := q9
  have hr52292 : TyV v ∧ Rg (-2147483648) 2147483647 r52292 ∧ Rg 0 12 r52293 ∧ Kp f52295 ∧ (r52293.toInt = (my 0).toInt ∧ r52294.toInt = (my 1).toInt ∧ (f52295 0).toInt = ((R 2) 0).toInt ∧ (f52295 1).toInt = ((R 2) 1).toInt) := hr52292
  have hV := hr52292.1
  have hTM : TyL (mkM r52293 r52294 (my 2) (my 3) (my 4) (my 5) (my 6) (R 0) (R 1) f52295) := ⟨(rg_w hr52292.2.2.1 (by decide) (by decide)), hTM.2.1, hTM.2.2.1, hTM.2.2.2.1, hr52292.2.2.2.1, hTM.2.2.2.2.2⟩
  refine lv_pop hx hb dL_law_1165 rfl ?_
  refine lv_goto (tgt := 1486) hx hb dL_law_1166 (by decide) ?_
  have hR2 : (cx 0).toInt = r52293.toInt ∧ r52291.toInt = r52294.toInt ∧ (cx 4).toInt = (f52295 1).toInt ∧ (cx 6).toInt = (my 2).toInt ∧ (cx 3).toInt = (my 3).toInt ∧ (cx 2).toInt = (f52295 0).toInt ∧ (cx 7).toInt = ((R 0) 0).toInt ∧ (cx 8).toInt = ((R 0) 1).toInt ∧ (cx 9).toInt = ((R 0) 2).toInt ∧ (cx 10).toInt = ((R 0) 3).toInt ∧ (cx 11).toInt = ((R 1) 0).toInt ∧ (cx 12).toInt = ((R 1) 1).toInt ∧ (cx 13).toInt = ((R 1) 2).toInt ∧ (cx 14).toInt = ((R 1) 3).toInt := by have zr := hR; have zz0 := hr52289.2.2; have zz1 := hr52292.2.2.2.2; refine ⟨by omega, by omega, by omega, by omega, by omega, by omega, by omega, by omega, by omega, by omega, by omega, by omega, by omega, by omega⟩
  exact tail na nc N  (upd (upd cx 1 r52290) 5 r52291) (upd (upd my 0 r52293) 1 r52294) (sU R 2 f52295) u v _ _ _ _ _ ⟨hcs, ⟨hTX, hTM, hV, hR2⟩, hP, hD, hS, hl⟩
