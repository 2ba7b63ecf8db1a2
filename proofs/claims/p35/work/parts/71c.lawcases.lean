set_option maxHeartbeats 4000000 in
set_option maxRecDepth 100000 in
theorem lc_25 {p : Program} {l : Launch} {e : Env} {s : State} {m : MethodId} {below : List Frame} {meth : Method} {c : Code} {b0 L0 : Nat} {xs : Nat → Int32} {D : va_G} {cI cS : ClassId} {A : Nat → Prop} {H : Heap} {locs : List Loc} {ls : Array Slot} {Q : State → Prop} {a b : Nat → Nat} {na nc N cells slots : Nat} {cx my : Nat → Int32} {R u v : SU} {i : Int32} (hx : p.tables.exec = Jvm.exec) (hb : c.code = cL_law) (hml : c.maxLocals = 4) (hown : s.vm.findClass RL = some m.cls) (hts : ∀ w ∈ wsL_law, w.before #[Value.ref b0] s = true) (hKK : KK D cI cS s) (hAB0 : AB s s.heap) (hA0 : ∀ q : Nat, q < s.heap.size → ¬ A q) (hX : va_X b0 L0 xs s s.heap) (hbl : b0 < s.heap.size) (hbA : ¬ A b0) (hA : ∀ q : Nat, s.heap.size ≤ q → A q) (hL0 : L0 ≤ 3072) (hi0 : 0 ≤ i.toInt) (hi1 : i.toInt + 6 ≤ (L0 : Int)) (hst : ST D cI cS A s a b b0 i na nc N cx my R u v H locs ls cells slots) (tail : ∀ (na nc N : Nat) (cx my : Nat → Int32) (R u v : SU) (H : Heap) (locs : List Loc) (ls : Array Slot) (cells slots : Nat), ST D cI cS A s a b b0 i na nc N cx my R u v H locs ls cells slots → W p l e room_1 s m #[Value.ref b0] below meth c H locs cells slots Q (F0 m 1486 ls [])) : W p l e room_1 s m #[Value.ref b0] below meth c H locs cells slots Q (F0 m 869 ls []) := by
  obtain ⟨hcs, ⟨hTX, hTM, hV, hR⟩, hP, hD, hS, hl⟩ := hst
  have hN := hcs.hN
  have hK := hKK.1
  have hR : (cx 0).toInt = (my 0).toInt ∧ (cx 5).toInt = (my 1).toInt ∧ (cx 4).toInt = ((R 2) 1).toInt ∧ (cx 6).toInt = (my 2).toInt ∧ (cx 3).toInt = (my 3).toInt ∧ (cx 2).toInt = ((R 2) 0).toInt ∧ (cx 7).toInt = ((R 0) 0).toInt ∧ (cx 8).toInt = ((R 0) 1).toInt ∧ (cx 9).toInt = ((R 0) 2).toInt ∧ (cx 10).toInt = ((R 0) 3).toInt ∧ (cx 11).toInt = ((R 1) 0).toInt ∧ (cx 12).toInt = ((R 1) 1).toInt ∧ (cx 13).toInt = ((R 1) 2).toInt ∧ (cx 14).toInt = ((R 1) 3).toInt := hR
  obtain ⟨x1, hx1⟩ : ∃ z, xs (i + 1).toNatClampNeg = z := ⟨_, rfl⟩
  obtain ⟨x2, hx2⟩ : ∃ z, xs (i + 2).toNatClampNeg = z := ⟨_, rfl⟩
  obtain ⟨x3, hx3⟩ : ∃ z, xs (i + 3).toNatClampNeg = z := ⟨_, rfl⟩
  obtain ⟨x4, hx4⟩ : ∃ z, xs (i + 4).toNatClampNeg = z := ⟨_, rfl⟩
  obtain ⟨x5, hx5⟩ : ∃ z, xs (i + 5).toNatClampNeg = z := ⟨_, rfl⟩
  refine lv_aload_n hx hb dL_law_869 rfl (lv_at hl 2 rfl) ?_
  refine lv_aload_n hx hb dL_law_870 rfl (lv_at hl 3 rfl) ?_
  refine lv_iload_n hx hb dL_law_871 rfl (lv_at hl 0 rfl) ?_
  refine lv_iconst (v := 1) hx hb dL_law_872 (by decide) ?_
  refine lv_iadd hx hb dL_law_873 ?_
  refine va_sld hx hb hX hbl hbA hS (lw_vin hi0 hi1 hL0 (by decide)) dL_law_874 ?_
  refine lz_top (y := x1) hx1 ?_
  refine lv_aload_n hx hb dL_law_875 rfl (lv_at hl 3 rfl) ?_
  refine lv_iload_n hx hb dL_law_876 rfl (lv_at hl 0 rfl) ?_
  refine lv_iconst (v := 2) hx hb dL_law_877 (by decide) ?_
  refine lv_iadd hx hb dL_law_878 ?_
  refine va_sld hx hb hX hbl hbA hS (lw_vin hi0 hi1 hL0 (by decide)) dL_law_879 ?_
  refine lz_top (y := x2) hx2 ?_
  refine lq_X (S := SU) (fna := fun _ => na) (fnc := fun _ => nc) (fN := fun _ => N) (fL := fun _ => (mkL (cx 0) (cx 1) (cx 2) (cx 3) (cx 4) (cx 5) (cx 6) (cx 7) (cx 8) (cx 9) (cx 10) (cx 11) (cx 12) (cx 13) (cx 14))) (fu := fun q => q) (As := [.int x1, .int x2]) (rest := []) ⟨hx, hb, hml, hown, hts⟩ (k_X11_way l D cI cS _ a na nc N (mkL (cx 0) (cx 1) (cx 2) (cx 3) (cx 4) (cx 5) (cx 6) (cx 7) (cx 8) (cx 9) (cx 10) (cx 11) (cx 12) (cx 13) (cx 14)) u hTX hN x1 x2 ) hKK hP hD hS hA (cwV 2 hts gL_law_X11_way rfl rfl rfl (by decide +kernel) ⟨Nat.le_of_ble_eq_true rfl, Nat.le_of_ble_eq_true rfl⟩) rfl hl.1 rfl (Nat.le_of_ble_eq_true rfl) dL_law_880 (CSL.hf hcs) (fun r53106 u H locs hr53106 hP hD hS => ?_)
  refine lv_pop hx hb dL_law_883 rfl ?_
  refine lv_aload_n hx hb dL_law_884 rfl (lv_at hl 1 rfl) ?_
  refine lv_aload_n hx hb dL_law_885 rfl (lv_at hl 3 rfl) ?_
  refine lv_iload_n hx hb dL_law_886 rfl (lv_at hl 0 rfl) ?_
  refine lv_iconst (v := 1) hx hb dL_law_887 (by decide) ?_
  refine lv_iadd hx hb dL_law_888 ?_
  refine va_sld hx hb hX hbl hbA hS (lw_vin hi0 hi1 hL0 (by decide)) dL_law_889 ?_
  refine lz_top (y := x1) hx1 ?_
  refine lv_aload_n hx hb dL_law_890 rfl (lv_at hl 3 rfl) ?_
  refine lv_iload_n hx hb dL_law_891 rfl (lv_at hl 0 rfl) ?_
  refine lv_iconst (v := 2) hx hb dL_law_892 (by decide) ?_
  refine lv_iadd hx hb dL_law_893 ?_
  refine va_sld hx hb hX hbl hbA hS (lw_vin hi0 hi1 hL0 (by decide)) dL_law_894 ?_
  refine lz_top (y := x2) hx2 ?_
  refine lq_M (S := SU) (fL := fun _ => (mkM (my 0) (my 1) (my 2) (my 3) (my 4) (my 5) (my 6) (R 0) (R 1) (R 2))) (fu := fun q => q) (As := [.int x1, .int x2]) (rest := []) ⟨hx, hb, hml, hown, hts⟩ (w_X12_way l D cI cS _ b (mkM (my 0) (my 1) (my 2) (my 3) (my 4) (my 5) (my 6) (R 0) (R 1) (R 2)) v hTM hV x1 x2 ) hKK hP hD hS hA (cwV 2 hts gL_law_X12_way rfl rfl rfl (by decide +kernel) ⟨Nat.le_of_ble_eq_true rfl, Nat.le_of_ble_eq_true rfl⟩) rfl hl.1 rfl (Nat.le_of_ble_eq_true rfl) dL_law_895 (CSL.hf hcs) (fun r53107 v H locs hr53107 hP hD hS => ?_)
  have hV := hr53107.1
  refine lv_pop hx hb dL_law_898 rfl ?_
  refine lv_goto (tgt := 1486) hx hb dL_law_899 (by decide) ?_
  exact tail na nc N  cx my R u v _ _ _ _ _ ⟨hcs, ⟨hTX, hTM, hV, hR⟩, hP, hD, hS, hl⟩
set_option maxHeartbeats 4000000 in
set_option maxRecDepth 100000 in
theorem lc_26 {p : Program} {l : Launch} {e : Env} {s : State} {m : MethodId} {below : List Frame} {meth : Method} {c : Code} {b0 L0 : Nat} {xs : Nat → Int32} {D : va_G} {cI cS : ClassId} {A : Nat → Prop} {H : Heap} {locs : List Loc} {ls : Array Slot} {Q : State → Prop} {a b : Nat → Nat} {na nc N cells slots : Nat} {cx my : Nat → Int32} {R u v : SU} {i : Int32} (hx : p.tables.exec = Jvm.exec) (hb : c.code = cL_law) (hml : c.maxLocals = 4) (hown : s.vm.findClass RL = some m.cls) (hts : ∀ w ∈ wsL_law, w.before #[Value.ref b0] s = true) (hKK : KK D cI cS s) (hAB0 : AB s s.heap) (hA0 : ∀ q : Nat, q < s.heap.size → ¬ A q) (hX : va_X b0 L0 xs s s.heap) (hbl : b0 < s.heap.size) (hbA : ¬ A b0) (hA : ∀ q : Nat, s.heap.size ≤ q → A q) (hL0 : L0 ≤ 3072) (hi0 : 0 ≤ i.toInt) (hi1 : i.toInt + 6 ≤ (L0 : Int)) (hst : ST D cI cS A s a b b0 i na nc N cx my R u v H locs ls cells slots) (tail : ∀ (na nc N : Nat) (cx my : Nat → Int32) (R u v : SU) (H : Heap) (locs : List Loc) (ls : Array Slot) (cells slots : Nat), ST D cI cS A s a b b0 i na nc N cx my R u v H locs ls cells slots → W p l e room_1 s m #[Value.ref b0] below meth c H locs cells slots Q (F0 m 1486 ls [])) : W p l e room_1 s m #[Value.ref b0] below meth c H locs cells slots Q (F0 m 902 ls []) := by
  obtain ⟨hcs, ⟨hTX, hTM, hV, hR⟩, hP, hD, hS, hl⟩ := hst
  have hN := hcs.hN
  have hK := hKK.1
  have hR : (cx 0).toInt = (my 0).toInt ∧ (cx 5).toInt = (my 1).toInt ∧ (cx 4).toInt = ((R 2) 1).toInt ∧ (cx 6).toInt = (my 2).toInt ∧ (cx 3).toInt = (my 3).toInt ∧ (cx 2).toInt = ((R 2) 0).toInt ∧ (cx 7).toInt = ((R 0) 0).toInt ∧ (cx 8).toInt = ((R 0) 1).toInt ∧ (cx 9).toInt = ((R 0) 2).toInt ∧ (cx 10).toInt = ((R 0) 3).toInt ∧ (cx 11).toInt = ((R 1) 0).toInt ∧ (cx 12).toInt = ((R 1) 1).toInt ∧ (cx 13).toInt = ((R 1) 2).toInt ∧ (cx 14).toInt = ((R 1) 3).toInt := hR
  obtain ⟨x1, hx1⟩ : ∃ z, xs (i + 1).toNatClampNeg = z := ⟨_, rfl⟩
  obtain ⟨x2, hx2⟩ : ∃ z, xs (i + 2).toNatClampNeg = z := ⟨_, rfl⟩
  obtain ⟨x3, hx3⟩ : ∃ z, xs (i + 3).toNatClampNeg = z := ⟨_, rfl⟩
  obtain ⟨x4, hx4⟩ : ∃ z, xs (i + 4).toNatClampNeg = z := ⟨_, rfl⟩
  obtain ⟨x5, hx5⟩ : ∃ z, xs (i + 5).toNatClampNeg = z := ⟨_, rfl⟩
  refine lv_aload_n hx hb dL_law_902 rfl (lv_at hl 2 rfl) ?_
  refine lv_aload_n hx hb dL_law_903 rfl (lv_at hl 3 rfl) ?_
  refine lv_iload_n hx hb dL_law_904 rfl (lv_at hl 0 rfl) ?_
  refine lv_iconst (v := 1) hx hb dL_law_905 (by decide) ?_
  refine lv_iadd hx hb dL_law_906 ?_
  refine va_sld hx hb hX hbl hbA hS (lw_vin hi0 hi1 hL0 (by decide)) dL_law_907 ?_
  refine lz_top (y := x1) hx1 ?_
  refine lq_X (S := Int32 × Int32 × Int32 × Int32 × Int32 × Int32 × Int32 × Int32 × SU) (fna := fun _ => na) (fnc := fun _ => nc) (fN := fun _ => N) (fL := fun q => mkL (cx 0) (cx 1) (cx 2) (cx 3) (cx 4) (cx 5) (cx 6) q.1 q.2.1 q.2.2.1 q.2.2.2.1 q.2.2.2.2.1 q.2.2.2.2.2.1 q.2.2.2.2.2.2.1 q.2.2.2.2.2.2.2.1) (fu := fun q => q.2.2.2.2.2.2.2.2) (As := [.int x1]) (rest := []) ⟨hx, hb, hml, hown, hts⟩ (k_X11_grow l D cI cS _ a na nc N (cx 0) (cx 1) (cx 2) (cx 3) (cx 4) (cx 5) (cx 6) (cx 7) (cx 8) (cx 9) (cx 10) (cx 11) (cx 12) (cx 13) (cx 14) u hTX hN x1 ) hKK hP hD hS hA (cwV 1 hts gL_law_X11_grow rfl rfl rfl (by decide +kernel) ⟨Nat.le_of_ble_eq_true rfl, Nat.le_of_ble_eq_true rfl⟩) rfl hl.1 rfl (Nat.le_of_ble_eq_true rfl) dL_law_908 (CSL.hf hcs) (fun r53108 q9 H locs hr53108 hP hD hS => ?_)
  obtain ⟨r53109, r53110, r53111, r53112, r53113, r53114, r53115, r53116, u⟩ := q9
  have hr53108 : Rg (-2147483648) 2147483647 r53108 ∧ Rg 0 40 r53113 ∧ Rg 0 40 r53114 ∧ Rg 0 40 r53115 ∧ Rg 0 40 r53116 ∧ (r53109.toInt = (cx 7).toInt ∧ r53113.toInt = (cx 11).toInt) ∧ (r53110.toInt = (cx 8).toInt ∧ r53114.toInt = (cx 12).toInt) ∧ (r53111.toInt = (cx 9).toInt ∧ r53115.toInt = (cx 13).toInt) ∧ (r53112.toInt = (cx 10).toInt ∧ r53116.toInt = (cx 14).toInt) := hr53108
  have hTX : TyX (mkL (cx 0) (cx 1) (cx 2) (cx 3) (cx 4) (cx 5) (cx 6) r53109 r53110 r53111 r53112 r53113 r53114 r53115 r53116) := ⟨hTX.1, hTX.2.1, hTX.2.2.1, hTX.2.2.2.1, (rg_w hr53108.2.1 (by decide) (by decide)), (rg_w hr53108.2.2.1 (by decide) (by decide)), (rg_w hr53108.2.2.2.1 (by decide) (by decide)), (rg_w hr53108.2.2.2.2.1 (by decide) (by decide))⟩
  refine lv_pop hx hb dL_law_911 rfl ?_
  refine lv_aload_n hx hb dL_law_912 rfl (lv_at hl 1 rfl) ?_
  refine lv_aload_n hx hb dL_law_913 rfl (lv_at hl 3 rfl) ?_
  refine lv_iload_n hx hb dL_law_914 rfl (lv_at hl 0 rfl) ?_
  refine lv_iconst (v := 1) hx hb dL_law_915 (by decide) ?_
  refine lv_iadd hx hb dL_law_916 ?_
  refine va_sld hx hb hX hbl hbA hS (lw_vin hi0 hi1 hL0 (by decide)) dL_law_917 ?_
  refine lz_top (y := x1) hx1 ?_
  refine lq_M (S := SU) (fL := fun _ => (mkM (my 0) (my 1) (my 2) (my 3) (my 4) (my 5) (my 6) (R 0) (R 1) (R 2))) (fu := fun q => q) (As := [.int x1]) (rest := []) ⟨hx, hb, hml, hown, hts⟩ (w_X12_grow l D cI cS _ b (mkM (my 0) (my 1) (my 2) (my 3) (my 4) (my 5) (my 6) (R 0) (R 1) (R 2)) v hTM hV x1 ) hKK hP hD hS hA (cwV 1 hts gL_law_X12_grow rfl rfl rfl (by decide +kernel) ⟨Nat.le_of_ble_eq_true rfl, Nat.le_of_ble_eq_true rfl⟩) rfl hl.1 rfl (Nat.le_of_ble_eq_true rfl) dL_law_918 (CSL.hf hcs) (fun r53117 v H locs hr53117 hP hD hS => ?_)
  have hV := hr53117.1
  refine lv_pop hx hb dL_law_921 rfl ?_
  refine lv_goto (tgt := 1486) hx hb dL_law_922 (by decide) ?_
  have hR2 : (cx 0).toInt = (my 0).toInt ∧ (cx 5).toInt = (my 1).toInt ∧ (cx 4).toInt = ((R 2) 1).toInt ∧ (cx 6).toInt = (my 2).toInt ∧ (cx 3).toInt = (my 3).toInt ∧ (cx 2).toInt = ((R 2) 0).toInt ∧ r53109.toInt = ((R 0) 0).toInt ∧ r53110.toInt = ((R 0) 1).toInt ∧ r53111.toInt = ((R 0) 2).toInt ∧ r53112.toInt = ((R 0) 3).toInt ∧ r53113.toInt = ((R 1) 0).toInt ∧ r53114.toInt = ((R 1) 1).toInt ∧ r53115.toInt = ((R 1) 2).toInt ∧ r53116.toInt = ((R 1) 3).toInt := by have zr := hR; have zz0 := hr53108.2.2.2.2.2.1; have zz1 := hr53108.2.2.2.2.2.2.1; have zz2 := hr53108.2.2.2.2.2.2.2.1; have zz3 := hr53108.2.2.2.2.2.2.2.2; refine ⟨by omega, by omega, by omega, by omega, by omega, by omega, by omega, by omega, by omega, by omega, by omega, by omega, by omega, by omega⟩
  exact tail na nc N  (upd (upd (upd (upd (upd (upd (upd (upd cx 7 r53109) 8 r53110) 9 r53111) 10 r53112) 11 r53113) 12 r53114) 13 r53115) 14 r53116) my R u v _ _ _ _ _ ⟨hcs, ⟨hTX, hTM, hV, hR2⟩, hP, hD, hS, hl⟩
set_option maxHeartbeats 4000000 in
set_option maxRecDepth 100000 in
theorem lc_27 {p : Program} {l : Launch} {e : Env} {s : State} {m : MethodId} {below : List Frame} {meth : Method} {c : Code} {b0 L0 : Nat} {xs : Nat → Int32} {D : va_G} {cI cS : ClassId} {A : Nat → Prop} {H : Heap} {locs : List Loc} {ls : Array Slot} {Q : State → Prop} {a b : Nat → Nat} {na nc N cells slots : Nat} {cx my : Nat → Int32} {R u v : SU} {i : Int32} (hx : p.tables.exec = Jvm.exec) (hb : c.code = cL_law) (hml : c.maxLocals = 4) (hown : s.vm.findClass RL = some m.cls) (hts : ∀ w ∈ wsL_law, w.before #[Value.ref b0] s = true) (hKK : KK D cI cS s) (hAB0 : AB s s.heap) (hA0 : ∀ q : Nat, q < s.heap.size → ¬ A q) (hX : va_X b0 L0 xs s s.heap) (hbl : b0 < s.heap.size) (hbA : ¬ A b0) (hA : ∀ q : Nat, s.heap.size ≤ q → A q) (hL0 : L0 ≤ 3072) (hi0 : 0 ≤ i.toInt) (hi1 : i.toInt + 6 ≤ (L0 : Int)) (hst : ST D cI cS A s a b b0 i na nc N cx my R u v H locs ls cells slots) (tail : ∀ (na nc N : Nat) (cx my : Nat → Int32) (R u v : SU) (H : Heap) (locs : List Loc) (ls : Array Slot) (cells slots : Nat), ST D cI cS A s a b b0 i na nc N cx my R u v H locs ls cells slots → W p l e room_1 s m #[Value.ref b0] below meth c H locs cells slots Q (F0 m 1486 ls [])) : W p l e room_1 s m #[Value.ref b0] below meth c H locs cells slots Q (F0 m 925 ls []) := by
  obtain ⟨hcs, ⟨hTX, hTM, hV, hR⟩, hP, hD, hS, hl⟩ := hst
  have hN := hcs.hN
  have hK := hKK.1
  have hR : (cx 0).toInt = (my 0).toInt ∧ (cx 5).toInt = (my 1).toInt ∧ (cx 4).toInt = ((R 2) 1).toInt ∧ (cx 6).toInt = (my 2).toInt ∧ (cx 3).toInt = (my 3).toInt ∧ (cx 2).toInt = ((R 2) 0).toInt ∧ (cx 7).toInt = ((R 0) 0).toInt ∧ (cx 8).toInt = ((R 0) 1).toInt ∧ (cx 9).toInt = ((R 0) 2).toInt ∧ (cx 10).toInt = ((R 0) 3).toInt ∧ (cx 11).toInt = ((R 1) 0).toInt ∧ (cx 12).toInt = ((R 1) 1).toInt ∧ (cx 13).toInt = ((R 1) 2).toInt ∧ (cx 14).toInt = ((R 1) 3).toInt := hR
  obtain ⟨x1, hx1⟩ : ∃ z, xs (i + 1).toNatClampNeg = z := ⟨_, rfl⟩
  obtain ⟨x2, hx2⟩ : ∃ z, xs (i + 2).toNatClampNeg = z := ⟨_, rfl⟩
  obtain ⟨x3, hx3⟩ : ∃ z, xs (i + 3).toNatClampNeg = z := ⟨_, rfl⟩
  obtain ⟨x4, hx4⟩ : ∃ z, xs (i + 4).toNatClampNeg = z := ⟨_, rfl⟩
  obtain ⟨x5, hx5⟩ : ∃ z, xs (i + 5).toNatClampNeg = z := ⟨_, rfl⟩
  refine lv_aload_n hx hb dL_law_925 rfl (lv_at hl 2 rfl) ?_
  refine lv_aload_n hx hb dL_law_926 rfl (lv_at hl 3 rfl) ?_
  refine lv_iload_n hx hb dL_law_927 rfl (lv_at hl 0 rfl) ?_
  refine lv_iconst (v := 1) hx hb dL_law_928 (by decide) ?_
  refine lv_iadd hx hb dL_law_929 ?_
  refine va_sld hx hb hX hbl hbA hS (lw_vin hi0 hi1 hL0 (by decide)) dL_law_930 ?_
  refine lz_top (y := x1) hx1 ?_
  refine lv_aload_n hx hb dL_law_931 rfl (lv_at hl 3 rfl) ?_
  refine lv_iload_n hx hb dL_law_932 rfl (lv_at hl 0 rfl) ?_
  refine lv_iconst (v := 2) hx hb dL_law_933 (by decide) ?_
  refine lv_iadd hx hb dL_law_934 ?_
  refine va_sld hx hb hX hbl hbA hS (lw_vin hi0 hi1 hL0 (by decide)) dL_law_935 ?_
  refine lz_top (y := x2) hx2 ?_
  refine lv_aload_n hx hb dL_law_936 rfl (lv_at hl 3 rfl) ?_
  refine lv_iload_n hx hb dL_law_937 rfl (lv_at hl 0 rfl) ?_
  refine lv_iconst (v := 3) hx hb dL_law_938 (by decide) ?_
  refine lv_iadd hx hb dL_law_939 ?_
  refine va_sld hx hb hX hbl hbA hS (lw_vin hi0 hi1 hL0 (by decide)) dL_law_940 ?_
  refine lz_top (y := x3) hx3 ?_
  refine lq_X (S := SU) (fna := fun _ => na) (fnc := fun _ => nc) (fN := fun _ => N) (fL := fun _ => (mkL (cx 0) (cx 1) (cx 2) (cx 3) (cx 4) (cx 5) (cx 6) (cx 7) (cx 8) (cx 9) (cx 10) (cx 11) (cx 12) (cx 13) (cx 14))) (fu := fun q => q) (As := [.int x1, .int x2, .int x3]) (rest := []) ⟨hx, hb, hml, hown, hts⟩ (k_X11_chains l D cI cS _ a na nc N (mkL (cx 0) (cx 1) (cx 2) (cx 3) (cx 4) (cx 5) (cx 6) (cx 7) (cx 8) (cx 9) (cx 10) (cx 11) (cx 12) (cx 13) (cx 14)) u hTX hN x1 x2 x3 ) hKK hP hD hS hA (cwV 3 hts gL_law_X11_chains rfl rfl rfl (by decide +kernel) ⟨Nat.le_of_ble_eq_true rfl, Nat.le_of_ble_eq_true rfl⟩) rfl hl.1 rfl (Nat.le_of_ble_eq_true rfl) dL_law_941 (CSL.hf hcs) (fun r53118 u H locs hr53118 hP hD hS => ?_)
  refine lv_pop hx hb dL_law_944 rfl ?_
  refine lv_aload_n hx hb dL_law_945 rfl (lv_at hl 1 rfl) ?_
  refine lv_aload_n hx hb dL_law_946 rfl (lv_at hl 3 rfl) ?_
  refine lv_iload_n hx hb dL_law_947 rfl (lv_at hl 0 rfl) ?_
  refine lv_iconst (v := 1) hx hb dL_law_948 (by decide) ?_
  refine lv_iadd hx hb dL_law_949 ?_
  refine va_sld hx hb hX hbl hbA hS (lw_vin hi0 hi1 hL0 (by decide)) dL_law_950 ?_
  refine lz_top (y := x1) hx1 ?_
  refine lv_aload_n hx hb dL_law_951 rfl (lv_at hl 3 rfl) ?_
  refine lv_iload_n hx hb dL_law_952 rfl (lv_at hl 0 rfl) ?_
  refine lv_iconst (v := 2) hx hb dL_law_953 (by decide) ?_
  refine lv_iadd hx hb dL_law_954 ?_
  refine va_sld hx hb hX hbl hbA hS (lw_vin hi0 hi1 hL0 (by decide)) dL_law_955 ?_
  refine lz_top (y := x2) hx2 ?_
  refine lv_aload_n hx hb dL_law_956 rfl (lv_at hl 3 rfl) ?_
  refine lv_iload_n hx hb dL_law_957 rfl (lv_at hl 0 rfl) ?_
  refine lv_iconst (v := 3) hx hb dL_law_958 (by decide) ?_
  refine lv_iadd hx hb dL_law_959 ?_
  refine va_sld hx hb hX hbl hbA hS (lw_vin hi0 hi1 hL0 (by decide)) dL_law_960 ?_
  refine lz_top (y := x3) hx3 ?_
  refine lq_M (S := SU) (fL := fun _ => (mkM (my 0) (my 1) (my 2) (my 3) (my 4) (my 5) (my 6) (R 0) (R 1) (R 2))) (fu := fun q => q) (As := [.int x1, .int x2, .int x3]) (rest := []) ⟨hx, hb, hml, hown, hts⟩ (w_X12_chains l D cI cS _ b (mkM (my 0) (my 1) (my 2) (my 3) (my 4) (my 5) (my 6) (R 0) (R 1) (R 2)) v hTM hV x1 x2 x3 ) hKK hP hD hS hA (cwV 3 hts gL_law_X12_chains rfl rfl rfl (by decide +kernel) ⟨Nat.le_of_ble_eq_true rfl, Nat.le_of_ble_eq_true rfl⟩) rfl hl.1 rfl (Nat.le_of_ble_eq_true rfl) dL_law_961 (CSL.hf hcs) (fun r53119 v H locs hr53119 hP hD hS => ?_)
  have hV := hr53119.1
  refine lv_pop hx hb dL_law_964 rfl ?_
  refine lv_goto (tgt := 1486) hx hb dL_law_965 (by decide) ?_
  exact tail na nc N  cx my R u v _ _ _ _ _ ⟨hcs, ⟨hTX, hTM, hV, hR⟩, hP, hD, hS, hl⟩
set_option maxHeartbeats 4000000 in
set_option maxRecDepth 100000 in
theorem lc_28 {p : Program} {l : Launch} {e : Env} {s : State} {m : MethodId} {below : List Frame} {meth : Method} {c : Code} {b0 L0 : Nat} {xs : Nat → Int32} {D : va_G} {cI cS : ClassId} {A : Nat → Prop} {H : Heap} {locs : List Loc} {ls : Array Slot} {Q : State → Prop} {a b : Nat → Nat} {na nc N cells slots : Nat} {cx my : Nat → Int32} {R u v : SU} {i : Int32} (hx : p.tables.exec = Jvm.exec) (hb : c.code = cL_law) (hml : c.maxLocals = 4) (hown : s.vm.findClass RL = some m.cls) (hts : ∀ w ∈ wsL_law, w.before #[Value.ref b0] s = true) (hKK : KK D cI cS s) (hAB0 : AB s s.heap) (hA0 : ∀ q : Nat, q < s.heap.size → ¬ A q) (hX : va_X b0 L0 xs s s.heap) (hbl : b0 < s.heap.size) (hbA : ¬ A b0) (hA : ∀ q : Nat, s.heap.size ≤ q → A q) (hL0 : L0 ≤ 3072) (hi0 : 0 ≤ i.toInt) (hi1 : i.toInt + 6 ≤ (L0 : Int)) (hst : ST D cI cS A s a b b0 i na nc N cx my R u v H locs ls cells slots) (tail : ∀ (na nc N : Nat) (cx my : Nat → Int32) (R u v : SU) (H : Heap) (locs : List Loc) (ls : Array Slot) (cells slots : Nat), ST D cI cS A s a b b0 i na nc N cx my R u v H locs ls cells slots → W p l e room_1 s m #[Value.ref b0] below meth c H locs cells slots Q (F0 m 1486 ls [])) : W p l e room_1 s m #[Value.ref b0] below meth c H locs cells slots Q (F0 m 968 ls []) := by
  obtain ⟨hcs, ⟨hTX, hTM, hV, hR⟩, hP, hD, hS, hl⟩ := hst
  have hN := hcs.hN
  have hK := hKK.1
  have hR : (cx 0).toInt = (my 0).toInt ∧ (cx 5).toInt = (my 1).toInt ∧ (cx 4).toInt = ((R 2) 1).toInt ∧ (cx 6).toInt = (my 2).toInt ∧ (cx 3).toInt = (my 3).toInt ∧ (cx 2).toInt = ((R 2) 0).toInt ∧ (cx 7).toInt = ((R 0) 0).toInt ∧ (cx 8).toInt = ((R 0) 1).toInt ∧ (cx 9).toInt = ((R 0) 2).toInt ∧ (cx 10).toInt = ((R 0) 3).toInt ∧ (cx 11).toInt = ((R 1) 0).toInt ∧ (cx 12).toInt = ((R 1) 1).toInt ∧ (cx 13).toInt = ((R 1) 2).toInt ∧ (cx 14).toInt = ((R 1) 3).toInt := hR
  obtain ⟨x1, hx1⟩ : ∃ z, xs (i + 1).toNatClampNeg = z := ⟨_, rfl⟩
  obtain ⟨x2, hx2⟩ : ∃ z, xs (i + 2).toNatClampNeg = z := ⟨_, rfl⟩
  obtain ⟨x3, hx3⟩ : ∃ z, xs (i + 3).toNatClampNeg = z := ⟨_, rfl⟩
  obtain ⟨x4, hx4⟩ : ∃ z, xs (i + 4).toNatClampNeg = z := ⟨_, rfl⟩
  obtain ⟨x5, hx5⟩ : ∃ z, xs (i + 5).toNatClampNeg = z := ⟨_, rfl⟩
  refine lv_aload_n hx hb dL_law_968 rfl (lv_at hl 2 rfl) ?_
  refine lv_aload_n hx hb dL_law_969 rfl (lv_at hl 3 rfl) ?_
  refine lv_iload_n hx hb dL_law_970 rfl (lv_at hl 0 rfl) ?_
  refine lv_iconst (v := 1) hx hb dL_law_971 (by decide) ?_
  refine lv_iadd hx hb dL_law_972 ?_
  refine va_sld hx hb hX hbl hbA hS (lw_vin hi0 hi1 hL0 (by decide)) dL_law_973 ?_
  refine lz_top (y := x1) hx1 ?_
  refine lv_aload_n hx hb dL_law_974 rfl (lv_at hl 3 rfl) ?_
  refine lv_iload_n hx hb dL_law_975 rfl (lv_at hl 0 rfl) ?_
  refine lv_iconst (v := 2) hx hb dL_law_976 (by decide) ?_
  refine lv_iadd hx hb dL_law_977 ?_
  refine va_sld hx hb hX hbl hbA hS (lw_vin hi0 hi1 hL0 (by decide)) dL_law_978 ?_
  refine lz_top (y := x2) hx2 ?_
  refine lq_X (S := Int32 × Int32 × Int32 × Int32 × Int32 × Int32 × Int32 × Int32 × SU) (fna := fun _ => na) (fnc := fun _ => nc) (fN := fun _ => N) (fL := fun q => mkL (cx 0) (cx 1) (cx 2) (cx 3) (cx 4) (cx 5) (cx 6) q.1 q.2.1 q.2.2.1 q.2.2.2.1 q.2.2.2.2.1 q.2.2.2.2.2.1 q.2.2.2.2.2.2.1 q.2.2.2.2.2.2.2.1) (fu := fun q => q.2.2.2.2.2.2.2.2) (As := [.int x1, .int x2]) (rest := []) ⟨hx, hb, hml, hown, hts⟩ (k_X11_paint l D cI cS _ a na nc N (cx 0) (cx 1) (cx 2) (cx 3) (cx 4) (cx 5) (cx 6) (cx 7) (cx 8) (cx 9) (cx 10) (cx 11) (cx 12) (cx 13) (cx 14) u hTX hN x1 x2 ) hKK hP hD hS hA (cwV 2 hts gL_law_X11_paint rfl rfl rfl (by decide +kernel) ⟨Nat.le_of_ble_eq_true rfl, Nat.le_of_ble_eq_true rfl⟩) rfl hl.1 rfl (Nat.le_of_ble_eq_true rfl) dL_law_979 (CSL.hf hcs) (fun r53120 q9 H locs hr53120 hP hD hS => ?_)
  obtain ⟨r53121, r53122, r53123, r53124, r53125, r53126, r53127, r53128, u⟩ := q9
  have hr53120 : Rg (-2) 12 r53120 ∧ Rg 0 40 r53125 ∧ Rg 0 40 r53126 ∧ Rg 0 40 r53127 ∧ Rg 0 40 r53128 ∧ ((x1.toInt < 0 ∨ 3 < x1.toInt ∨ x2.toInt < 0 ∨ 1 < x2.toInt → r53120.toInt = -2) ∧ (0 ≤ x1.toInt → x1.toInt ≤ 3 → 0 ≤ x2.toInt → x2.toInt ≤ 1 → r53120.toInt = (cx 0).toInt)) ∧ ((¬ r53120.toInt = -2 → x1.toInt = 0 → r53121.toInt = x2.toInt ∧ r53125.toInt = (cx 0).toInt) ∧ ((r53120.toInt = -2 ∨ ¬ x1.toInt = 0) → r53121.toInt = (cx 7).toInt ∧ r53125.toInt = (cx 11).toInt)) ∧ ((¬ r53120.toInt = -2 → x1.toInt = 1 → r53122.toInt = x2.toInt ∧ r53126.toInt = (cx 0).toInt) ∧ ((r53120.toInt = -2 ∨ ¬ x1.toInt = 1) → r53122.toInt = (cx 8).toInt ∧ r53126.toInt = (cx 12).toInt)) ∧ ((¬ r53120.toInt = -2 → x1.toInt = 2 → r53123.toInt = x2.toInt ∧ r53127.toInt = (cx 0).toInt) ∧ ((r53120.toInt = -2 ∨ ¬ x1.toInt = 2) → r53123.toInt = (cx 9).toInt ∧ r53127.toInt = (cx 13).toInt)) ∧ ((¬ r53120.toInt = -2 → x1.toInt = 3 → r53124.toInt = x2.toInt ∧ r53128.toInt = (cx 0).toInt) ∧ ((r53120.toInt = -2 ∨ ¬ x1.toInt = 3) → r53124.toInt = (cx 10).toInt ∧ r53128.toInt = (cx 14).toInt)) := hr53120
  have hTX : TyX (mkL (cx 0) (cx 1) (cx 2) (cx 3) (cx 4) (cx 5) (cx 6) r53121 r53122 r53123 r53124 r53125 r53126 r53127 r53128) := ⟨hTX.1, hTX.2.1, hTX.2.2.1, hTX.2.2.2.1, (rg_w hr53120.2.1 (by decide) (by decide)), (rg_w hr53120.2.2.1 (by decide) (by decide)), (rg_w hr53120.2.2.2.1 (by decide) (by decide)), (rg_w hr53120.2.2.2.2.1 (by decide) (by decide))⟩
  refine lv_pop hx hb dL_law_982 rfl ?_
  refine lv_aload_n hx hb dL_law_983 rfl (lv_at hl 1 rfl) ?_
  refine lv_aload_n hx hb dL_law_984 rfl (lv_at hl 3 rfl) ?_
  refine lv_iload_n hx hb dL_law_985 rfl (lv_at hl 0 rfl) ?_
  refine lv_iconst (v := 1) hx hb dL_law_986 (by decide) ?_
  refine lv_iadd hx hb dL_law_987 ?_
  refine va_sld hx hb hX hbl hbA hS (lw_vin hi0 hi1 hL0 (by decide)) dL_law_988 ?_
  refine lz_top (y := x1) hx1 ?_
  refine lv_aload_n hx hb dL_law_989 rfl (lv_at hl 3 rfl) ?_
  refine lv_iload_n hx hb dL_law_990 rfl (lv_at hl 0 rfl) ?_
  refine lv_iconst (v := 2) hx hb dL_law_991 (by decide) ?_
  refine lv_iadd hx hb dL_law_992 ?_
  refine va_sld hx hb hX hbl hbA hS (lw_vin hi0 hi1 hL0 (by decide)) dL_law_993 ?_
  refine lz_top (y := x2) hx2 ?_
  refine lq_M (S := (Nat → Int32) × (Nat → Int32) × SU) (fL := fun q => mkM (my 0) (my 1) (my 2) (my 3) (my 4) (my 5) (my 6) q.1 q.2.1 (R 2)) (fu := fun q => q.2.2) (As := [.int x1, .int x2]) (rest := []) ⟨hx, hb, hml, hown, hts⟩ (w_X12_paint l D cI cS _ b (my 0) (my 1) (my 2) (my 3) (my 4) (my 5) (my 6) (R 0) (R 1) (R 2) v hTM hV x1 x2 ) hKK hP hD hS hA (cwV 2 hts gL_law_X12_paint rfl rfl rfl (by decide +kernel) ⟨Nat.le_of_ble_eq_true rfl, Nat.le_of_ble_eq_true rfl⟩) rfl hl.1 rfl (Nat.le_of_ble_eq_true rfl) dL_law_994 (CSL.hf hcs) (fun r53129 q9 H locs hr53129 hP hD hS => ?_)
  obtain ⟨f53130, f53131, v⟩ := q9
  have hr53129 : TyV v ∧ Rg (-2) 12 r53129 ∧ Ar (-1) 1 f53130 ∧ Ar 0 40 f53131 ∧ ((x1.toInt < 0 ∨ 3 < x1.toInt ∨ x2.toInt < 0 ∨ 1 < x2.toInt → r53129.toInt = -2) ∧ (0 ≤ x1.toInt → x1.toInt ≤ 3 → 0 ≤ x2.toInt → x2.toInt ≤ 1 → r53129.toInt = (my 0).toInt)) ∧ ((r53129.toInt = -2 → f53130 = (R 0) ∧ f53131 = (R 1)) ∧ (¬ r53129.toInt = -2 → f53130 = upd (R 0) x1.toNatClampNeg x2 ∧ f53131 = upd (R 1) x1.toNatClampNeg (my 0))) := hr53129
  have hV := hr53129.1
  have hTM : TyL (mkM (my 0) (my 1) (my 2) (my 3) (my 4) (my 5) (my 6) f53130 f53131 (R 2)) := ⟨hTM.1, hTM.2.1, hr53129.2.2.1, hr53129.2.2.2.1, hTM.2.2.2.2.1, hTM.2.2.2.2.2⟩
  refine lv_pop hx hb dL_law_997 rfl ?_
  refine lv_goto (tgt := 1486) hx hb dL_law_998 (by decide) ?_
  have hj0 := pa_rel (k := 0) (by decide) hr53120.2.2.2.2.2.1 hr53129.2.2.2.2.1 hr53120.2.2.2.2.2.2.1 hr53129.2.2.2.2.2 (show (cx 7).toInt = ((R 0) 0).toInt from by have zr := hR; omega) (show (cx 11).toInt = ((R 1) 0).toInt from by have zr := hR; omega) (show (cx 0).toInt = (my 0).toInt from by have zr := hR; omega)
  have hj1 := pa_rel (k := 1) (by decide) hr53120.2.2.2.2.2.1 hr53129.2.2.2.2.1 hr53120.2.2.2.2.2.2.2.1 hr53129.2.2.2.2.2 (show (cx 8).toInt = ((R 0) 1).toInt from by have zr := hR; omega) (show (cx 12).toInt = ((R 1) 1).toInt from by have zr := hR; omega) (show (cx 0).toInt = (my 0).toInt from by have zr := hR; omega)
  have hj2 := pa_rel (k := 2) (by decide) hr53120.2.2.2.2.2.1 hr53129.2.2.2.2.1 hr53120.2.2.2.2.2.2.2.2.1 hr53129.2.2.2.2.2 (show (cx 9).toInt = ((R 0) 2).toInt from by have zr := hR; omega) (show (cx 13).toInt = ((R 1) 2).toInt from by have zr := hR; omega) (show (cx 0).toInt = (my 0).toInt from by have zr := hR; omega)
  have hj3 := pa_rel (k := 3) (by decide) hr53120.2.2.2.2.2.1 hr53129.2.2.2.2.1 hr53120.2.2.2.2.2.2.2.2.2 hr53129.2.2.2.2.2 (show (cx 10).toInt = ((R 0) 3).toInt from by have zr := hR; omega) (show (cx 14).toInt = ((R 1) 3).toInt from by have zr := hR; omega) (show (cx 0).toInt = (my 0).toInt from by have zr := hR; omega)
  have hR2 : (cx 0).toInt = (my 0).toInt ∧ (cx 5).toInt = (my 1).toInt ∧ (cx 4).toInt = ((R 2) 1).toInt ∧ (cx 6).toInt = (my 2).toInt ∧ (cx 3).toInt = (my 3).toInt ∧ (cx 2).toInt = ((R 2) 0).toInt ∧ r53121.toInt = (f53130 0).toInt ∧ r53122.toInt = (f53130 1).toInt ∧ r53123.toInt = (f53130 2).toInt ∧ r53124.toInt = (f53130 3).toInt ∧ r53125.toInt = (f53131 0).toInt ∧ r53126.toInt = (f53131 1).toInt ∧ r53127.toInt = (f53131 2).toInt ∧ r53128.toInt = (f53131 3).toInt := ⟨(by have zr := hR; omega), (by have zr := hR; omega), (by have zr := hR; omega), (by have zr := hR; omega), (by have zr := hR; omega), (by have zr := hR; omega), hj0.1, hj1.1, hj2.1, hj3.1, hj0.2, hj1.2, hj2.2, hj3.2⟩
  exact tail na nc N  (upd (upd (upd (upd (upd (upd (upd (upd cx 7 r53121) 8 r53122) 9 r53123) 10 r53124) 11 r53125) 12 r53126) 13 r53127) 14 r53128) my (sU (sU R 0 f53130) 1 f53131) u v _ _ _ _ _ ⟨hcs, ⟨hTX, hTM, hV, hR2⟩, hP, hD, hS, hl⟩
set_option maxHeartbeats 4000000 in
set_option maxRecDepth 100000 in
theorem lc_29 {p : Program} {l : Launch} {e : Env} {s : State} {m : MethodId} {below : List Frame} {meth : Method} {c : Code} {b0 L0 : Nat} {xs : Nat → Int32} {D : va_G} {cI cS : ClassId} {A : Nat → Prop} {H : Heap} {locs : List Loc} {ls : Array Slot} {Q : State → Prop} {a b : Nat → Nat} {na nc N cells slots : Nat} {cx my : Nat → Int32} {R u v : SU} {i : Int32} (hx : p.tables.exec = Jvm.exec) (hb : c.code = cL_law) (hml : c.maxLocals = 4) (hown : s.vm.findClass RL = some m.cls) (hts : ∀ w ∈ wsL_law, w.before #[Value.ref b0] s = true) (hKK : KK D cI cS s) (hAB0 : AB s s.heap) (hA0 : ∀ q : Nat, q < s.heap.size → ¬ A q) (hX : va_X b0 L0 xs s s.heap) (hbl : b0 < s.heap.size) (hbA : ¬ A b0) (hA : ∀ q : Nat, s.heap.size ≤ q → A q) (hL0 : L0 ≤ 3072) (hi0 : 0 ≤ i.toInt) (hi1 : i.toInt + 6 ≤ (L0 : Int)) (hst : ST D cI cS A s a b b0 i na nc N cx my R u v H locs ls cells slots) (tail : ∀ (na nc N : Nat) (cx my : Nat → Int32) (R u v : SU) (H : Heap) (locs : List Loc) (ls : Array Slot) (cells slots : Nat), ST D cI cS A s a b b0 i na nc N cx my R u v H locs ls cells slots → W p l e room_1 s m #[Value.ref b0] below meth c H locs cells slots Q (F0 m 1486 ls [])) : W p l e room_1 s m #[Value.ref b0] below meth c H locs cells slots Q (F0 m 1001 ls []) := by
  obtain ⟨hcs, ⟨hTX, hTM, hV, hR⟩, hP, hD, hS, hl⟩ := hst
  have hN := hcs.hN
  have hK := hKK.1
  have hR : (cx 0).toInt = (my 0).toInt ∧ (cx 5).toInt = (my 1).toInt ∧ (cx 4).toInt = ((R 2) 1).toInt ∧ (cx 6).toInt = (my 2).toInt ∧ (cx 3).toInt = (my 3).toInt ∧ (cx 2).toInt = ((R 2) 0).toInt ∧ (cx 7).toInt = ((R 0) 0).toInt ∧ (cx 8).toInt = ((R 0) 1).toInt ∧ (cx 9).toInt = ((R 0) 2).toInt ∧ (cx 10).toInt = ((R 0) 3).toInt ∧ (cx 11).toInt = ((R 1) 0).toInt ∧ (cx 12).toInt = ((R 1) 1).toInt ∧ (cx 13).toInt = ((R 1) 2).toInt ∧ (cx 14).toInt = ((R 1) 3).toInt := hR
  obtain ⟨x1, hx1⟩ : ∃ z, xs (i + 1).toNatClampNeg = z := ⟨_, rfl⟩
  obtain ⟨x2, hx2⟩ : ∃ z, xs (i + 2).toNatClampNeg = z := ⟨_, rfl⟩
  obtain ⟨x3, hx3⟩ : ∃ z, xs (i + 3).toNatClampNeg = z := ⟨_, rfl⟩
  obtain ⟨x4, hx4⟩ : ∃ z, xs (i + 4).toNatClampNeg = z := ⟨_, rfl⟩
  obtain ⟨x5, hx5⟩ : ∃ z, xs (i + 5).toNatClampNeg = z := ⟨_, rfl⟩
  refine lv_aload_n hx hb dL_law_1001 rfl (lv_at hl 2 rfl) ?_
  refine lv_aload_n hx hb dL_law_1002 rfl (lv_at hl 3 rfl) ?_
  refine lv_iload_n hx hb dL_law_1003 rfl (lv_at hl 0 rfl) ?_
  refine lv_iconst (v := 1) hx hb dL_law_1004 (by decide) ?_
  refine lv_iadd hx hb dL_law_1005 ?_
  refine va_sld hx hb hX hbl hbA hS (lw_vin hi0 hi1 hL0 (by decide)) dL_law_1006 ?_
  refine lz_top (y := x1) hx1 ?_
  refine lv_aload_n hx hb dL_law_1007 rfl (lv_at hl 3 rfl) ?_
  refine lv_iload_n hx hb dL_law_1008 rfl (lv_at hl 0 rfl) ?_
  refine lv_iconst (v := 2) hx hb dL_law_1009 (by decide) ?_
  refine lv_iadd hx hb dL_law_1010 ?_
  refine va_sld hx hb hX hbl hbA hS (lw_vin hi0 hi1 hL0 (by decide)) dL_law_1011 ?_
  refine lz_top (y := x2) hx2 ?_
  refine lq_X (S := Int32 × SU) (fna := fun _ => na) (fnc := fun _ => nc) (fN := fun _ => N) (fL := fun q => mkL (cx 0) (cx 1) (cx 2) (cx 3) (cx 4) (cx 5) q.1 (cx 7) (cx 8) (cx 9) (cx 10) (cx 11) (cx 12) (cx 13) (cx 14)) (fu := fun q => q.2) (As := [.int x1, .int x2]) (rest := []) ⟨hx, hb, hml, hown, hts⟩ (k_X11_feed l D cI cS _ a na nc N (cx 0) (cx 1) (cx 2) (cx 3) (cx 4) (cx 5) (cx 6) (cx 7) (cx 8) (cx 9) (cx 10) (cx 11) (cx 12) (cx 13) (cx 14) u hTX hN x1 x2 ) hKK hP hD hS hA (cwV 2 hts gL_law_X11_feed rfl rfl rfl (by decide +kernel) ⟨Nat.le_of_ble_eq_true rfl, Nat.le_of_ble_eq_true rfl⟩) rfl hl.1 rfl (Nat.le_of_ble_eq_true rfl) dL_law_1012 (CSL.hf hcs) (fun r53132 q9 H locs hr53132 hP hD hS => ?_)
  obtain ⟨r53133, u⟩ := q9
  have hr53132 : Rg (-4) 120 r53132 ∧ Rg 0 120 r53133 ∧ ((x2.toInt < 1 ∨ 4 < x2.toInt → r53132.toInt = -2 ∧ r53133.toInt = (cx 6).toInt) ∧ (1 ≤ x2.toInt → x2.toInt ≤ 4 → 120 < (cx 6).toInt + x2.toInt → r53132.toInt = -4 ∧ r53133.toInt = (cx 6).toInt) ∧ (1 ≤ x2.toInt → x2.toInt ≤ 4 → (cx 6).toInt + x2.toInt ≤ 120 → r53132.toInt = (cx 6).toInt + x2.toInt ∧ r53133.toInt = (cx 6).toInt + x2.toInt)) := hr53132
  have hTX : TyX (mkL (cx 0) (cx 1) (cx 2) (cx 3) (cx 4) (cx 5) r53133 (cx 7) (cx 8) (cx 9) (cx 10) (cx 11) (cx 12) (cx 13) (cx 14)) := ⟨hTX.1, hTX.2.1, hTX.2.2.1, (rg_w hr53132.2.1 (by decide) (by decide)), hTX.2.2.2.2.1, hTX.2.2.2.2.2.1, hTX.2.2.2.2.2.2.1, hTX.2.2.2.2.2.2.2⟩
  refine lv_pop hx hb dL_law_1015 rfl ?_
  refine lv_aload_n hx hb dL_law_1016 rfl (lv_at hl 1 rfl) ?_
  refine lv_aload_n hx hb dL_law_1017 rfl (lv_at hl 3 rfl) ?_
  refine lv_iload_n hx hb dL_law_1018 rfl (lv_at hl 0 rfl) ?_
  refine lv_iconst (v := 1) hx hb dL_law_1019 (by decide) ?_
  refine lv_iadd hx hb dL_law_1020 ?_
  refine va_sld hx hb hX hbl hbA hS (lw_vin hi0 hi1 hL0 (by decide)) dL_law_1021 ?_
  refine lz_top (y := x1) hx1 ?_
  refine lv_aload_n hx hb dL_law_1022 rfl (lv_at hl 3 rfl) ?_
  refine lv_iload_n hx hb dL_law_1023 rfl (lv_at hl 0 rfl) ?_
  refine lv_iconst (v := 2) hx hb dL_law_1024 (by decide) ?_
  refine lv_iadd hx hb dL_law_1025 ?_
  refine va_sld hx hb hX hbl hbA hS (lw_vin hi0 hi1 hL0 (by decide)) dL_law_1026 ?_
  refine lz_top (y := x2) hx2 ?_
  refine lq_M (S := Int32 × SU) (fL := fun q => mkM (my 0) (my 1) q.1 (my 3) (my 4) (my 5) (my 6) (R 0) (R 1) (R 2)) (fu := fun q => q.2) (As := [.int x1, .int x2]) (rest := []) ⟨hx, hb, hml, hown, hts⟩ (w_X12_feed l D cI cS _ b (my 0) (my 1) (my 2) (my 3) (my 4) (my 5) (my 6) (R 0) (R 1) (R 2) v hTM hV x1 x2 ) hKK hP hD hS hA (cwV 2 hts gL_law_X12_feed rfl rfl rfl (by decide +kernel) ⟨Nat.le_of_ble_eq_true rfl, Nat.le_of_ble_eq_true rfl⟩) rfl hl.1 rfl (Nat.le_of_ble_eq_true rfl) dL_law_1027 (CSL.hf hcs) (fun r53134 q9 H locs hr53134 hP hD hS => ?_)
  obtain ⟨r53135, v⟩ := q9
  have hr53134 : TyV v ∧ Rg (-4) 120 r53134 ∧ Rg 0 120 r53135 ∧ ((x2.toInt < 1 ∨ 4 < x2.toInt → r53134.toInt = -2 ∧ r53135.toInt = (my 2).toInt) ∧ (1 ≤ x2.toInt → x2.toInt ≤ 4 → 120 < (my 2).toInt + x2.toInt → r53134.toInt = -4 ∧ r53135.toInt = (my 2).toInt) ∧ (1 ≤ x2.toInt → x2.toInt ≤ 4 → (my 2).toInt + x2.toInt ≤ 120 → r53134.toInt = (my 2).toInt + x2.toInt ∧ r53135.toInt = (my 2).toInt + x2.toInt)) := hr53134
  have hV := hr53134.1
  have hTM : TyL (mkM (my 0) (my 1) r53135 (my 3) (my 4) (my 5) (my 6) (R 0) (R 1) (R 2)) := ⟨hTM.1, (rg_w hr53134.2.2.1 (by decide) (by decide)), hTM.2.2.1, hTM.2.2.2.1, hTM.2.2.2.2.1, hTM.2.2.2.2.2⟩
  refine lv_pop hx hb dL_law_1030 rfl ?_
  refine lv_goto (tgt := 1486) hx hb dL_law_1031 (by decide) ?_
  have hR2 : (cx 0).toInt = (my 0).toInt ∧ (cx 5).toInt = (my 1).toInt ∧ (cx 4).toInt = ((R 2) 1).toInt ∧ r53133.toInt = r53135.toInt ∧ (cx 3).toInt = (my 3).toInt ∧ (cx 2).toInt = ((R 2) 0).toInt ∧ (cx 7).toInt = ((R 0) 0).toInt ∧ (cx 8).toInt = ((R 0) 1).toInt ∧ (cx 9).toInt = ((R 0) 2).toInt ∧ (cx 10).toInt = ((R 0) 3).toInt ∧ (cx 11).toInt = ((R 1) 0).toInt ∧ (cx 12).toInt = ((R 1) 1).toInt ∧ (cx 13).toInt = ((R 1) 2).toInt ∧ (cx 14).toInt = ((R 1) 3).toInt := by have zr := hR; have zz0 := hr53132.2.2; have zz1 := hr53134.2.2.2; refine ⟨by omega, by omega, by omega, by omega, by omega, by omega, by omega, by omega, by omega, by omega, by omega, by omega, by omega, by omega⟩
  exact tail na nc N  (upd cx 6 r53133) (upd my 2 r53135) R u v _ _ _ _ _ ⟨hcs, ⟨hTX, hTM, hV, hR2⟩, hP, hD, hS, hl⟩
set_option maxHeartbeats 4000000 in
set_option maxRecDepth 100000 in
theorem lc_30 {p : Program} {l : Launch} {e : Env} {s : State} {m : MethodId} {below : List Frame} {meth : Method} {c : Code} {b0 L0 : Nat} {xs : Nat → Int32} {D : va_G} {cI cS : ClassId} {A : Nat → Prop} {H : Heap} {locs : List Loc} {ls : Array Slot} {Q : State → Prop} {a b : Nat → Nat} {na nc N cells slots : Nat} {cx my : Nat → Int32} {R u v : SU} {i : Int32} (hx : p.tables.exec = Jvm.exec) (hb : c.code = cL_law) (hml : c.maxLocals = 4) (hown : s.vm.findClass RL = some m.cls) (hts : ∀ w ∈ wsL_law, w.before #[Value.ref b0] s = true) (hKK : KK D cI cS s) (hAB0 : AB s s.heap) (hA0 : ∀ q : Nat, q < s.heap.size → ¬ A q) (hX : va_X b0 L0 xs s s.heap) (hbl : b0 < s.heap.size) (hbA : ¬ A b0) (hA : ∀ q : Nat, s.heap.size ≤ q → A q) (hL0 : L0 ≤ 3072) (hi0 : 0 ≤ i.toInt) (hi1 : i.toInt + 6 ≤ (L0 : Int)) (hst : ST D cI cS A s a b b0 i na nc N cx my R u v H locs ls cells slots) (tail : ∀ (na nc N : Nat) (cx my : Nat → Int32) (R u v : SU) (H : Heap) (locs : List Loc) (ls : Array Slot) (cells slots : Nat), ST D cI cS A s a b b0 i na nc N cx my R u v H locs ls cells slots → W p l e room_1 s m #[Value.ref b0] below meth c H locs cells slots Q (F0 m 1486 ls [])) : W p l e room_1 s m #[Value.ref b0] below meth c H locs cells slots Q (F0 m 1034 ls []) := by
  obtain ⟨hcs, ⟨hTX, hTM, hV, hR⟩, hP, hD, hS, hl⟩ := hst
  have hN := hcs.hN
  have hK := hKK.1
  have hR : (cx 0).toInt = (my 0).toInt ∧ (cx 5).toInt = (my 1).toInt ∧ (cx 4).toInt = ((R 2) 1).toInt ∧ (cx 6).toInt = (my 2).toInt ∧ (cx 3).toInt = (my 3).toInt ∧ (cx 2).toInt = ((R 2) 0).toInt ∧ (cx 7).toInt = ((R 0) 0).toInt ∧ (cx 8).toInt = ((R 0) 1).toInt ∧ (cx 9).toInt = ((R 0) 2).toInt ∧ (cx 10).toInt = ((R 0) 3).toInt ∧ (cx 11).toInt = ((R 1) 0).toInt ∧ (cx 12).toInt = ((R 1) 1).toInt ∧ (cx 13).toInt = ((R 1) 2).toInt ∧ (cx 14).toInt = ((R 1) 3).toInt := hR
  obtain ⟨x1, hx1⟩ : ∃ z, xs (i + 1).toNatClampNeg = z := ⟨_, rfl⟩
  obtain ⟨x2, hx2⟩ : ∃ z, xs (i + 2).toNatClampNeg = z := ⟨_, rfl⟩
  obtain ⟨x3, hx3⟩ : ∃ z, xs (i + 3).toNatClampNeg = z := ⟨_, rfl⟩
  obtain ⟨x4, hx4⟩ : ∃ z, xs (i + 4).toNatClampNeg = z := ⟨_, rfl⟩
  obtain ⟨x5, hx5⟩ : ∃ z, xs (i + 5).toNatClampNeg = z := ⟨_, rfl⟩
  refine lv_aload_n hx hb dL_law_1034 rfl (lv_at hl 2 rfl) ?_
  refine lq_X (S := Int32 × SU) (fna := fun _ => na) (fnc := fun _ => nc) (fN := fun _ => N) (fL := fun q => mkL (cx 0) (cx 1) (cx 2) (cx 3) (cx 4) (cx 5) q.1 (cx 7) (cx 8) (cx 9) (cx 10) (cx 11) (cx 12) (cx 13) (cx 14)) (fu := fun q => q.2) (As := []) (rest := []) ⟨hx, hb, hml, hown, hts⟩ (k_X11_wipe l D cI cS _ a na nc N (cx 0) (cx 1) (cx 2) (cx 3) (cx 4) (cx 5) (cx 6) (cx 7) (cx 8) (cx 9) (cx 10) (cx 11) (cx 12) (cx 13) (cx 14) u hTX hN  ) hKK hP hD hS hA (cwV 0 hts gL_law_X11_wipe rfl rfl rfl (by decide +kernel) ⟨Nat.le_of_ble_eq_true rfl, Nat.le_of_ble_eq_true rfl⟩) rfl hl.1 rfl (Nat.le_of_ble_eq_true rfl) dL_law_1035 (CSL.hf hcs) (fun r53136 q9 H locs hr53136 hP hD hS => ?_)
  obtain ⟨r53137, u⟩ := q9
  have hr53136 : Rg 0 120 r53136 ∧ Rg 0 0 r53137 ∧ (r53136.toInt = (cx 6).toInt ∧ r53137.toInt = 0) := hr53136
  have hTX : TyX (mkL (cx 0) (cx 1) (cx 2) (cx 3) (cx 4) (cx 5) r53137 (cx 7) (cx 8) (cx 9) (cx 10) (cx 11) (cx 12) (cx 13) (cx 14)) := ⟨hTX.1, hTX.2.1, hTX.2.2.1, (rg_w hr53136.2.1 (by decide) (by decide)), hTX.2.2.2.2.1, hTX.2.2.2.2.2.1, hTX.2.2.2.2.2.2.1, hTX.2.2.2.2.2.2.2⟩
  refine lv_pop hx hb dL_law_1038 rfl ?_
  refine lv_aload_n hx hb dL_law_1039 rfl (lv_at hl 1 rfl) ?_
  refine lq_M (S := Int32 × SU) (fL := fun q => mkM (my 0) (my 1) q.1 (my 3) (my 4) (my 5) (my 6) (R 0) (R 1) (R 2)) (fu := fun q => q.2) (As := []) (rest := []) ⟨hx, hb, hml, hown, hts⟩ (w_X12_wipe l D cI cS _ b (my 0) (my 1) (my 2) (my 3) (my 4) (my 5) (my 6) (R 0) (R 1) (R 2) v hTM hV  ) hKK hP hD hS hA (cwV 0 hts gL_law_X12_wipe rfl rfl rfl (by decide +kernel) ⟨Nat.le_of_ble_eq_true rfl, Nat.le_of_ble_eq_true rfl⟩) rfl hl.1 rfl (Nat.le_of_ble_eq_true rfl) dL_law_1040 (CSL.hf hcs) (fun r53138 q9 H locs hr53138 hP hD hS => ?_)
  obtain ⟨r53139, v⟩ := q9
  have hr53138 : TyV v ∧ Rg 0 120 r53138 ∧ Rg 0 0 r53139 ∧ (r53138.toInt = (my 2).toInt ∧ r53139.toInt = 0) := hr53138
  have hV := hr53138.1
  have hTM : TyL (mkM (my 0) (my 1) r53139 (my 3) (my 4) (my 5) (my 6) (R 0) (R 1) (R 2)) := ⟨hTM.1, (rg_w hr53138.2.2.1 (by decide) (by decide)), hTM.2.2.1, hTM.2.2.2.1, hTM.2.2.2.2.1, hTM.2.2.2.2.2⟩
  refine lv_pop hx hb dL_law_1043 rfl ?_
  refine lv_goto (tgt := 1486) hx hb dL_law_1044 (by decide) ?_
  have hR2 : (cx 0).toInt = (my 0).toInt ∧ (cx 5).toInt = (my 1).toInt ∧ (cx 4).toInt = ((R 2) 1).toInt ∧ r53137.toInt = r53139.toInt ∧ (cx 3).toInt = (my 3).toInt ∧ (cx 2).toInt = ((R 2) 0).toInt ∧ (cx 7).toInt = ((R 0) 0).toInt ∧ (cx 8).toInt = ((R 0) 1).toInt ∧ (cx 9).toInt = ((R 0) 2).toInt ∧ (cx 10).toInt = ((R 0) 3).toInt ∧ (cx 11).toInt = ((R 1) 0).toInt ∧ (cx 12).toInt = ((R 1) 1).toInt ∧ (cx 13).toInt = ((R 1) 2).toInt ∧ (cx 14).toInt = ((R 1) 3).toInt := by have zr := hR; have zz0 := hr53136.2.2; have zz1 := hr53138.2.2.2; refine ⟨by omega, by omega, by omega, by omega, by omega, by omega, by omega, by omega, by omega, by omega, by omega, by omega, by omega, by omega⟩
  exact tail na nc N  (upd cx 6 r53137) (upd my 2 r53139) R u v _ _ _ _ _ ⟨hcs, ⟨hTX, hTM, hV, hR2⟩, hP, hD, hS, hl⟩
set_option maxHeartbeats 4000000 in
set_option maxRecDepth 100000 in
theorem lc_31 {p : Program} {l : Launch} {e : Env} {s : State} {m : MethodId} {below : List Frame} {meth : Method} {c : Code} {b0 L0 : Nat} {xs : Nat → Int32} {D : va_G} {cI cS : ClassId} {A : Nat → Prop} {H : Heap} {locs : List Loc} {ls : Array Slot} {Q : State → Prop} {a b : Nat → Nat} {na nc N cells slots : Nat} {cx my : Nat → Int32} {R u v : SU} {i : Int32} (hx : p.tables.exec = Jvm.exec) (hb : c.code = cL_law) (hml : c.maxLocals = 4) (hown : s.vm.findClass RL = some m.cls) (hts : ∀ w ∈ wsL_law, w.before #[Value.ref b0] s = true) (hKK : KK D cI cS s) (hAB0 : AB s s.heap) (hA0 : ∀ q : Nat, q < s.heap.size → ¬ A q) (hX : va_X b0 L0 xs s s.heap) (hbl : b0 < s.heap.size) (hbA : ¬ A b0) (hA : ∀ q : Nat, s.heap.size ≤ q → A q) (hL0 : L0 ≤ 3072) (hi0 : 0 ≤ i.toInt) (hi1 : i.toInt + 6 ≤ (L0 : Int)) (hst : ST D cI cS A s a b b0 i na nc N cx my R u v H locs ls cells slots) (tail : ∀ (na nc N : Nat) (cx my : Nat → Int32) (R u v : SU) (H : Heap) (locs : List Loc) (ls : Array Slot) (cells slots : Nat), ST D cI cS A s a b b0 i na nc N cx my R u v H locs ls cells slots → W p l e room_1 s m #[Value.ref b0] below meth c H locs cells slots Q (F0 m 1486 ls [])) : W p l e room_1 s m #[Value.ref b0] below meth c H locs cells slots Q (F0 m 1047 ls []) := by
  obtain ⟨hcs, ⟨hTX, hTM, hV, hR⟩, hP, hD, hS, hl⟩ := hst
  have hN := hcs.hN
  have hK := hKK.1
  have hR : (cx 0).toInt = (my 0).toInt ∧ (cx 5).toInt = (my 1).toInt ∧ (cx 4).toInt = ((R 2) 1).toInt ∧ (cx 6).toInt = (my 2).toInt ∧ (cx 3).toInt = (my 3).toInt ∧ (cx 2).toInt = ((R 2) 0).toInt ∧ (cx 7).toInt = ((R 0) 0).toInt ∧ (cx 8).toInt = ((R 0) 1).toInt ∧ (cx 9).toInt = ((R 0) 2).toInt ∧ (cx 10).toInt = ((R 0) 3).toInt ∧ (cx 11).toInt = ((R 1) 0).toInt ∧ (cx 12).toInt = ((R 1) 1).toInt ∧ (cx 13).toInt = ((R 1) 2).toInt ∧ (cx 14).toInt = ((R 1) 3).toInt := hR
  obtain ⟨x1, hx1⟩ : ∃ z, xs (i + 1).toNatClampNeg = z := ⟨_, rfl⟩
  obtain ⟨x2, hx2⟩ : ∃ z, xs (i + 2).toNatClampNeg = z := ⟨_, rfl⟩
  obtain ⟨x3, hx3⟩ : ∃ z, xs (i + 3).toNatClampNeg = z := ⟨_, rfl⟩
  obtain ⟨x4, hx4⟩ : ∃ z, xs (i + 4).toNatClampNeg = z := ⟨_, rfl⟩
  obtain ⟨x5, hx5⟩ : ∃ z, xs (i + 5).toNatClampNeg = z := ⟨_, rfl⟩
  refine lv_aload_n hx hb dL_law_1047 rfl (lv_at hl 2 rfl) ?_
  refine lq_X (S := Int32 × SU) (fna := fun _ => na) (fnc := fun _ => nc) (fN := fun _ => N) (fL := fun q => mkL (cx 0) (cx 1) (cx 2) (cx 3) (cx 4) (cx 5) q.1 (cx 7) (cx 8) (cx 9) (cx 10) (cx 11) (cx 12) (cx 13) (cx 14)) (fu := fun q => q.2) (As := []) (rest := []) ⟨hx, hb, hml, hown, hts⟩ (k_X11_text l D cI cS _ a na nc N (cx 0) (cx 1) (cx 2) (cx 3) (cx 4) (cx 5) (cx 6) (cx 7) (cx 8) (cx 9) (cx 10) (cx 11) (cx 12) (cx 13) (cx 14) u hTX hN  ) hKK hP hD hS hA (cwV 0 hts gL_law_X11_text rfl rfl rfl (by decide +kernel) ⟨Nat.le_of_ble_eq_true rfl, Nat.le_of_ble_eq_true rfl⟩) rfl hl.1 rfl (Nat.le_of_ble_eq_true rfl) dL_law_1048 (CSL.hf hcs) (fun r53140 q9 H locs hr53140 hP hD hS => ?_)
  obtain ⟨r53141, u⟩ := q9
  have hr53140 : Rg (-2147483648) 2147483647 r53140 ∧ Rg 0 0 r53141 ∧ (r53141.toInt = 0) := hr53140
  have hTX : TyX (mkL (cx 0) (cx 1) (cx 2) (cx 3) (cx 4) (cx 5) r53141 (cx 7) (cx 8) (cx 9) (cx 10) (cx 11) (cx 12) (cx 13) (cx 14)) := ⟨hTX.1, hTX.2.1, hTX.2.2.1, (rg_w hr53140.2.1 (by decide) (by decide)), hTX.2.2.2.2.1, hTX.2.2.2.2.2.1, hTX.2.2.2.2.2.2.1, hTX.2.2.2.2.2.2.2⟩
  refine lv_pop hx hb dL_law_1051 rfl ?_
  refine lv_aload_n hx hb dL_law_1052 rfl (lv_at hl 1 rfl) ?_
  refine lq_M (S := Int32 × Int32 × Int32 × Int32 × Int32 × Int32 × (Nat → Int32) × SU) (fL := fun q => mkM q.1 q.2.1 q.2.2.1 (my 3) q.2.2.2.1 q.2.2.2.2.1 q.2.2.2.2.2.1 (R 0) (R 1) q.2.2.2.2.2.2.1) (fu := fun q => q.2.2.2.2.2.2.2) (As := []) (rest := []) ⟨hx, hb, hml, hown, hts⟩ (w_X12_text l D cI cS _ b (my 0) (my 1) (my 2) (my 3) (my 4) (my 5) (my 6) (R 0) (R 1) (R 2) v hTM hV  ) hKK hP hD hS hA (cwV 0 hts gL_law_X12_text rfl rfl rfl (by decide +kernel) ⟨Nat.le_of_ble_eq_true rfl, Nat.le_of_ble_eq_true rfl⟩) rfl hl.1 rfl (Nat.le_of_ble_eq_true rfl) dL_law_1053 (CSL.hf hcs) (fun r53142 q9 H locs hr53142 hP hD hS => ?_)
  obtain ⟨r53143, r53144, r53145, r53146, r53147, r53148, f53149, v⟩ := q9
  have hr53142 : TyV v ∧ Rg (-2147483648) 2147483647 r53142 ∧ Rg 0 12 r53143 ∧ Rg 0 0 r53145 ∧ Rg 0 120 r53146 ∧ Kp f53149 ∧ (r53143.toInt = (my 0).toInt ∧ r53144.toInt = (my 1).toInt ∧ (f53149 0).toInt = ((R 2) 0).toInt ∧ (f53149 1).toInt = ((R 2) 1).toInt ∧ r53145.toInt = 0) := hr53142
  have hV := hr53142.1
  have hTM : TyL (mkM r53143 r53144 r53145 (my 3) r53146 r53147 r53148 (R 0) (R 1) f53149) := ⟨(rg_w hr53142.2.2.1 (by decide) (by decide)), (rg_w hr53142.2.2.2.1 (by decide) (by decide)), hTM.2.2.1, hTM.2.2.2.1, hr53142.2.2.2.2.2.1, (rg_w hr53142.2.2.2.2.1 (by decide) (by decide))⟩
  refine lv_pop hx hb dL_law_1056 rfl ?_
  refine lv_goto (tgt := 1486) hx hb dL_law_1057 (by decide) ?_
  have hR2 : (cx 0).toInt = r53143.toInt ∧ (cx 5).toInt = r53144.toInt ∧ (cx 4).toInt = (f53149 1).toInt ∧ r53141.toInt = r53145.toInt ∧ (cx 3).toInt = (my 3).toInt ∧ (cx 2).toInt = (f53149 0).toInt ∧ (cx 7).toInt = ((R 0) 0).toInt ∧ (cx 8).toInt = ((R 0) 1).toInt ∧ (cx 9).toInt = ((R 0) 2).toInt ∧ (cx 10).toInt = ((R 0) 3).toInt ∧ (cx 11).toInt = ((R 1) 0).toInt ∧ (cx 12).toInt = ((R 1) 1).toInt ∧ (cx 13).toInt = ((R 1) 2).toInt ∧ (cx 14).toInt = ((R 1) 3).toInt := by have zr := hR; have zz0 := hr53140.2.2; have zz1 := hr53142.2.2.2.2.2.2; refine ⟨by omega, by omega, by omega, by omega, by omega, by omega, by omega, by omega, by omega, by omega, by omega, by omega, by omega, by omega⟩
  exact tail na nc N  (upd cx 6 r53141) (upd (upd (upd (upd (upd (upd my 0 r53143) 1 r53144) 2 r53145) 4 r53146) 5 r53147) 6 r53148) (sU R 2 f53149) u v _ _ _ _ _ ⟨hcs, ⟨hTX, hTM, hV, hR2⟩, hP, hD, hS, hl⟩
set_option maxHeartbeats 4000000 in
set_option maxRecDepth 100000 in
theorem lc_32 {p : Program} {l : Launch} {e : Env} {s : State} {m : MethodId} {below : List Frame} {meth : Method} {c : Code} {b0 L0 : Nat} {xs : Nat → Int32} {D : va_G} {cI cS : ClassId} {A : Nat → Prop} {H : Heap} {locs : List Loc} {ls : Array Slot} {Q : State → Prop} {a b : Nat → Nat} {na nc N cells slots : Nat} {cx my : Nat → Int32} {R u v : SU} {i : Int32} (hx : p.tables.exec = Jvm.exec) (hb : c.code = cL_law) (hml : c.maxLocals = 4) (hown : s.vm.findClass RL = some m.cls) (hts : ∀ w ∈ wsL_law, w.before #[Value.ref b0] s = true) (hKK : KK D cI cS s) (hAB0 : AB s s.heap) (hA0 : ∀ q : Nat, q < s.heap.size → ¬ A q) (hX : va_X b0 L0 xs s s.heap) (hbl : b0 < s.heap.size) (hbA : ¬ A b0) (hA : ∀ q : Nat, s.heap.size ≤ q → A q) (hL0 : L0 ≤ 3072) (hi0 : 0 ≤ i.toInt) (hi1 : i.toInt + 6 ≤ (L0 : Int)) (hst : ST D cI cS A s a b b0 i na nc N cx my R u v H locs ls cells slots) (tail : ∀ (na nc N : Nat) (cx my : Nat → Int32) (R u v : SU) (H : Heap) (locs : List Loc) (ls : Array Slot) (cells slots : Nat), ST D cI cS A s a b b0 i na nc N cx my R u v H locs ls cells slots → W p l e room_1 s m #[Value.ref b0] below meth c H locs cells slots Q (F0 m 1486 ls [])) : W p l e room_1 s m #[Value.ref b0] below meth c H locs cells slots Q (F0 m 1060 ls []) := by
  obtain ⟨hcs, ⟨hTX, hTM, hV, hR⟩, hP, hD, hS, hl⟩ := hst
  have hN := hcs.hN
  have hK := hKK.1
  have hR : (cx 0).toInt = (my 0).toInt ∧ (cx 5).toInt = (my 1).toInt ∧ (cx 4).toInt = ((R 2) 1).toInt ∧ (cx 6).toInt = (my 2).toInt ∧ (cx 3).toInt = (my 3).toInt ∧ (cx 2).toInt = ((R 2) 0).toInt ∧ (cx 7).toInt = ((R 0) 0).toInt ∧ (cx 8).toInt = ((R 0) 1).toInt ∧ (cx 9).toInt = ((R 0) 2).toInt ∧ (cx 10).toInt = ((R 0) 3).toInt ∧ (cx 11).toInt = ((R 1) 0).toInt ∧ (cx 12).toInt = ((R 1) 1).toInt ∧ (cx 13).toInt = ((R 1) 2).toInt ∧ (cx 14).toInt = ((R 1) 3).toInt := hR
  obtain ⟨x1, hx1⟩ : ∃ z, xs (i + 1).toNatClampNeg = z := ⟨_, rfl⟩
  obtain ⟨x2, hx2⟩ : ∃ z, xs (i + 2).toNatClampNeg = z := ⟨_, rfl⟩
  obtain ⟨x3, hx3⟩ : ∃ z, xs (i + 3).toNatClampNeg = z := ⟨_, rfl⟩
  obtain ⟨x4, hx4⟩ : ∃ z, xs (i + 4).toNatClampNeg = z := ⟨_, rfl⟩
  obtain ⟨x5, hx5⟩ : ∃ z, xs (i + 5).toNatClampNeg = z := ⟨_, rfl⟩
  refine lv_aload_n hx hb dL_law_1060 rfl (lv_at hl 2 rfl) ?_
  refine lv_aload_n hx hb dL_law_1061 rfl (lv_at hl 3 rfl) ?_
  refine lv_iload_n hx hb dL_law_1062 rfl (lv_at hl 0 rfl) ?_
  refine lv_iconst (v := 1) hx hb dL_law_1063 (by decide) ?_
  refine lv_iadd hx hb dL_law_1064 ?_
  refine va_sld hx hb hX hbl hbA hS (lw_vin hi0 hi1 hL0 (by decide)) dL_law_1065 ?_
  refine lz_top (y := x1) hx1 ?_
  refine lq_X (S := Int32 × SU) (fna := fun _ => na) (fnc := fun _ => nc) (fN := fun _ => N) (fL := fun q => mkL (cx 0) (cx 1) (cx 2) (cx 3) (cx 4) q.1 (cx 6) (cx 7) (cx 8) (cx 9) (cx 10) (cx 11) (cx 12) (cx 13) (cx 14)) (fu := fun q => q.2) (As := [.int x1]) (rest := []) ⟨hx, hb, hml, hown, hts⟩ (k_X11_seed l D cI cS _ a na nc N (cx 0) (cx 1) (cx 2) (cx 3) (cx 4) (cx 5) (cx 6) (cx 7) (cx 8) (cx 9) (cx 10) (cx 11) (cx 12) (cx 13) (cx 14) u hTX hN x1 ) hKK hP hD hS hA (cwV 1 hts gL_law_X11_seed rfl rfl rfl (by decide +kernel) ⟨Nat.le_of_ble_eq_true rfl, Nat.le_of_ble_eq_true rfl⟩) rfl hl.1 rfl (Nat.le_of_ble_eq_true rfl) dL_law_1066 (CSL.hf hcs) (fun r53150 q9 H locs hr53150 hP hD hS => ?_)
  obtain ⟨r53151, u⟩ := q9
  have hr53150 : Rg (-2147483648) 2147483647 r53150 ∧ (r53150.toInt = (cx 5).toInt ∧ r53151.toInt = x1.toInt) := hr53150
  have hTX : TyX (mkL (cx 0) (cx 1) (cx 2) (cx 3) (cx 4) r53151 (cx 6) (cx 7) (cx 8) (cx 9) (cx 10) (cx 11) (cx 12) (cx 13) (cx 14)) := ⟨hTX.1, hTX.2.1, hTX.2.2.1, hTX.2.2.2.1, hTX.2.2.2.2.1, hTX.2.2.2.2.2.1, hTX.2.2.2.2.2.2.1, hTX.2.2.2.2.2.2.2⟩
  refine lv_pop hx hb dL_law_1069 rfl ?_
  refine lv_aload_n hx hb dL_law_1070 rfl (lv_at hl 1 rfl) ?_
  refine lv_aload_n hx hb dL_law_1071 rfl (lv_at hl 3 rfl) ?_
  refine lv_iload_n hx hb dL_law_1072 rfl (lv_at hl 0 rfl) ?_
  refine lv_iconst (v := 1) hx hb dL_law_1073 (by decide) ?_
  refine lv_iadd hx hb dL_law_1074 ?_
  refine va_sld hx hb hX hbl hbA hS (lw_vin hi0 hi1 hL0 (by decide)) dL_law_1075 ?_
  refine lz_top (y := x1) hx1 ?_
  refine lq_M (S := Int32 × SU) (fL := fun q => mkM (my 0) q.1 (my 2) (my 3) (my 4) (my 5) (my 6) (R 0) (R 1) (R 2)) (fu := fun q => q.2) (As := [.int x1]) (rest := []) ⟨hx, hb, hml, hown, hts⟩ (w_X12_seed l D cI cS _ b (my 0) (my 1) (my 2) (my 3) (my 4) (my 5) (my 6) (R 0) (R 1) (R 2) v hTM hV x1 ) hKK hP hD hS hA (cwV 1 hts gL_law_X12_seed rfl rfl rfl (by decide +kernel) ⟨Nat.le_of_ble_eq_true rfl, Nat.le_of_ble_eq_true rfl⟩) rfl hl.1 rfl (Nat.le_of_ble_eq_true rfl) dL_law_1076 (CSL.hf hcs) (fun r53152 q9 H locs hr53152 hP hD hS => ?_)
  obtain ⟨r53153, v⟩ := q9
  have hr53152 : TyV v ∧ Rg (-2147483648) 2147483647 r53152 ∧ (r53152.toInt = (my 1).toInt ∧ r53153.toInt = x1.toInt) := hr53152
  have hV := hr53152.1
  have hTM : TyL (mkM (my 0) r53153 (my 2) (my 3) (my 4) (my 5) (my 6) (R 0) (R 1) (R 2)) := ⟨hTM.1, hTM.2.1, hTM.2.2.1, hTM.2.2.2.1, hTM.2.2.2.2.1, hTM.2.2.2.2.2⟩
  refine lv_pop hx hb dL_law_1079 rfl ?_
  refine lv_goto (tgt := 1486) hx hb dL_law_1080 (by decide) ?_
  have hR2 : (cx 0).toInt = (my 0).toInt ∧ r53151.toInt = r53153.toInt ∧ (cx 4).toInt = ((R 2) 1).toInt ∧ (cx 6).toInt = (my 2).toInt ∧ (cx 3).toInt = (my 3).toInt ∧ (cx 2).toInt = ((R 2) 0).toInt ∧ (cx 7).toInt = ((R 0) 0).toInt ∧ (cx 8).toInt = ((R 0) 1).toInt ∧ (cx 9).toInt = ((R 0) 2).toInt ∧ (cx 10).toInt = ((R 0) 3).toInt ∧ (cx 11).toInt = ((R 1) 0).toInt ∧ (cx 12).toInt = ((R 1) 1).toInt ∧ (cx 13).toInt = ((R 1) 2).toInt ∧ (cx 14).toInt = ((R 1) 3).toInt := by have zr := hR; have zz0 := hr53150.2; have zz1 := hr53152.2.2; refine ⟨by omega, by omega, by omega, by omega, by omega, by omega, by omega, by omega, by omega, by omega, by omega, by omega, by omega, by omega⟩
  exact tail na nc N  (upd cx 5 r53151) (upd my 1 r53153) R u v _ _ _ _ _ ⟨hcs, ⟨hTX, hTM, hV, hR2⟩, hP, hD, hS, hl⟩
set_option maxHeartbeats 4000000 in
set_option maxRecDepth 100000 in
theorem lc_33 {p : Program} {l : Launch} {e : Env} {s : State} {m : MethodId} {below : List Frame} {meth : Method} {c : Code} {b0 L0 : Nat} {xs : Nat → Int32} {D : va_G} {cI cS : ClassId} {A : Nat → Prop} {H : Heap} {locs : List Loc} {ls : Array Slot} {Q : State → Prop} {a b : Nat → Nat} {na nc N cells slots : Nat} {cx my : Nat → Int32} {R u v : SU} {i : Int32} (hx : p.tables.exec = Jvm.exec) (hb : c.code = cL_law) (hml : c.maxLocals = 4) (hown : s.vm.findClass RL = some m.cls) (hts : ∀ w ∈ wsL_law, w.before #[Value.ref b0] s = true) (hKK : KK D cI cS s) (hAB0 : AB s s.heap) (hA0 : ∀ q : Nat, q < s.heap.size → ¬ A q) (hX : va_X b0 L0 xs s s.heap) (hbl : b0 < s.heap.size) (hbA : ¬ A b0) (hA : ∀ q : Nat, s.heap.size ≤ q → A q) (hL0 : L0 ≤ 3072) (hi0 : 0 ≤ i.toInt) (hi1 : i.toInt + 6 ≤ (L0 : Int)) (hst : ST D cI cS A s a b b0 i na nc N cx my R u v H locs ls cells slots) (tail : ∀ (na nc N : Nat) (cx my : Nat → Int32) (R u v : SU) (H : Heap) (locs : List Loc) (ls : Array Slot) (cells slots : Nat), ST D cI cS A s a b b0 i na nc N cx my R u v H locs ls cells slots → W p l e room_1 s m #[Value.ref b0] below meth c H locs cells slots Q (F0 m 1486 ls [])) : W p l e room_1 s m #[Value.ref b0] below meth c H locs cells slots Q (F0 m 1083 ls []) := by
  obtain ⟨hcs, ⟨hTX, hTM, hV, hR⟩, hP, hD, hS, hl⟩ := hst
  have hN := hcs.hN
  have hK := hKK.1
  have hR : (cx 0).toInt = (my 0).toInt ∧ (cx 5).toInt = (my 1).toInt ∧ (cx 4).toInt = ((R 2) 1).toInt ∧ (cx 6).toInt = (my 2).toInt ∧ (cx 3).toInt = (my 3).toInt ∧ (cx 2).toInt = ((R 2) 0).toInt ∧ (cx 7).toInt = ((R 0) 0).toInt ∧ (cx 8).toInt = ((R 0) 1).toInt ∧ (cx 9).toInt = ((R 0) 2).toInt ∧ (cx 10).toInt = ((R 0) 3).toInt ∧ (cx 11).toInt = ((R 1) 0).toInt ∧ (cx 12).toInt = ((R 1) 1).toInt ∧ (cx 13).toInt = ((R 1) 2).toInt ∧ (cx 14).toInt = ((R 1) 3).toInt := hR
  obtain ⟨x1, hx1⟩ : ∃ z, xs (i + 1).toNatClampNeg = z := ⟨_, rfl⟩
  obtain ⟨x2, hx2⟩ : ∃ z, xs (i + 2).toNatClampNeg = z := ⟨_, rfl⟩
  obtain ⟨x3, hx3⟩ : ∃ z, xs (i + 3).toNatClampNeg = z := ⟨_, rfl⟩
  obtain ⟨x4, hx4⟩ : ∃ z, xs (i + 4).toNatClampNeg = z := ⟨_, rfl⟩
  obtain ⟨x5, hx5⟩ : ∃ z, xs (i + 5).toNatClampNeg = z := ⟨_, rfl⟩
  refine lv_aload_n hx hb dL_law_1083 rfl (lv_at hl 2 rfl) ?_
  refine lv_aload_n hx hb dL_law_1084 rfl (lv_at hl 3 rfl) ?_
  refine lv_iload_n hx hb dL_law_1085 rfl (lv_at hl 0 rfl) ?_
  refine lv_iconst (v := 1) hx hb dL_law_1086 (by decide) ?_
  refine lv_iadd hx hb dL_law_1087 ?_
  refine va_sld hx hb hX hbl hbA hS (lw_vin hi0 hi1 hL0 (by decide)) dL_law_1088 ?_
  refine lz_top (y := x1) hx1 ?_
  refine lv_aload_n hx hb dL_law_1089 rfl (lv_at hl 3 rfl) ?_
  refine lv_iload_n hx hb dL_law_1090 rfl (lv_at hl 0 rfl) ?_
  refine lv_iconst (v := 2) hx hb dL_law_1091 (by decide) ?_
  refine lv_iadd hx hb dL_law_1092 ?_
  refine va_sld hx hb hX hbl hbA hS (lw_vin hi0 hi1 hL0 (by decide)) dL_law_1093 ?_
  refine lz_top (y := x2) hx2 ?_
  refine lq_X (S := Int32 × Int32 × SU) (fna := fun _ => na) (fnc := fun _ => nc) (fN := fun _ => N) (fL := fun q => mkL q.1 (cx 1) (cx 2) (cx 3) (cx 4) q.2.1 (cx 6) (cx 7) (cx 8) (cx 9) (cx 10) (cx 11) (cx 12) (cx 13) (cx 14)) (fu := fun q => q.2.2) (As := [.int x1, .int x2]) (rest := []) ⟨hx, hb, hml, hown, hts⟩ (k_X11_deal_D l D cI cS _ a na nc N (cx 0) (cx 1) (cx 2) (cx 3) (cx 4) (cx 5) (cx 6) (cx 7) (cx 8) (cx 9) (cx 10) (cx 11) (cx 12) (cx 13) (cx 14) u hTX hN x1 x2 ) hKK hP hD hS hA (cwV 2 hts gL_law_X11_deal rfl rfl rfl (by decide +kernel) ⟨Nat.le_of_ble_eq_true rfl, Nat.le_of_ble_eq_true rfl⟩) rfl hl.1 rfl (Nat.le_of_ble_eq_true rfl) dL_law_1094 (CSL.hf hcs) (fun r53154 q9 H locs hr53154 hP hD hS => ?_)
  obtain ⟨r53155, r53156, u⟩ := q9
  have hr53154 : Rg (-2147483648) 2147483647 r53154 ∧ Rg 0 12 r53155 ∧ (r53154 = dealF x1 x2 (cx 5)) ∧ ((x1.toInt < 0 ∨ 12 < x1.toInt ∨ x2.toInt < 0 ∨ 10 < x2.toInt → r53154.toInt = -2 ∧ r53155.toInt = (cx 0).toInt) ∧ (0 ≤ x1.toInt → x1.toInt ≤ 12 → 0 ≤ x2.toInt → x2.toInt ≤ 10 → r53155.toInt = x1.toInt)) ∧ ((x1.toInt < 0 ∨ 12 < x1.toInt ∨ x2.toInt < 0 ∨ 10 < x2.toInt → r53156.toInt = (cx 5).toInt) ∧ (0 ≤ x1.toInt → x1.toInt ≤ 12 → 0 ≤ x2.toInt → x2.toInt ≤ 10 → r53156.toInt = (pout x2 x1.toNatClampNeg (cx 5) x1.toNatClampNeg).2.toInt)) := hr53154
  have hTX : TyX (mkL r53155 (cx 1) (cx 2) (cx 3) (cx 4) r53156 (cx 6) (cx 7) (cx 8) (cx 9) (cx 10) (cx 11) (cx 12) (cx 13) (cx 14)) := ⟨(rg_w hr53154.2.1 (by decide) (by decide)), hTX.2.1, hTX.2.2.1, hTX.2.2.2.1, hTX.2.2.2.2.1, hTX.2.2.2.2.2.1, hTX.2.2.2.2.2.2.1, hTX.2.2.2.2.2.2.2⟩
  refine lv_aload_n hx hb dL_law_1097 rfl (lv_at hl 1 rfl) ?_
  refine lv_aload_n hx hb dL_law_1098 rfl (lv_at hl 3 rfl) ?_
  refine lv_iload_n hx hb dL_law_1099 rfl (lv_at hl 0 rfl) ?_
  refine lv_iconst (v := 1) hx hb dL_law_1100 (by decide) ?_
  refine lv_iadd hx hb dL_law_1101 ?_
  refine va_sld hx hb hX hbl hbA hS (lw_vin hi0 hi1 hL0 (by decide)) dL_law_1102 ?_
  refine lz_top (y := x1) hx1 ?_
  refine lv_aload_n hx hb dL_law_1103 rfl (lv_at hl 3 rfl) ?_
  refine lv_iload_n hx hb dL_law_1104 rfl (lv_at hl 0 rfl) ?_
  refine lv_iconst (v := 2) hx hb dL_law_1105 (by decide) ?_
  refine lv_iadd hx hb dL_law_1106 ?_
  refine va_sld hx hb hX hbl hbA hS (lw_vin hi0 hi1 hL0 (by decide)) dL_law_1107 ?_
  refine lz_top (y := x2) hx2 ?_
  refine lq_M (S := Int32 × Int32 × SU) (fL := fun q => mkM q.1 q.2.1 (my 2) (my 3) (my 4) (my 5) (my 6) (R 0) (R 1) (R 2)) (fu := fun q => q.2.2) (As := [.int x1, .int x2]) (rest := [.int r53154]) ⟨hx, hb, hml, hown, hts⟩ (w_X12_deal_D l D cI cS _ b (my 0) (my 1) (my 2) (my 3) (my 4) (my 5) (my 6) (R 0) (R 1) (R 2) v hTM hV x1 x2 ) hKK hP hD hS hA (cwV 2 hts gL_law_X12_deal rfl rfl rfl (by decide +kernel) ⟨Nat.le_of_ble_eq_true rfl, Nat.le_of_ble_eq_true rfl⟩) rfl hl.1 rfl (Nat.le_of_ble_eq_true rfl) dL_law_1108 (CSL.hf hcs) (fun r53157 q9 H locs hr53157 hP hD hS => ?_)
  obtain ⟨r53158, r53159, v⟩ := q9
  have hr53157 : TyV v ∧ Rg (-2147483648) 2147483647 r53157 ∧ Rg 0 12 r53158 ∧ (r53157 = dealF x1 x2 (my 1)) ∧ ((x1.toInt < 0 ∨ 12 < x1.toInt ∨ x2.toInt < 0 ∨ 10 < x2.toInt → r53157.toInt = -2 ∧ r53158.toInt = (my 0).toInt) ∧ (0 ≤ x1.toInt → x1.toInt ≤ 12 → 0 ≤ x2.toInt → x2.toInt ≤ 10 → r53158.toInt = x1.toInt)) ∧ ((x1.toInt < 0 ∨ 12 < x1.toInt ∨ x2.toInt < 0 ∨ 10 < x2.toInt → r53159.toInt = (my 1).toInt) ∧ (0 ≤ x1.toInt → x1.toInt ≤ 12 → 0 ≤ x2.toInt → x2.toInt ≤ 10 → r53159.toInt = (pout x2 x1.toNatClampNeg (my 1) x1.toNatClampNeg).2.toInt)) := hr53157
  have hV := hr53157.1
  have hTM : TyL (mkM r53158 r53159 (my 2) (my 3) (my 4) (my 5) (my 6) (R 0) (R 1) (R 2)) := ⟨(rg_w hr53157.2.2.1 (by decide) (by decide)), hTM.2.1, hTM.2.2.1, hTM.2.2.2.1, hTM.2.2.2.2.1, hTM.2.2.2.2.2⟩
  refine lv_icmp_eq (tgt := 1486) hx hb dL_law_1111 (by decide) (fun c9 => ?_) (fun c9 => ?_)
  · have ez : cx 5 = my 1 := Int32.toInt_inj.mp (by have zr := hR; omega)
    have eo : (pout x2 x1.toNatClampNeg (cx 5) x1.toNatClampNeg).2.toInt = (pout x2 x1.toNatClampNeg (my 1) x1.toNatClampNeg).2.toInt := by rw [ez]
    have hR2 : r53155.toInt = r53158.toInt ∧ r53156.toInt = r53159.toInt ∧ (cx 4).toInt = ((R 2) 1).toInt ∧ (cx 6).toInt = (my 2).toInt ∧ (cx 3).toInt = (my 3).toInt ∧ (cx 2).toInt = ((R 2) 0).toInt ∧ (cx 7).toInt = ((R 0) 0).toInt ∧ (cx 8).toInt = ((R 0) 1).toInt ∧ (cx 9).toInt = ((R 0) 2).toInt ∧ (cx 10).toInt = ((R 0) 3).toInt ∧ (cx 11).toInt = ((R 1) 0).toInt ∧ (cx 12).toInt = ((R 1) 1).toInt ∧ (cx 13).toInt = ((R 1) 2).toInt ∧ (cx 14).toInt = ((R 1) 3).toInt := by have zr := hR; have zz0 := hr53154.2.2.1; have zz1 := hr53154.2.2.2.1; have zz2 := hr53154.2.2.2.2; have zz3 := hr53157.2.2.2.1; have zz4 := hr53157.2.2.2.2.1; have zz5 := hr53157.2.2.2.2.2; refine ⟨by omega, by omega, by omega, by omega, by omega, by omega, by omega, by omega, by omega, by omega, by omega, by omega, by omega, by omega⟩
    exact tail na nc N  (upd (upd cx 0 r53155) 5 r53156) (upd (upd my 0 r53158) 1 r53159) R u v _ _ _ _ _ ⟨hcs, ⟨hTX, hTM, hV, hR2⟩, hP, hD, hS, hl⟩
  · have ez : cx 5 = my 1 := Int32.toInt_inj.mp (by have zr := hR; omega)
    exact absurd (hr53154.2.2.1.trans (by rw [ez]; exact hr53157.2.2.2.1.symm)) c9
set_option maxHeartbeats 4000000 in
set_option maxRecDepth 100000 in
theorem lc_34 {p : Program} {l : Launch} {e : Env} {s : State} {m : MethodId} {below : List Frame} {meth : Method} {c : Code} {b0 L0 : Nat} {xs : Nat → Int32} {D : va_G} {cI cS : ClassId} {A : Nat → Prop} {H : Heap} {locs : List Loc} {ls : Array Slot} {Q : State → Prop} {a b : Nat → Nat} {na nc N cells slots : Nat} {cx my : Nat → Int32} {R u v : SU} {i : Int32} (hx : p.tables.exec = Jvm.exec) (hb : c.code = cL_law) (hml : c.maxLocals = 4) (hown : s.vm.findClass RL = some m.cls) (hts : ∀ w ∈ wsL_law, w.before #[Value.ref b0] s = true) (hKK : KK D cI cS s) (hAB0 : AB s s.heap) (hA0 : ∀ q : Nat, q < s.heap.size → ¬ A q) (hX : va_X b0 L0 xs s s.heap) (hbl : b0 < s.heap.size) (hbA : ¬ A b0) (hA : ∀ q : Nat, s.heap.size ≤ q → A q) (hL0 : L0 ≤ 3072) (hi0 : 0 ≤ i.toInt) (hi1 : i.toInt + 6 ≤ (L0 : Int)) (hst : ST D cI cS A s a b b0 i na nc N cx my R u v H locs ls cells slots) (tail : ∀ (na nc N : Nat) (cx my : Nat → Int32) (R u v : SU) (H : Heap) (locs : List Loc) (ls : Array Slot) (cells slots : Nat), ST D cI cS A s a b b0 i na nc N cx my R u v H locs ls cells slots → W p l e room_1 s m #[Value.ref b0] below meth c H locs cells slots Q (F0 m 1486 ls [])) : W p l e room_1 s m #[Value.ref b0] below meth c H locs cells slots Q (F0 m 1116 ls []) := by
  obtain ⟨hcs, ⟨hTX, hTM, hV, hR⟩, hP, hD, hS, hl⟩ := hst
  have hN := hcs.hN
  have hK := hKK.1
  have hR : (cx 0).toInt = (my 0).toInt ∧ (cx 5).toInt = (my 1).toInt ∧ (cx 4).toInt = ((R 2) 1).toInt ∧ (cx 6).toInt = (my 2).toInt ∧ (cx 3).toInt = (my 3).toInt ∧ (cx 2).toInt = ((R 2) 0).toInt ∧ (cx 7).toInt = ((R 0) 0).toInt ∧ (cx 8).toInt = ((R 0) 1).toInt ∧ (cx 9).toInt = ((R 0) 2).toInt ∧ (cx 10).toInt = ((R 0) 3).toInt ∧ (cx 11).toInt = ((R 1) 0).toInt ∧ (cx 12).toInt = ((R 1) 1).toInt ∧ (cx 13).toInt = ((R 1) 2).toInt ∧ (cx 14).toInt = ((R 1) 3).toInt := hR
  obtain ⟨x1, hx1⟩ : ∃ z, xs (i + 1).toNatClampNeg = z := ⟨_, rfl⟩
  obtain ⟨x2, hx2⟩ : ∃ z, xs (i + 2).toNatClampNeg = z := ⟨_, rfl⟩
  obtain ⟨x3, hx3⟩ : ∃ z, xs (i + 3).toNatClampNeg = z := ⟨_, rfl⟩
  obtain ⟨x4, hx4⟩ : ∃ z, xs (i + 4).toNatClampNeg = z := ⟨_, rfl⟩
  obtain ⟨x5, hx5⟩ : ∃ z, xs (i + 5).toNatClampNeg = z := ⟨_, rfl⟩
  refine lv_aload_n hx hb dL_law_1116 rfl (lv_at hl 2 rfl) ?_
  refine lv_aload_n hx hb dL_law_1117 rfl (lv_at hl 3 rfl) ?_
  refine lv_iload_n hx hb dL_law_1118 rfl (lv_at hl 0 rfl) ?_
  refine lv_iconst (v := 1) hx hb dL_law_1119 (by decide) ?_
  refine lv_iadd hx hb dL_law_1120 ?_
  refine va_sld hx hb hX hbl hbA hS (lw_vin hi0 hi1 hL0 (by decide)) dL_law_1121 ?_
  refine lz_top (y := x1) hx1 ?_
  refine lv_aload_n hx hb dL_law_1122 rfl (lv_at hl 3 rfl) ?_
  refine lv_iload_n hx hb dL_law_1123 rfl (lv_at hl 0 rfl) ?_
  refine lv_iconst (v := 2) hx hb dL_law_1124 (by decide) ?_
  refine lv_iadd hx hb dL_law_1125 ?_
  refine va_sld hx hb hX hbl hbA hS (lw_vin hi0 hi1 hL0 (by decide)) dL_law_1126 ?_
  refine lz_top (y := x2) hx2 ?_
  refine lv_aload_n hx hb dL_law_1127 rfl (lv_at hl 3 rfl) ?_
  refine lv_iload_n hx hb dL_law_1128 rfl (lv_at hl 0 rfl) ?_
  refine lv_iconst (v := 3) hx hb dL_law_1129 (by decide) ?_
  refine lv_iadd hx hb dL_law_1130 ?_
  refine va_sld hx hb hX hbl hbA hS (lw_vin hi0 hi1 hL0 (by decide)) dL_law_1131 ?_
  refine lz_top (y := x3) hx3 ?_
  refine lv_aload_n hx hb dL_law_1132 rfl (lv_at hl 3 rfl) ?_
  refine lv_iload_n hx hb dL_law_1133 rfl (lv_at hl 0 rfl) ?_
  refine lv_iconst (v := 4) hx hb dL_law_1134 (by decide) ?_
  refine lv_iadd hx hb dL_law_1135 ?_
  refine va_sld hx hb hX hbl hbA hS (lw_vin hi0 hi1 hL0 (by decide)) dL_law_1136 ?_
  refine lz_top (y := x4) hx4 ?_
  refine lq_X (S := Int32 × Int32 × SU) (fna := fun _ => na) (fnc := fun _ => nc) (fN := fun _ => N) (fL := fun q => mkL (cx 0) q.1 (cx 2) (cx 3) (cx 4) q.2.1 (cx 6) (cx 7) (cx 8) (cx 9) (cx 10) (cx 11) (cx 12) (cx 13) (cx 14)) (fu := fun q => q.2.2) (As := [.int x1, .int x2, .int x3, .int x4]) (rest := []) ⟨hx, hb, hml, hown, hts⟩ (k_X11_times l D cI cS _ a na nc N (cx 0) (cx 1) (cx 2) (cx 3) (cx 4) (cx 5) (cx 6) (cx 7) (cx 8) (cx 9) (cx 10) (cx 11) (cx 12) (cx 13) (cx 14) u hTX hN x1 x2 x3 x4 ) hKK hP hD hS hA (cwV 4 hts gL_law_X11_times rfl rfl rfl (by decide +kernel) ⟨Nat.le_of_ble_eq_true rfl, Nat.le_of_ble_eq_true rfl⟩) rfl hl.1 rfl (Nat.le_of_ble_eq_true rfl) dL_law_1137 (CSL.hf hcs) (fun r53160 q9 H locs hr53160 hP hD hS => ?_)
  obtain ⟨r53161, r53162, u⟩ := q9
  have hr53160 : Rg (-2147483648) 2147483647 r53160 ∧ Rg 0 12 r53161 ∧ (r53162.toInt = (cx 5).toInt) := hr53160
  have hTX : TyX (mkL (cx 0) r53161 (cx 2) (cx 3) (cx 4) r53162 (cx 6) (cx 7) (cx 8) (cx 9) (cx 10) (cx 11) (cx 12) (cx 13) (cx 14)) := ⟨hTX.1, (rg_w hr53160.2.1 (by decide) (by decide)), hTX.2.2.1, hTX.2.2.2.1, hTX.2.2.2.2.1, hTX.2.2.2.2.2.1, hTX.2.2.2.2.2.2.1, hTX.2.2.2.2.2.2.2⟩
  refine lv_pop hx hb dL_law_1140 rfl ?_
  refine lv_aload_n hx hb dL_law_1141 rfl (lv_at hl 1 rfl) ?_
  refine lv_aload_n hx hb dL_law_1142 rfl (lv_at hl 3 rfl) ?_
  refine lv_iload_n hx hb dL_law_1143 rfl (lv_at hl 0 rfl) ?_
  refine lv_iconst (v := 1) hx hb dL_law_1144 (by decide) ?_
  refine lv_iadd hx hb dL_law_1145 ?_
  refine va_sld hx hb hX hbl hbA hS (lw_vin hi0 hi1 hL0 (by decide)) dL_law_1146 ?_
  refine lz_top (y := x1) hx1 ?_
  refine lv_aload_n hx hb dL_law_1147 rfl (lv_at hl 3 rfl) ?_
  refine lv_iload_n hx hb dL_law_1148 rfl (lv_at hl 0 rfl) ?_
  refine lv_iconst (v := 2) hx hb dL_law_1149 (by decide) ?_
  refine lv_iadd hx hb dL_law_1150 ?_
  refine va_sld hx hb hX hbl hbA hS (lw_vin hi0 hi1 hL0 (by decide)) dL_law_1151 ?_
  refine lz_top (y := x2) hx2 ?_
  refine lv_aload_n hx hb dL_law_1152 rfl (lv_at hl 3 rfl) ?_
  refine lv_iload_n hx hb dL_law_1153 rfl (lv_at hl 0 rfl) ?_
  refine lv_iconst (v := 3) hx hb dL_law_1154 (by decide) ?_
  refine lv_iadd hx hb dL_law_1155 ?_
  refine va_sld hx hb hX hbl hbA hS (lw_vin hi0 hi1 hL0 (by decide)) dL_law_1156 ?_
  refine lz_top (y := x3) hx3 ?_
  refine lv_aload_n hx hb dL_law_1157 rfl (lv_at hl 3 rfl) ?_
  refine lv_iload_n hx hb dL_law_1158 rfl (lv_at hl 0 rfl) ?_
  refine lv_iconst (v := 4) hx hb dL_law_1159 (by decide) ?_
  refine lv_iadd hx hb dL_law_1160 ?_
  refine va_sld hx hb hX hbl hbA hS (lw_vin hi0 hi1 hL0 (by decide)) dL_law_1161 ?_
  refine lz_top (y := x4) hx4 ?_
  refine lq_M (S := Int32 × Int32 × (Nat → Int32) × SU) (fL := fun q => mkM q.1 q.2.1 (my 2) (my 3) (my 4) (my 5) (my 6) (R 0) (R 1) q.2.2.1) (fu := fun q => q.2.2.2) (As := [.int x1, .int x2, .int x3, .int x4]) (rest := []) ⟨hx, hb, hml, hown, hts⟩ (w_X12_times l D cI cS _ b (my 0) (my 1) (my 2) (my 3) (my 4) (my 5) (my 6) (R 0) (R 1) (R 2) v hTM hV x1 x2 x3 x4 ) hKK hP hD hS hA (cwV 4 hts gL_law_X12_times rfl rfl rfl (by decide +kernel) ⟨Nat.le_of_ble_eq_true rfl, Nat.le_of_ble_eq_true rfl⟩) rfl hl.1 rfl (Nat.le_of_ble_eq_true rfl) dL_law_1162 (CSL.hf hcs) (fun r53163 q9 H locs hr53163 hP hD hS => ?_)
  obtain ⟨r53164, r53165, f53166, v⟩ := q9
  have hr53163 : TyV v ∧ Rg (-2147483648) 2147483647 r53163 ∧ Rg 0 12 r53164 ∧ Kp f53166 ∧ (r53164.toInt = (my 0).toInt ∧ r53165.toInt = (my 1).toInt ∧ (f53166 0).toInt = ((R 2) 0).toInt ∧ (f53166 1).toInt = ((R 2) 1).toInt) := hr53163
  have hV := hr53163.1
  have hTM : TyL (mkM r53164 r53165 (my 2) (my 3) (my 4) (my 5) (my 6) (R 0) (R 1) f53166) := ⟨(rg_w hr53163.2.2.1 (by decide) (by decide)), hTM.2.1, hTM.2.2.1, hTM.2.2.2.1, hr53163.2.2.2.1, hTM.2.2.2.2.2⟩
  refine lv_pop hx hb dL_law_1165 rfl ?_
  refine lv_goto (tgt := 1486) hx hb dL_law_1166 (by decide) ?_
  have hR2 : (cx 0).toInt = r53164.toInt ∧ r53162.toInt = r53165.toInt ∧ (cx 4).toInt = (f53166 1).toInt ∧ (cx 6).toInt = (my 2).toInt ∧ (cx 3).toInt = (my 3).toInt ∧ (cx 2).toInt = (f53166 0).toInt ∧ (cx 7).toInt = ((R 0) 0).toInt ∧ (cx 8).toInt = ((R 0) 1).toInt ∧ (cx 9).toInt = ((R 0) 2).toInt ∧ (cx 10).toInt = ((R 0) 3).toInt ∧ (cx 11).toInt = ((R 1) 0).toInt ∧ (cx 12).toInt = ((R 1) 1).toInt ∧ (cx 13).toInt = ((R 1) 2).toInt ∧ (cx 14).toInt = ((R 1) 3).toInt := by have zr := hR; have zz0 := hr53160.2.2; have zz1 := hr53163.2.2.2.2; refine ⟨by omega, by omega, by omega, by omega, by omega, by omega, by omega, by omega, by omega, by omega, by omega, by omega, by omega, by omega⟩
  exact tail na nc N  (upd (upd cx 1 r53161) 5 r53162) (upd (upd my 0 r53164) 1 r53165) (sU R 2 f53166) u v _ _ _ _ _ ⟨hcs, ⟨hTX, hTM, hV, hR2⟩, hP, hD, hS, hl⟩
