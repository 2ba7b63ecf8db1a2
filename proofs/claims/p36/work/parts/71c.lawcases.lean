set_option maxHeartbeats 4000000 in
set_option maxRecDepth 100000 in
theorem lc_25 {p : Program} {l : Launch} {e : Env} {s : State} {m : MethodId} {below : List Frame} {meth : Method} {c : Code} {b0 L0 : Nat} {xs : Nat → Int32} {D : va_G} {cI cS : ClassId} {A : Nat → Prop} {H : Heap} {locs : List Loc} {ls : Array Slot} {Q : State → Prop} {a b : Nat → Nat} {na nc N cells slots : Nat} {tw : SU} {cx my : Nat → Int32} {R u v : SU} {i : Int32} (hx : p.tables.exec = Jvm.exec) (hb : c.code = cL_law) (hml : c.maxLocals = 4) (hown : s.vm.findClass RL = some m.cls) (hts : ∀ w ∈ wsL_law, w.before #[Value.ref b0] s = true) (hKK : KK D cI cS s) (hAB0 : AB s s.heap) (hA0 : ∀ q : Nat, q < s.heap.size → ¬ A q) (hX : va_X b0 L0 xs s s.heap) (hbl : b0 < s.heap.size) (hbA : ¬ A b0) (hA : ∀ q : Nat, s.heap.size ≤ q → A q) (hL0 : L0 ≤ 3072) (hi0 : 0 ≤ i.toInt) (hi1 : i.toInt + 6 ≤ (L0 : Int)) (hst : ST D cI cS A s a b b0 i i.toInt na nc N tw cx my R u v H locs ls cells slots) (tail : ∀ (na nc N : Nat) (tw : SU) (cx my : Nat → Int32) (R u v : SU) (H : Heap) (locs : List Loc) (ls : Array Slot) (cells slots : Nat), ST D cI cS A s a b b0 i (i.toInt + 6) na nc N tw cx my R u v H locs ls cells slots → W p l e room_1 s m #[Value.ref b0] below meth c H locs cells slots Q (F0 m 1486 ls [])) : W p l e room_1 s m #[Value.ref b0] below meth c H locs cells slots Q (F0 m 869 ls []) := by
  obtain ⟨hcs, ⟨hTX, hTM, hV, hR⟩, hP, hD, hS, hl, hth⟩ := hst
  have hN := hcs.hN
  have hK := hKK.1
  have hR : (cx 0).toInt = (my 0).toInt ∧ (cx 5).toInt = (my 1).toInt ∧ (cx 4).toInt = ((R 2) 1).toInt ∧ (cx 6).toInt = (my 2).toInt ∧ (cx 3).toInt = (my 3).toInt ∧ (cx 2).toInt = ((R 2) 0).toInt ∧ (cx 7).toInt = ((R 0) 0).toInt ∧ (cx 8).toInt = ((R 0) 1).toInt ∧ (cx 9).toInt = ((R 0) 2).toInt ∧ (cx 10).toInt = ((R 0) 3).toInt ∧ (cx 11).toInt = ((R 1) 0).toInt ∧ (cx 12).toInt = ((R 1) 1).toInt ∧ (cx 13).toInt = ((R 1) 2).toInt ∧ (cx 14).toInt = ((R 1) 3).toInt := hR
  obtain ⟨x1, hx1⟩ : ∃ z, xs (i + 1).toNatClampNeg = z := ⟨_, rfl⟩
  obtain ⟨x2, hx2⟩ : ∃ z, xs (i + 2).toNatClampNeg = z := ⟨_, rfl⟩
  obtain ⟨x3, hx3⟩ : ∃ z, xs (i + 3).toNatClampNeg = z := ⟨_, rfl⟩
  obtain ⟨x4, hx4⟩ : ∃ z, xs (i + 4).toNatClampNeg = z := ⟨_, rfl⟩
  obtain ⟨x5, hx5⟩ : ∃ z, xs (i + 5).toNatClampNeg = z := ⟨_, rfl⟩
  refine lv_aload_n hx hb dL_law_869 rfl (lv_at hl 2 rfl) ?_
  refine lv_aload_n hx hb dL_law_870 rfl (lv_at hl 3 rfl) ?_
  refine lv_iload_n hx hb dL_law_871 rfl (lv_at hl 0 rfl) ?_
  refine lv_iconst (v := 1) hx hb dL_law_872 (by decide) ?_
  refine lv_iadd hx hb dL_law_873 ?_
  refine va_sld hx hb hX hbl hbA hS (lw_vin hi0 hi1 hL0 (by decide)) dL_law_874 ?_
  refine lz_top (y := x1) hx1 ?_
  refine lv_aload_n hx hb dL_law_875 rfl (lv_at hl 3 rfl) ?_
  refine lv_iload_n hx hb dL_law_876 rfl (lv_at hl 0 rfl) ?_
  refine lv_iconst (v := 2) hx hb dL_law_877 (by decide) ?_
  refine lv_iadd hx hb dL_law_878 ?_
  refine va_sld hx hb hX hbl hbA hS (lw_vin hi0 hi1 hL0 (by decide)) dL_law_879 ?_
  refine lz_top (y := x2) hx2 ?_
  refine lq_X (S := SU) (fna := fun _ => na) (fnc := fun _ => nc) (fN := fun _ => N) (fL := fun _ => (mkL tw (cx 0) (cx 1) (cx 2) (cx 3) (cx 4) (cx 5) (cx 6) (cx 7) (cx 8) (cx 9) (cx 10) (cx 11) (cx 12) (cx 13) (cx 14))) (fu := fun q => q) (As := [.int x1, .int x2]) (rest := []) ⟨hx, hb, hml, hown, hts⟩ (k_X11_way l D cI cS _ a na nc N (mkL tw (cx 0) (cx 1) (cx 2) (cx 3) (cx 4) (cx 5) (cx 6) (cx 7) (cx 8) (cx 9) (cx 10) (cx 11) (cx 12) (cx 13) (cx 14)) u hTX hN x1 x2 ) hKK hP hD hS hA (cwV 2 hts gL_law_X11_way rfl rfl rfl (by decide +kernel) ⟨Nat.le_of_ble_eq_true rfl, Nat.le_of_ble_eq_true rfl⟩) rfl hl.1 rfl (Nat.le_of_ble_eq_true rfl) dL_law_880 (CSL.hf hcs) (fun r52458 u H locs hr52458 hP hD hS => ?_)
  refine lv_pop hx hb dL_law_883 rfl ?_
  refine lv_aload_n hx hb dL_law_884 rfl (lv_at hl 1 rfl) ?_
  refine lv_aload_n hx hb dL_law_885 rfl (lv_at hl 3 rfl) ?_
  refine lv_iload_n hx hb dL_law_886 rfl (lv_at hl 0 rfl) ?_
  refine lv_iconst (v := 1) hx hb dL_law_887 (by decide) ?_
  refine lv_iadd hx hb dL_law_888 ?_
  refine va_sld hx hb hX hbl hbA hS (lw_vin hi0 hi1 hL0 (by decide)) dL_law_889 ?_
  refine lz_top (y := x1) hx1 ?_
  refine lv_aload_n hx hb dL_law_890 rfl (lv_at hl 3 rfl) ?_
  refine lv_iload_n hx hb dL_law_891 rfl (lv_at hl 0 rfl) ?_
  refine lv_iconst (v := 2) hx hb dL_law_892 (by decide) ?_
  refine lv_iadd hx hb dL_law_893 ?_
  refine va_sld hx hb hX hbl hbA hS (lw_vin hi0 hi1 hL0 (by decide)) dL_law_894 ?_
  refine lz_top (y := x2) hx2 ?_
  refine lq_M (S := SU) (fL := fun _ => (mkM (my 0) (my 1) (my 2) (my 3) (my 4) (my 5) (my 6) (R 0) (R 1) (R 2))) (fu := fun q => q) (As := [.int x1, .int x2]) (rest := []) ⟨hx, hb, hml, hown, hts⟩ (w_X12_way l D cI cS _ b (mkM (my 0) (my 1) (my 2) (my 3) (my 4) (my 5) (my 6) (R 0) (R 1) (R 2)) v hTM hV x1 x2 ) hKK hP hD hS hA (cwV 2 hts gL_law_X12_way rfl rfl rfl (by decide +kernel) ⟨Nat.le_of_ble_eq_true rfl, Nat.le_of_ble_eq_true rfl⟩) rfl hl.1 rfl (Nat.le_of_ble_eq_true rfl) dL_law_895 (CSL.hf hcs) (fun r52459 v H locs hr52459 hP hD hS => ?_)
  have hV := hr52459.1
  refine lv_pop hx hb dL_law_898 rfl ?_
  refine lv_goto (tgt := 1486) hx hb dL_law_899 (by decide) ?_
  exact tail na nc N tw cx my R u v _ _ _ _ _ ⟨hcs, ⟨hTX, hTM, hV, hR⟩, hP, hD, hS, hl, hth.mono (by omega)⟩
set_option maxHeartbeats 4000000 in
set_option maxRecDepth 100000 in
theorem lc_26 {p : Program} {l : Launch} {e : Env} {s : State} {m : MethodId} {below : List Frame} {meth : Method} {c : Code} {b0 L0 : Nat} {xs : Nat → Int32} {D : va_G} {cI cS : ClassId} {A : Nat → Prop} {H : Heap} {locs : List Loc} {ls : Array Slot} {Q : State → Prop} {a b : Nat → Nat} {na nc N cells slots : Nat} {tw : SU} {cx my : Nat → Int32} {R u v : SU} {i : Int32} (hx : p.tables.exec = Jvm.exec) (hb : c.code = cL_law) (hml : c.maxLocals = 4) (hown : s.vm.findClass RL = some m.cls) (hts : ∀ w ∈ wsL_law, w.before #[Value.ref b0] s = true) (hKK : KK D cI cS s) (hAB0 : AB s s.heap) (hA0 : ∀ q : Nat, q < s.heap.size → ¬ A q) (hX : va_X b0 L0 xs s s.heap) (hbl : b0 < s.heap.size) (hbA : ¬ A b0) (hA : ∀ q : Nat, s.heap.size ≤ q → A q) (hL0 : L0 ≤ 3072) (hi0 : 0 ≤ i.toInt) (hi1 : i.toInt + 6 ≤ (L0 : Int)) (hst : ST D cI cS A s a b b0 i i.toInt na nc N tw cx my R u v H locs ls cells slots) (tail : ∀ (na nc N : Nat) (tw : SU) (cx my : Nat → Int32) (R u v : SU) (H : Heap) (locs : List Loc) (ls : Array Slot) (cells slots : Nat), ST D cI cS A s a b b0 i (i.toInt + 6) na nc N tw cx my R u v H locs ls cells slots → W p l e room_1 s m #[Value.ref b0] below meth c H locs cells slots Q (F0 m 1486 ls [])) : W p l e room_1 s m #[Value.ref b0] below meth c H locs cells slots Q (F0 m 902 ls []) := by
  obtain ⟨hcs, ⟨hTX, hTM, hV, hR⟩, hP, hD, hS, hl, hth⟩ := hst
  have hN := hcs.hN
  have hK := hKK.1
  have hR : (cx 0).toInt = (my 0).toInt ∧ (cx 5).toInt = (my 1).toInt ∧ (cx 4).toInt = ((R 2) 1).toInt ∧ (cx 6).toInt = (my 2).toInt ∧ (cx 3).toInt = (my 3).toInt ∧ (cx 2).toInt = ((R 2) 0).toInt ∧ (cx 7).toInt = ((R 0) 0).toInt ∧ (cx 8).toInt = ((R 0) 1).toInt ∧ (cx 9).toInt = ((R 0) 2).toInt ∧ (cx 10).toInt = ((R 0) 3).toInt ∧ (cx 11).toInt = ((R 1) 0).toInt ∧ (cx 12).toInt = ((R 1) 1).toInt ∧ (cx 13).toInt = ((R 1) 2).toInt ∧ (cx 14).toInt = ((R 1) 3).toInt := hR
  obtain ⟨x1, hx1⟩ : ∃ z, xs (i + 1).toNatClampNeg = z := ⟨_, rfl⟩
  obtain ⟨x2, hx2⟩ : ∃ z, xs (i + 2).toNatClampNeg = z := ⟨_, rfl⟩
  obtain ⟨x3, hx3⟩ : ∃ z, xs (i + 3).toNatClampNeg = z := ⟨_, rfl⟩
  obtain ⟨x4, hx4⟩ : ∃ z, xs (i + 4).toNatClampNeg = z := ⟨_, rfl⟩
  obtain ⟨x5, hx5⟩ : ∃ z, xs (i + 5).toNatClampNeg = z := ⟨_, rfl⟩
  refine lv_aload_n hx hb dL_law_902 rfl (lv_at hl 2 rfl) ?_
  refine lv_aload_n hx hb dL_law_903 rfl (lv_at hl 3 rfl) ?_
  refine lv_iload_n hx hb dL_law_904 rfl (lv_at hl 0 rfl) ?_
  refine lv_iconst (v := 1) hx hb dL_law_905 (by decide) ?_
  refine lv_iadd hx hb dL_law_906 ?_
  refine va_sld hx hb hX hbl hbA hS (lw_vin hi0 hi1 hL0 (by decide)) dL_law_907 ?_
  refine lz_top (y := x1) hx1 ?_
  refine lq_X (S := Int32 × Int32 × Int32 × Int32 × Int32 × Int32 × Int32 × Int32 × SU) (fna := fun _ => na) (fnc := fun _ => nc) (fN := fun _ => N) (fL := fun q => mkL tw (cx 0) (cx 1) (cx 2) (cx 3) (cx 4) (cx 5) (cx 6) q.1 q.2.1 q.2.2.1 q.2.2.2.1 q.2.2.2.2.1 q.2.2.2.2.2.1 q.2.2.2.2.2.2.1 q.2.2.2.2.2.2.2.1) (fu := fun q => q.2.2.2.2.2.2.2.2) (As := [.int x1]) (rest := []) ⟨hx, hb, hml, hown, hts⟩ (k_X11_grow l D cI cS _ a na nc N tw (cx 0) (cx 1) (cx 2) (cx 3) (cx 4) (cx 5) (cx 6) (cx 7) (cx 8) (cx 9) (cx 10) (cx 11) (cx 12) (cx 13) (cx 14) u hTX hN x1 ) hKK hP hD hS hA (cwV 1 hts gL_law_X11_grow rfl rfl rfl (by decide +kernel) ⟨Nat.le_of_ble_eq_true rfl, Nat.le_of_ble_eq_true rfl⟩) rfl hl.1 rfl (Nat.le_of_ble_eq_true rfl) dL_law_908 (CSL.hf hcs) (fun r52460 q9 H locs hr52460 hP hD hS => ?_)
  obtain ⟨r52461, r52462, r52463, r52464, r52465, r52466, r52467, r52468, u⟩ := q9
  have hr52460 : Rg (-2147483648) 2147483647 r52460 ∧ Rg 0 40 r52465 ∧ Rg 0 40 r52466 ∧ Rg 0 40 r52467 ∧ Rg 0 40 r52468 ∧ (r52461.toInt = (cx 7).toInt ∧ r52465.toInt = (cx 11).toInt) ∧ (r52462.toInt = (cx 8).toInt ∧ r52466.toInt = (cx 12).toInt) ∧ (r52463.toInt = (cx 9).toInt ∧ r52467.toInt = (cx 13).toInt) ∧ (r52464.toInt = (cx 10).toInt ∧ r52468.toInt = (cx 14).toInt) := hr52460
  have hTX : TyX (mkL tw (cx 0) (cx 1) (cx 2) (cx 3) (cx 4) (cx 5) (cx 6) r52461 r52462 r52463 r52464 r52465 r52466 r52467 r52468) := ⟨hTX.1, hTX.2.1, hTX.2.2.1, hTX.2.2.2.1, (rg_w hr52460.2.1 (by decide) (by decide)), (rg_w hr52460.2.2.1 (by decide) (by decide)), (rg_w hr52460.2.2.2.1 (by decide) (by decide)), (rg_w hr52460.2.2.2.2.1 (by decide) (by decide))⟩
  refine lv_pop hx hb dL_law_911 rfl ?_
  refine lv_aload_n hx hb dL_law_912 rfl (lv_at hl 1 rfl) ?_
  refine lv_aload_n hx hb dL_law_913 rfl (lv_at hl 3 rfl) ?_
  refine lv_iload_n hx hb dL_law_914 rfl (lv_at hl 0 rfl) ?_
  refine lv_iconst (v := 1) hx hb dL_law_915 (by decide) ?_
  refine lv_iadd hx hb dL_law_916 ?_
  refine va_sld hx hb hX hbl hbA hS (lw_vin hi0 hi1 hL0 (by decide)) dL_law_917 ?_
  refine lz_top (y := x1) hx1 ?_
  refine lq_M (S := SU) (fL := fun _ => (mkM (my 0) (my 1) (my 2) (my 3) (my 4) (my 5) (my 6) (R 0) (R 1) (R 2))) (fu := fun q => q) (As := [.int x1]) (rest := []) ⟨hx, hb, hml, hown, hts⟩ (w_X12_grow l D cI cS _ b (mkM (my 0) (my 1) (my 2) (my 3) (my 4) (my 5) (my 6) (R 0) (R 1) (R 2)) v hTM hV x1 ) hKK hP hD hS hA (cwV 1 hts gL_law_X12_grow rfl rfl rfl (by decide +kernel) ⟨Nat.le_of_ble_eq_true rfl, Nat.le_of_ble_eq_true rfl⟩) rfl hl.1 rfl (Nat.le_of_ble_eq_true rfl) dL_law_918 (CSL.hf hcs) (fun r52469 v H locs hr52469 hP hD hS => ?_)
  have hV := hr52469.1
  refine lv_pop hx hb dL_law_921 rfl ?_
  refine lv_goto (tgt := 1486) hx hb dL_law_922 (by decide) ?_
  have hR2 : (cx 0).toInt = (my 0).toInt ∧ (cx 5).toInt = (my 1).toInt ∧ (cx 4).toInt = ((R 2) 1).toInt ∧ (cx 6).toInt = (my 2).toInt ∧ (cx 3).toInt = (my 3).toInt ∧ (cx 2).toInt = ((R 2) 0).toInt ∧ r52461.toInt = ((R 0) 0).toInt ∧ r52462.toInt = ((R 0) 1).toInt ∧ r52463.toInt = ((R 0) 2).toInt ∧ r52464.toInt = ((R 0) 3).toInt ∧ r52465.toInt = ((R 1) 0).toInt ∧ r52466.toInt = ((R 1) 1).toInt ∧ r52467.toInt = ((R 1) 2).toInt ∧ r52468.toInt = ((R 1) 3).toInt := by have zr := hR; have zz0 := hr52460.2.2.2.2.2.1; have zz1 := hr52460.2.2.2.2.2.2.1; have zz2 := hr52460.2.2.2.2.2.2.2.1; have zz3 := hr52460.2.2.2.2.2.2.2.2; refine ⟨by omega, by omega, by omega, by omega, by omega, by omega, by omega, by omega, by omega, by omega, by omega, by omega, by omega, by omega⟩
  exact tail na nc N tw (upd (upd (upd (upd (upd (upd (upd (upd cx 7 r52461) 8 r52462) 9 r52463) 10 r52464) 11 r52465) 12 r52466) 13 r52467) 14 r52468) my R u v _ _ _ _ _ ⟨hcs, ⟨hTX, hTM, hV, hR2⟩, hP, hD, hS, hl, hth.mono (by omega)⟩
set_option maxHeartbeats 4000000 in
set_option maxRecDepth 100000 in
theorem lc_27 {p : Program} {l : Launch} {e : Env} {s : State} {m : MethodId} {below : List Frame} {meth : Method} {c : Code} {b0 L0 : Nat} {xs : Nat → Int32} {D : va_G} {cI cS : ClassId} {A : Nat → Prop} {H : Heap} {locs : List Loc} {ls : Array Slot} {Q : State → Prop} {a b : Nat → Nat} {na nc N cells slots : Nat} {tw : SU} {cx my : Nat → Int32} {R u v : SU} {i : Int32} (hx : p.tables.exec = Jvm.exec) (hb : c.code = cL_law) (hml : c.maxLocals = 4) (hown : s.vm.findClass RL = some m.cls) (hts : ∀ w ∈ wsL_law, w.before #[Value.ref b0] s = true) (hKK : KK D cI cS s) (hAB0 : AB s s.heap) (hA0 : ∀ q : Nat, q < s.heap.size → ¬ A q) (hX : va_X b0 L0 xs s s.heap) (hbl : b0 < s.heap.size) (hbA : ¬ A b0) (hA : ∀ q : Nat, s.heap.size ≤ q → A q) (hL0 : L0 ≤ 3072) (hi0 : 0 ≤ i.toInt) (hi1 : i.toInt + 6 ≤ (L0 : Int)) (hst : ST D cI cS A s a b b0 i i.toInt na nc N tw cx my R u v H locs ls cells slots) (tail : ∀ (na nc N : Nat) (tw : SU) (cx my : Nat → Int32) (R u v : SU) (H : Heap) (locs : List Loc) (ls : Array Slot) (cells slots : Nat), ST D cI cS A s a b b0 i (i.toInt + 6) na nc N tw cx my R u v H locs ls cells slots → W p l e room_1 s m #[Value.ref b0] below meth c H locs cells slots Q (F0 m 1486 ls [])) : W p l e room_1 s m #[Value.ref b0] below meth c H locs cells slots Q (F0 m 925 ls []) := by
  obtain ⟨hcs, ⟨hTX, hTM, hV, hR⟩, hP, hD, hS, hl, hth⟩ := hst
  have hN := hcs.hN
  have hK := hKK.1
  have hR : (cx 0).toInt = (my 0).toInt ∧ (cx 5).toInt = (my 1).toInt ∧ (cx 4).toInt = ((R 2) 1).toInt ∧ (cx 6).toInt = (my 2).toInt ∧ (cx 3).toInt = (my 3).toInt ∧ (cx 2).toInt = ((R 2) 0).toInt ∧ (cx 7).toInt = ((R 0) 0).toInt ∧ (cx 8).toInt = ((R 0) 1).toInt ∧ (cx 9).toInt = ((R 0) 2).toInt ∧ (cx 10).toInt = ((R 0) 3).toInt ∧ (cx 11).toInt = ((R 1) 0).toInt ∧ (cx 12).toInt = ((R 1) 1).toInt ∧ (cx 13).toInt = ((R 1) 2).toInt ∧ (cx 14).toInt = ((R 1) 3).toInt := hR
  obtain ⟨x1, hx1⟩ : ∃ z, xs (i + 1).toNatClampNeg = z := ⟨_, rfl⟩
  obtain ⟨x2, hx2⟩ : ∃ z, xs (i + 2).toNatClampNeg = z := ⟨_, rfl⟩
  obtain ⟨x3, hx3⟩ : ∃ z, xs (i + 3).toNatClampNeg = z := ⟨_, rfl⟩
  obtain ⟨x4, hx4⟩ : ∃ z, xs (i + 4).toNatClampNeg = z := ⟨_, rfl⟩
  obtain ⟨x5, hx5⟩ : ∃ z, xs (i + 5).toNatClampNeg = z := ⟨_, rfl⟩
  refine lv_aload_n hx hb dL_law_925 rfl (lv_at hl 2 rfl) ?_
  refine lv_aload_n hx hb dL_law_926 rfl (lv_at hl 3 rfl) ?_
  refine lv_iload_n hx hb dL_law_927 rfl (lv_at hl 0 rfl) ?_
  refine lv_iconst (v := 1) hx hb dL_law_928 (by decide) ?_
  refine lv_iadd hx hb dL_law_929 ?_
  refine va_sld hx hb hX hbl hbA hS (lw_vin hi0 hi1 hL0 (by decide)) dL_law_930 ?_
  refine lz_top (y := x1) hx1 ?_
  refine lv_aload_n hx hb dL_law_931 rfl (lv_at hl 3 rfl) ?_
  refine lv_iload_n hx hb dL_law_932 rfl (lv_at hl 0 rfl) ?_
  refine lv_iconst (v := 2) hx hb dL_law_933 (by decide) ?_
  refine lv_iadd hx hb dL_law_934 ?_
  refine va_sld hx hb hX hbl hbA hS (lw_vin hi0 hi1 hL0 (by decide)) dL_law_935 ?_
  refine lz_top (y := x2) hx2 ?_
  refine lv_aload_n hx hb dL_law_936 rfl (lv_at hl 3 rfl) ?_
  refine lv_iload_n hx hb dL_law_937 rfl (lv_at hl 0 rfl) ?_
  refine lv_iconst (v := 3) hx hb dL_law_938 (by decide) ?_
  refine lv_iadd hx hb dL_law_939 ?_
  refine va_sld hx hb hX hbl hbA hS (lw_vin hi0 hi1 hL0 (by decide)) dL_law_940 ?_
  refine lz_top (y := x3) hx3 ?_
  refine lq_X (S := SU) (fna := fun _ => na) (fnc := fun _ => nc) (fN := fun _ => N) (fL := fun _ => (mkL tw (cx 0) (cx 1) (cx 2) (cx 3) (cx 4) (cx 5) (cx 6) (cx 7) (cx 8) (cx 9) (cx 10) (cx 11) (cx 12) (cx 13) (cx 14))) (fu := fun q => q) (As := [.int x1, .int x2, .int x3]) (rest := []) ⟨hx, hb, hml, hown, hts⟩ (k_X11_chains l D cI cS _ a na nc N (mkL tw (cx 0) (cx 1) (cx 2) (cx 3) (cx 4) (cx 5) (cx 6) (cx 7) (cx 8) (cx 9) (cx 10) (cx 11) (cx 12) (cx 13) (cx 14)) u hTX hN x1 x2 x3 ) hKK hP hD hS hA (cwV 3 hts gL_law_X11_chains rfl rfl rfl (by decide +kernel) ⟨Nat.le_of_ble_eq_true rfl, Nat.le_of_ble_eq_true rfl⟩) rfl hl.1 rfl (Nat.le_of_ble_eq_true rfl) dL_law_941 (CSL.hf hcs) (fun r52470 u H locs hr52470 hP hD hS => ?_)
  refine lv_pop hx hb dL_law_944 rfl ?_
  refine lv_aload_n hx hb dL_law_945 rfl (lv_at hl 1 rfl) ?_
  refine lv_aload_n hx hb dL_law_946 rfl (lv_at hl 3 rfl) ?_
  refine lv_iload_n hx hb dL_law_947 rfl (lv_at hl 0 rfl) ?_
  refine lv_iconst (v := 1) hx hb dL_law_948 (by decide) ?_
  refine lv_iadd hx hb dL_law_949 ?_
  refine va_sld hx hb hX hbl hbA hS (lw_vin hi0 hi1 hL0 (by decide)) dL_law_950 ?_
  refine lz_top (y := x1) hx1 ?_
  refine lv_aload_n hx hb dL_law_951 rfl (lv_at hl 3 rfl) ?_
  refine lv_iload_n hx hb dL_law_952 rfl (lv_at hl 0 rfl) ?_
  refine lv_iconst (v := 2) hx hb dL_law_953 (by decide) ?_
  refine lv_iadd hx hb dL_law_954 ?_
  refine va_sld hx hb hX hbl hbA hS (lw_vin hi0 hi1 hL0 (by decide)) dL_law_955 ?_
  refine lz_top (y := x2) hx2 ?_
  refine lv_aload_n hx hb dL_law_956 rfl (lv_at hl 3 rfl) ?_
  refine lv_iload_n hx hb dL_law_957 rfl (lv_at hl 0 rfl) ?_
  refine lv_iconst (v := 3) hx hb dL_law_958 (by decide) ?_
  refine lv_iadd hx hb dL_law_959 ?_
  refine va_sld hx hb hX hbl hbA hS (lw_vin hi0 hi1 hL0 (by decide)) dL_law_960 ?_
  refine lz_top (y := x3) hx3 ?_
  refine lq_M (S := SU) (fL := fun _ => (mkM (my 0) (my 1) (my 2) (my 3) (my 4) (my 5) (my 6) (R 0) (R 1) (R 2))) (fu := fun q => q) (As := [.int x1, .int x2, .int x3]) (rest := []) ⟨hx, hb, hml, hown, hts⟩ (w_X12_chains l D cI cS _ b (mkM (my 0) (my 1) (my 2) (my 3) (my 4) (my 5) (my 6) (R 0) (R 1) (R 2)) v hTM hV x1 x2 x3 ) hKK hP hD hS hA (cwV 3 hts gL_law_X12_chains rfl rfl rfl (by decide +kernel) ⟨Nat.le_of_ble_eq_true rfl, Nat.le_of_ble_eq_true rfl⟩) rfl hl.1 rfl (Nat.le_of_ble_eq_true rfl) dL_law_961 (CSL.hf hcs) (fun r52471 v H locs hr52471 hP hD hS => ?_)
  have hV := hr52471.1
  refine lv_pop hx hb dL_law_964 rfl ?_
  refine lv_goto (tgt := 1486) hx hb dL_law_965 (by decide) ?_
  exact tail na nc N tw cx my R u v _ _ _ _ _ ⟨hcs, ⟨hTX, hTM, hV, hR⟩, hP, hD, hS, hl, hth.mono (by omega)⟩
set_option maxHeartbeats 4000000 in
set_option maxRecDepth 100000 in
theorem lc_28 {p : Program} {l : Launch} {e : Env} {s : State} {m : MethodId} {below : List Frame} {meth : Method} {c : Code} {b0 L0 : Nat} {xs : Nat → Int32} {D : va_G} {cI cS : ClassId} {A : Nat → Prop} {H : Heap} {locs : List Loc} {ls : Array Slot} {Q : State → Prop} {a b : Nat → Nat} {na nc N cells slots : Nat} {tw : SU} {cx my : Nat → Int32} {R u v : SU} {i : Int32} (hx : p.tables.exec = Jvm.exec) (hb : c.code = cL_law) (hml : c.maxLocals = 4) (hown : s.vm.findClass RL = some m.cls) (hts : ∀ w ∈ wsL_law, w.before #[Value.ref b0] s = true) (hKK : KK D cI cS s) (hAB0 : AB s s.heap) (hA0 : ∀ q : Nat, q < s.heap.size → ¬ A q) (hX : va_X b0 L0 xs s s.heap) (hbl : b0 < s.heap.size) (hbA : ¬ A b0) (hA : ∀ q : Nat, s.heap.size ≤ q → A q) (hL0 : L0 ≤ 3072) (hi0 : 0 ≤ i.toInt) (hi1 : i.toInt + 6 ≤ (L0 : Int)) (hst : ST D cI cS A s a b b0 i i.toInt na nc N tw cx my R u v H locs ls cells slots) (tail : ∀ (na nc N : Nat) (tw : SU) (cx my : Nat → Int32) (R u v : SU) (H : Heap) (locs : List Loc) (ls : Array Slot) (cells slots : Nat), ST D cI cS A s a b b0 i (i.toInt + 6) na nc N tw cx my R u v H locs ls cells slots → W p l e room_1 s m #[Value.ref b0] below meth c H locs cells slots Q (F0 m 1486 ls [])) : W p l e room_1 s m #[Value.ref b0] below meth c H locs cells slots Q (F0 m 968 ls []) := by
  obtain ⟨hcs, ⟨hTX, hTM, hV, hR⟩, hP, hD, hS, hl, hth⟩ := hst
  have hN := hcs.hN
  have hK := hKK.1
  have hR : (cx 0).toInt = (my 0).toInt ∧ (cx 5).toInt = (my 1).toInt ∧ (cx 4).toInt = ((R 2) 1).toInt ∧ (cx 6).toInt = (my 2).toInt ∧ (cx 3).toInt = (my 3).toInt ∧ (cx 2).toInt = ((R 2) 0).toInt ∧ (cx 7).toInt = ((R 0) 0).toInt ∧ (cx 8).toInt = ((R 0) 1).toInt ∧ (cx 9).toInt = ((R 0) 2).toInt ∧ (cx 10).toInt = ((R 0) 3).toInt ∧ (cx 11).toInt = ((R 1) 0).toInt ∧ (cx 12).toInt = ((R 1) 1).toInt ∧ (cx 13).toInt = ((R 1) 2).toInt ∧ (cx 14).toInt = ((R 1) 3).toInt := hR
  obtain ⟨x1, hx1⟩ : ∃ z, xs (i + 1).toNatClampNeg = z := ⟨_, rfl⟩
  obtain ⟨x2, hx2⟩ : ∃ z, xs (i + 2).toNatClampNeg = z := ⟨_, rfl⟩
  obtain ⟨x3, hx3⟩ : ∃ z, xs (i + 3).toNatClampNeg = z := ⟨_, rfl⟩
  obtain ⟨x4, hx4⟩ : ∃ z, xs (i + 4).toNatClampNeg = z := ⟨_, rfl⟩
  obtain ⟨x5, hx5⟩ : ∃ z, xs (i + 5).toNatClampNeg = z := ⟨_, rfl⟩
  refine lv_aload_n hx hb dL_law_968 rfl (lv_at hl 2 rfl) ?_
  refine lv_aload_n hx hb dL_law_969 rfl (lv_at hl 3 rfl) ?_
  refine lv_iload_n hx hb dL_law_970 rfl (lv_at hl 0 rfl) ?_
  refine lv_iconst (v := 1) hx hb dL_law_971 (by decide) ?_
  refine lv_iadd hx hb dL_law_972 ?_
  refine va_sld hx hb hX hbl hbA hS (lw_vin hi0 hi1 hL0 (by decide)) dL_law_973 ?_
  refine lz_top (y := x1) hx1 ?_
  refine lv_aload_n hx hb dL_law_974 rfl (lv_at hl 3 rfl) ?_
  refine lv_iload_n hx hb dL_law_975 rfl (lv_at hl 0 rfl) ?_
  refine lv_iconst (v := 2) hx hb dL_law_976 (by decide) ?_
  refine lv_iadd hx hb dL_law_977 ?_
  refine va_sld hx hb hX hbl hbA hS (lw_vin hi0 hi1 hL0 (by decide)) dL_law_978 ?_
  refine lz_top (y := x2) hx2 ?_
  refine lq_X (S := Int32 × Int32 × Int32 × Int32 × Int32 × Int32 × Int32 × Int32 × SU) (fna := fun _ => na) (fnc := fun _ => nc) (fN := fun _ => N) (fL := fun q => mkL tw (cx 0) (cx 1) (cx 2) (cx 3) (cx 4) (cx 5) (cx 6) q.1 q.2.1 q.2.2.1 q.2.2.2.1 q.2.2.2.2.1 q.2.2.2.2.2.1 q.2.2.2.2.2.2.1 q.2.2.2.2.2.2.2.1) (fu := fun q => q.2.2.2.2.2.2.2.2) (As := [.int x1, .int x2]) (rest := []) ⟨hx, hb, hml, hown, hts⟩ (k_X11_paint l D cI cS _ a na nc N tw (cx 0) (cx 1) (cx 2) (cx 3) (cx 4) (cx 5) (cx 6) (cx 7) (cx 8) (cx 9) (cx 10) (cx 11) (cx 12) (cx 13) (cx 14) u hTX hN x1 x2 ) hKK hP hD hS hA (cwV 2 hts gL_law_X11_paint rfl rfl rfl (by decide +kernel) ⟨Nat.le_of_ble_eq_true rfl, Nat.le_of_ble_eq_true rfl⟩) rfl hl.1 rfl (Nat.le_of_ble_eq_true rfl) dL_law_979 (CSL.hf hcs) (fun r52472 q9 H locs hr52472 hP hD hS => ?_)
  obtain ⟨r52473, r52474, r52475, r52476, r52477, r52478, r52479, r52480, u⟩ := q9
  have hr52472 : Rg (-2) 12 r52472 ∧ Rg 0 40 r52477 ∧ Rg 0 40 r52478 ∧ Rg 0 40 r52479 ∧ Rg 0 40 r52480 ∧ ((x1.toInt < 0 ∨ 3 < x1.toInt ∨ x2.toInt < 0 ∨ 1 < x2.toInt → r52472.toInt = -2) ∧ (0 ≤ x1.toInt → x1.toInt ≤ 3 → 0 ≤ x2.toInt → x2.toInt ≤ 1 → r52472.toInt = (cx 0).toInt)) ∧ ((¬ r52472.toInt = -2 → x1.toInt = 0 → r52473.toInt = x2.toInt ∧ r52477.toInt = (cx 0).toInt) ∧ ((r52472.toInt = -2 ∨ ¬ x1.toInt = 0) → r52473.toInt = (cx 7).toInt ∧ r52477.toInt = (cx 11).toInt)) ∧ ((¬ r52472.toInt = -2 → x1.toInt = 1 → r52474.toInt = x2.toInt ∧ r52478.toInt = (cx 0).toInt) ∧ ((r52472.toInt = -2 ∨ ¬ x1.toInt = 1) → r52474.toInt = (cx 8).toInt ∧ r52478.toInt = (cx 12).toInt)) ∧ ((¬ r52472.toInt = -2 → x1.toInt = 2 → r52475.toInt = x2.toInt ∧ r52479.toInt = (cx 0).toInt) ∧ ((r52472.toInt = -2 ∨ ¬ x1.toInt = 2) → r52475.toInt = (cx 9).toInt ∧ r52479.toInt = (cx 13).toInt)) ∧ ((¬ r52472.toInt = -2 → x1.toInt = 3 → r52476.toInt = x2.toInt ∧ r52480.toInt = (cx 0).toInt) ∧ ((r52472.toInt = -2 ∨ ¬ x1.toInt = 3) → r52476.toInt = (cx 10).toInt ∧ r52480.toInt = (cx 14).toInt)) := hr52472
  have hTX : TyX (mkL tw (cx 0) (cx 1) (cx 2) (cx 3) (cx 4) (cx 5) (cx 6) r52473 r52474 r52475 r52476 r52477 r52478 r52479 r52480) := ⟨hTX.1, hTX.2.1, hTX.2.2.1, hTX.2.2.2.1, (rg_w hr52472.2.1 (by decide) (by decide)), (rg_w hr52472.2.2.1 (by decide) (by decide)), (rg_w hr52472.2.2.2.1 (by decide) (by decide)), (rg_w hr52472.2.2.2.2.1 (by decide) (by decide))⟩
  refine lv_pop hx hb dL_law_982 rfl ?_
  refine lv_aload_n hx hb dL_law_983 rfl (lv_at hl 1 rfl) ?_
  refine lv_aload_n hx hb dL_law_984 rfl (lv_at hl 3 rfl) ?_
  refine lv_iload_n hx hb dL_law_985 rfl (lv_at hl 0 rfl) ?_
  refine lv_iconst (v := 1) hx hb dL_law_986 (by decide) ?_
  refine lv_iadd hx hb dL_law_987 ?_
  refine va_sld hx hb hX hbl hbA hS (lw_vin hi0 hi1 hL0 (by decide)) dL_law_988 ?_
  refine lz_top (y := x1) hx1 ?_
  refine lv_aload_n hx hb dL_law_989 rfl (lv_at hl 3 rfl) ?_
  refine lv_iload_n hx hb dL_law_990 rfl (lv_at hl 0 rfl) ?_
  refine lv_iconst (v := 2) hx hb dL_law_991 (by decide) ?_
  refine lv_iadd hx hb dL_law_992 ?_
  refine va_sld hx hb hX hbl hbA hS (lw_vin hi0 hi1 hL0 (by decide)) dL_law_993 ?_
  refine lz_top (y := x2) hx2 ?_
  refine lq_M (S := (Nat → Int32) × (Nat → Int32) × SU) (fL := fun q => mkM (my 0) (my 1) (my 2) (my 3) (my 4) (my 5) (my 6) q.1 q.2.1 (R 2)) (fu := fun q => q.2.2) (As := [.int x1, .int x2]) (rest := []) ⟨hx, hb, hml, hown, hts⟩ (w_X12_paint l D cI cS _ b (my 0) (my 1) (my 2) (my 3) (my 4) (my 5) (my 6) (R 0) (R 1) (R 2) v hTM hV x1 x2 ) hKK hP hD hS hA (cwV 2 hts gL_law_X12_paint rfl rfl rfl (by decide +kernel) ⟨Nat.le_of_ble_eq_true rfl, Nat.le_of_ble_eq_true rfl⟩) rfl hl.1 rfl (Nat.le_of_ble_eq_true rfl) dL_law_994 (CSL.hf hcs) (fun r52481 q9 H locs hr52481 hP hD hS => ?_)
  obtain ⟨f52482, f52483, v⟩ := q9
  have hr52481 : TyV v ∧ Rg (-2) 12 r52481 ∧ Ar (-1) 1 f52482 ∧ Ar 0 40 f52483 ∧ ((x1.toInt < 0 ∨ 3 < x1.toInt ∨ x2.toInt < 0 ∨ 1 < x2.toInt → r52481.toInt = -2) ∧ (0 ≤ x1.toInt → x1.toInt ≤ 3 → 0 ≤ x2.toInt → x2.toInt ≤ 1 → r52481.toInt = (my 0).toInt)) ∧ ((r52481.toInt = -2 → f52482 = (R 0) ∧ f52483 = (R 1)) ∧ (¬ r52481.toInt = -2 → f52482 = upd (R 0) x1.toNatClampNeg x2 ∧ f52483 = upd (R 1) x1.toNatClampNeg (my 0))) := hr52481
  have hV := hr52481.1
  have hTM : TyL (mkM (my 0) (my 1) (my 2) (my 3) (my 4) (my 5) (my 6) f52482 f52483 (R 2)) := ⟨hTM.1, hTM.2.1, hr52481.2.2.1, hr52481.2.2.2.1, hTM.2.2.2.2.1, hTM.2.2.2.2.2⟩
  refine lv_pop hx hb dL_law_997 rfl ?_
  refine lv_goto (tgt := 1486) hx hb dL_law_998 (by decide) ?_
  have hj0 := pa_rel (k := 0) (by decide) hr52472.2.2.2.2.2.1 hr52481.2.2.2.2.1 hr52472.2.2.2.2.2.2.1 hr52481.2.2.2.2.2 (show (cx 7).toInt = ((R 0) 0).toInt from by have zr := hR; omega) (show (cx 11).toInt = ((R 1) 0).toInt from by have zr := hR; omega) (show (cx 0).toInt = (my 0).toInt from by have zr := hR; omega)
  have hj1 := pa_rel (k := 1) (by decide) hr52472.2.2.2.2.2.1 hr52481.2.2.2.2.1 hr52472.2.2.2.2.2.2.2.1 hr52481.2.2.2.2.2 (show (cx 8).toInt = ((R 0) 1).toInt from by have zr := hR; omega) (show (cx 12).toInt = ((R 1) 1).toInt from by have zr := hR; omega) (show (cx 0).toInt = (my 0).toInt from by have zr := hR; omega)
  have hj2 := pa_rel (k := 2) (by decide) hr52472.2.2.2.2.2.1 hr52481.2.2.2.2.1 hr52472.2.2.2.2.2.2.2.2.1 hr52481.2.2.2.2.2 (show (cx 9).toInt = ((R 0) 2).toInt from by have zr := hR; omega) (show (cx 13).toInt = ((R 1) 2).toInt from by have zr := hR; omega) (show (cx 0).toInt = (my 0).toInt from by have zr := hR; omega)
  have hj3 := pa_rel (k := 3) (by decide) hr52472.2.2.2.2.2.1 hr52481.2.2.2.2.1 hr52472.2.2.2.2.2.2.2.2.2 hr52481.2.2.2.2.2 (show (cx 10).toInt = ((R 0) 3).toInt from by have zr := hR; omega) (show (cx 14).toInt = ((R 1) 3).toInt from by have zr := hR; omega) (show (cx 0).toInt = (my 0).toInt from by have zr := hR; omega)
  have hR2 : (cx 0).toInt = (my 0).toInt ∧ (cx 5).toInt = (my 1).toInt ∧ (cx 4).toInt = ((R 2) 1).toInt ∧ (cx 6).toInt = (my 2).toInt ∧ (cx 3).toInt = (my 3).toInt ∧ (cx 2).toInt = ((R 2) 0).toInt ∧ r52473.toInt = (f52482 0).toInt ∧ r52474.toInt = (f52482 1).toInt ∧ r52475.toInt = (f52482 2).toInt ∧ r52476.toInt = (f52482 3).toInt ∧ r52477.toInt = (f52483 0).toInt ∧ r52478.toInt = (f52483 1).toInt ∧ r52479.toInt = (f52483 2).toInt ∧ r52480.toInt = (f52483 3).toInt := ⟨(by have zr := hR; omega), (by have zr := hR; omega), (by have zr := hR; omega), (by have zr := hR; omega), (by have zr := hR; omega), (by have zr := hR; omega), hj0.1, hj1.1, hj2.1, hj3.1, hj0.2, hj1.2, hj2.2, hj3.2⟩
  exact tail na nc N tw (upd (upd (upd (upd (upd (upd (upd (upd cx 7 r52473) 8 r52474) 9 r52475) 10 r52476) 11 r52477) 12 r52478) 13 r52479) 14 r52480) my (sU (sU R 0 f52482) 1 f52483) u v _ _ _ _ _ ⟨hcs, ⟨hTX, hTM, hV, hR2⟩, hP, hD, hS, hl, hth.mono (by omega)⟩
set_option maxHeartbeats 4000000 in
set_option maxRecDepth 100000 in
theorem lc_29 {p : Program} {l : Launch} {e : Env} {s : State} {m : MethodId} {below : List Frame} {meth : Method} {c : Code} {b0 L0 : Nat} {xs : Nat → Int32} {D : va_G} {cI cS : ClassId} {A : Nat → Prop} {H : Heap} {locs : List Loc} {ls : Array Slot} {Q : State → Prop} {a b : Nat → Nat} {na nc N cells slots : Nat} {tw : SU} {cx my : Nat → Int32} {R u v : SU} {i : Int32} (hx : p.tables.exec = Jvm.exec) (hb : c.code = cL_law) (hml : c.maxLocals = 4) (hown : s.vm.findClass RL = some m.cls) (hts : ∀ w ∈ wsL_law, w.before #[Value.ref b0] s = true) (hKK : KK D cI cS s) (hAB0 : AB s s.heap) (hA0 : ∀ q : Nat, q < s.heap.size → ¬ A q) (hX : va_X b0 L0 xs s s.heap) (hbl : b0 < s.heap.size) (hbA : ¬ A b0) (hA : ∀ q : Nat, s.heap.size ≤ q → A q) (hL0 : L0 ≤ 3072) (hi0 : 0 ≤ i.toInt) (hi1 : i.toInt + 6 ≤ (L0 : Int)) (hst : ST D cI cS A s a b b0 i i.toInt na nc N tw cx my R u v H locs ls cells slots) (tail : ∀ (na nc N : Nat) (tw : SU) (cx my : Nat → Int32) (R u v : SU) (H : Heap) (locs : List Loc) (ls : Array Slot) (cells slots : Nat), ST D cI cS A s a b b0 i (i.toInt + 6) na nc N tw cx my R u v H locs ls cells slots → W p l e room_1 s m #[Value.ref b0] below meth c H locs cells slots Q (F0 m 1486 ls [])) : W p l e room_1 s m #[Value.ref b0] below meth c H locs cells slots Q (F0 m 1001 ls []) := by
  obtain ⟨hcs, ⟨hTX, hTM, hV, hR⟩, hP, hD, hS, hl, hth⟩ := hst
  have hN := hcs.hN
  have hK := hKK.1
  have hR : (cx 0).toInt = (my 0).toInt ∧ (cx 5).toInt = (my 1).toInt ∧ (cx 4).toInt = ((R 2) 1).toInt ∧ (cx 6).toInt = (my 2).toInt ∧ (cx 3).toInt = (my 3).toInt ∧ (cx 2).toInt = ((R 2) 0).toInt ∧ (cx 7).toInt = ((R 0) 0).toInt ∧ (cx 8).toInt = ((R 0) 1).toInt ∧ (cx 9).toInt = ((R 0) 2).toInt ∧ (cx 10).toInt = ((R 0) 3).toInt ∧ (cx 11).toInt = ((R 1) 0).toInt ∧ (cx 12).toInt = ((R 1) 1).toInt ∧ (cx 13).toInt = ((R 1) 2).toInt ∧ (cx 14).toInt = ((R 1) 3).toInt := hR
  obtain ⟨x1, hx1⟩ : ∃ z, xs (i + 1).toNatClampNeg = z := ⟨_, rfl⟩
  obtain ⟨x2, hx2⟩ : ∃ z, xs (i + 2).toNatClampNeg = z := ⟨_, rfl⟩
  obtain ⟨x3, hx3⟩ : ∃ z, xs (i + 3).toNatClampNeg = z := ⟨_, rfl⟩
  obtain ⟨x4, hx4⟩ : ∃ z, xs (i + 4).toNatClampNeg = z := ⟨_, rfl⟩
  obtain ⟨x5, hx5⟩ : ∃ z, xs (i + 5).toNatClampNeg = z := ⟨_, rfl⟩
  refine lv_aload_n hx hb dL_law_1001 rfl (lv_at hl 2 rfl) ?_
  refine lv_aload_n hx hb dL_law_1002 rfl (lv_at hl 3 rfl) ?_
  refine lv_iload_n hx hb dL_law_1003 rfl (lv_at hl 0 rfl) ?_
  refine lv_iconst (v := 1) hx hb dL_law_1004 (by decide) ?_
  refine lv_iadd hx hb dL_law_1005 ?_
  refine va_sld hx hb hX hbl hbA hS (lw_vin hi0 hi1 hL0 (by decide)) dL_law_1006 ?_
  refine lz_top (y := x1) hx1 ?_
  refine lv_aload_n hx hb dL_law_1007 rfl (lv_at hl 3 rfl) ?_
  refine lv_iload_n hx hb dL_law_1008 rfl (lv_at hl 0 rfl) ?_
  refine lv_iconst (v := 2) hx hb dL_law_1009 (by decide) ?_
  refine lv_iadd hx hb dL_law_1010 ?_
  refine va_sld hx hb hX hbl hbA hS (lw_vin hi0 hi1 hL0 (by decide)) dL_law_1011 ?_
  refine lz_top (y := x2) hx2 ?_
  refine lq_X (S := Int32 × SU) (fna := fun _ => na) (fnc := fun _ => nc) (fN := fun _ => N) (fL := fun q => mkL tw (cx 0) (cx 1) (cx 2) (cx 3) (cx 4) (cx 5) q.1 (cx 7) (cx 8) (cx 9) (cx 10) (cx 11) (cx 12) (cx 13) (cx 14)) (fu := fun q => q.2) (As := [.int x1, .int x2]) (rest := []) ⟨hx, hb, hml, hown, hts⟩ (k_X11_feed l D cI cS _ a na nc N tw (cx 0) (cx 1) (cx 2) (cx 3) (cx 4) (cx 5) (cx 6) (cx 7) (cx 8) (cx 9) (cx 10) (cx 11) (cx 12) (cx 13) (cx 14) u hTX hN x1 x2 ) hKK hP hD hS hA (cwV 2 hts gL_law_X11_feed rfl rfl rfl (by decide +kernel) ⟨Nat.le_of_ble_eq_true rfl, Nat.le_of_ble_eq_true rfl⟩) rfl hl.1 rfl (Nat.le_of_ble_eq_true rfl) dL_law_1012 (CSL.hf hcs) (fun r52484 q9 H locs hr52484 hP hD hS => ?_)
  obtain ⟨r52485, u⟩ := q9
  have hr52484 : Rg (-4) 120 r52484 ∧ Rg 0 120 r52485 ∧ ((x2.toInt < 1 ∨ 4 < x2.toInt → r52484.toInt = -2 ∧ r52485.toInt = (cx 6).toInt) ∧ (1 ≤ x2.toInt → x2.toInt ≤ 4 → 120 < (cx 6).toInt + x2.toInt → r52484.toInt = -4 ∧ r52485.toInt = (cx 6).toInt) ∧ (1 ≤ x2.toInt → x2.toInt ≤ 4 → (cx 6).toInt + x2.toInt ≤ 120 → r52484.toInt = (cx 6).toInt + x2.toInt ∧ r52485.toInt = (cx 6).toInt + x2.toInt)) := hr52484
  have hTX : TyX (mkL tw (cx 0) (cx 1) (cx 2) (cx 3) (cx 4) (cx 5) r52485 (cx 7) (cx 8) (cx 9) (cx 10) (cx 11) (cx 12) (cx 13) (cx 14)) := ⟨hTX.1, hTX.2.1, hTX.2.2.1, (rg_w hr52484.2.1 (by decide) (by decide)), hTX.2.2.2.2.1, hTX.2.2.2.2.2.1, hTX.2.2.2.2.2.2.1, hTX.2.2.2.2.2.2.2⟩
  refine lv_pop hx hb dL_law_1015 rfl ?_
  refine lv_aload_n hx hb dL_law_1016 rfl (lv_at hl 1 rfl) ?_
  refine lv_aload_n hx hb dL_law_1017 rfl (lv_at hl 3 rfl) ?_
  refine lv_iload_n hx hb dL_law_1018 rfl (lv_at hl 0 rfl) ?_
  refine lv_iconst (v := 1) hx hb dL_law_1019 (by decide) ?_
  refine lv_iadd hx hb dL_law_1020 ?_
  refine va_sld hx hb hX hbl hbA hS (lw_vin hi0 hi1 hL0 (by decide)) dL_law_1021 ?_
  refine lz_top (y := x1) hx1 ?_
  refine lv_aload_n hx hb dL_law_1022 rfl (lv_at hl 3 rfl) ?_
  refine lv_iload_n hx hb dL_law_1023 rfl (lv_at hl 0 rfl) ?_
  refine lv_iconst (v := 2) hx hb dL_law_1024 (by decide) ?_
  refine lv_iadd hx hb dL_law_1025 ?_
  refine va_sld hx hb hX hbl hbA hS (lw_vin hi0 hi1 hL0 (by decide)) dL_law_1026 ?_
  refine lz_top (y := x2) hx2 ?_
  refine lq_M (S := Int32 × SU) (fL := fun q => mkM (my 0) (my 1) q.1 (my 3) (my 4) (my 5) (my 6) (R 0) (R 1) (R 2)) (fu := fun q => q.2) (As := [.int x1, .int x2]) (rest := []) ⟨hx, hb, hml, hown, hts⟩ (w_X12_feed l D cI cS _ b (my 0) (my 1) (my 2) (my 3) (my 4) (my 5) (my 6) (R 0) (R 1) (R 2) v hTM hV x1 x2 ) hKK hP hD hS hA (cwV 2 hts gL_law_X12_feed rfl rfl rfl (by decide +kernel) ⟨Nat.le_of_ble_eq_true rfl, Nat.le_of_ble_eq_true rfl⟩) rfl hl.1 rfl (Nat.le_of_ble_eq_true rfl) dL_law_1027 (CSL.hf hcs) (fun r52486 q9 H locs hr52486 hP hD hS => ?_)
  obtain ⟨r52487, v⟩ := q9
  have hr52486 : TyV v ∧ Rg (-4) 120 r52486 ∧ Rg 0 120 r52487 ∧ ((x2.toInt < 1 ∨ 4 < x2.toInt → r52486.toInt = -2 ∧ r52487.toInt = (my 2).toInt) ∧ (1 ≤ x2.toInt → x2.toInt ≤ 4 → 120 < (my 2).toInt + x2.toInt → r52486.toInt = -4 ∧ r52487.toInt = (my 2).toInt) ∧ (1 ≤ x2.toInt → x2.toInt ≤ 4 → (my 2).toInt + x2.toInt ≤ 120 → r52486.toInt = (my 2).toInt + x2.toInt ∧ r52487.toInt = (my 2).toInt + x2.toInt)) := hr52486
  have hV := hr52486.1
  have hTM : TyL (mkM (my 0) (my 1) r52487 (my 3) (my 4) (my 5) (my 6) (R 0) (R 1) (R 2)) := ⟨hTM.1, (rg_w hr52486.2.2.1 (by decide) (by decide)), hTM.2.2.1, hTM.2.2.2.1, hTM.2.2.2.2.1, hTM.2.2.2.2.2⟩
  refine lv_pop hx hb dL_law_1030 rfl ?_
  refine lv_goto (tgt := 1486) hx hb dL_law_1031 (by decide) ?_
  have hR2 : (cx 0).toInt = (my 0).toInt ∧ (cx 5).toInt = (my 1).toInt ∧ (cx 4).toInt = ((R 2) 1).toInt ∧ r52485.toInt = r52487.toInt ∧ (cx 3).toInt = (my 3).toInt ∧ (cx 2).toInt = ((R 2) 0).toInt ∧ (cx 7).toInt = ((R 0) 0).toInt ∧ (cx 8).toInt = ((R 0) 1).toInt ∧ (cx 9).toInt = ((R 0) 2).toInt ∧ (cx 10).toInt = ((R 0) 3).toInt ∧ (cx 11).toInt = ((R 1) 0).toInt ∧ (cx 12).toInt = ((R 1) 1).toInt ∧ (cx 13).toInt = ((R 1) 2).toInt ∧ (cx 14).toInt = ((R 1) 3).toInt := by have zr := hR; have zz0 := hr52484.2.2; have zz1 := hr52486.2.2.2; refine ⟨by omega, by omega, by omega, by omega, by omega, by omega, by omega, by omega, by omega, by omega, by omega, by omega, by omega, by omega⟩
  exact tail na nc N tw (upd cx 6 r52485) (upd my 2 r52487) R u v _ _ _ _ _ ⟨hcs, ⟨hTX, hTM, hV, hR2⟩, hP, hD, hS, hl, hth.mono (by omega)⟩
set_option maxHeartbeats 4000000 in
set_option maxRecDepth 100000 in
theorem lc_30 {p : Program} {l : Launch} {e : Env} {s : State} {m : MethodId} {below : List Frame} {meth : Method} {c : Code} {b0 L0 : Nat} {xs : Nat → Int32} {D : va_G} {cI cS : ClassId} {A : Nat → Prop} {H : Heap} {locs : List Loc} {ls : Array Slot} {Q : State → Prop} {a b : Nat → Nat} {na nc N cells slots : Nat} {tw : SU} {cx my : Nat → Int32} {R u v : SU} {i : Int32} (hx : p.tables.exec = Jvm.exec) (hb : c.code = cL_law) (hml : c.maxLocals = 4) (hown : s.vm.findClass RL = some m.cls) (hts : ∀ w ∈ wsL_law, w.before #[Value.ref b0] s = true) (hKK : KK D cI cS s) (hAB0 : AB s s.heap) (hA0 : ∀ q : Nat, q < s.heap.size → ¬ A q) (hX : va_X b0 L0 xs s s.heap) (hbl : b0 < s.heap.size) (hbA : ¬ A b0) (hA : ∀ q : Nat, s.heap.size ≤ q → A q) (hL0 : L0 ≤ 3072) (hi0 : 0 ≤ i.toInt) (hi1 : i.toInt + 6 ≤ (L0 : Int)) (hst : ST D cI cS A s a b b0 i i.toInt na nc N tw cx my R u v H locs ls cells slots) (tail : ∀ (na nc N : Nat) (tw : SU) (cx my : Nat → Int32) (R u v : SU) (H : Heap) (locs : List Loc) (ls : Array Slot) (cells slots : Nat), ST D cI cS A s a b b0 i (i.toInt + 6) na nc N tw cx my R u v H locs ls cells slots → W p l e room_1 s m #[Value.ref b0] below meth c H locs cells slots Q (F0 m 1486 ls [])) : W p l e room_1 s m #[Value.ref b0] below meth c H locs cells slots Q (F0 m 1034 ls []) := by
  obtain ⟨hcs, ⟨hTX, hTM, hV, hR⟩, hP, hD, hS, hl, hth⟩ := hst
  have hN := hcs.hN
  have hK := hKK.1
  have hR : (cx 0).toInt = (my 0).toInt ∧ (cx 5).toInt = (my 1).toInt ∧ (cx 4).toInt = ((R 2) 1).toInt ∧ (cx 6).toInt = (my 2).toInt ∧ (cx 3).toInt = (my 3).toInt ∧ (cx 2).toInt = ((R 2) 0).toInt ∧ (cx 7).toInt = ((R 0) 0).toInt ∧ (cx 8).toInt = ((R 0) 1).toInt ∧ (cx 9).toInt = ((R 0) 2).toInt ∧ (cx 10).toInt = ((R 0) 3).toInt ∧ (cx 11).toInt = ((R 1) 0).toInt ∧ (cx 12).toInt = ((R 1) 1).toInt ∧ (cx 13).toInt = ((R 1) 2).toInt ∧ (cx 14).toInt = ((R 1) 3).toInt := hR
  obtain ⟨x1, hx1⟩ : ∃ z, xs (i + 1).toNatClampNeg = z := ⟨_, rfl⟩
  obtain ⟨x2, hx2⟩ : ∃ z, xs (i + 2).toNatClampNeg = z := ⟨_, rfl⟩
  obtain ⟨x3, hx3⟩ : ∃ z, xs (i + 3).toNatClampNeg = z := ⟨_, rfl⟩
  obtain ⟨x4, hx4⟩ : ∃ z, xs (i + 4).toNatClampNeg = z := ⟨_, rfl⟩
  obtain ⟨x5, hx5⟩ : ∃ z, xs (i + 5).toNatClampNeg = z := ⟨_, rfl⟩
  refine lv_aload_n hx hb dL_law_1034 rfl (lv_at hl 2 rfl) ?_
  refine lq_X (S := Int32 × SU) (fna := fun _ => na) (fnc := fun _ => nc) (fN := fun _ => N) (fL := fun q => mkL tw (cx 0) (cx 1) (cx 2) (cx 3) (cx 4) (cx 5) q.1 (cx 7) (cx 8) (cx 9) (cx 10) (cx 11) (cx 12) (cx 13) (cx 14)) (fu := fun q => q.2) (As := []) (rest := []) ⟨hx, hb, hml, hown, hts⟩ (k_X11_wipe l D cI cS _ a na nc N tw (cx 0) (cx 1) (cx 2) (cx 3) (cx 4) (cx 5) (cx 6) (cx 7) (cx 8) (cx 9) (cx 10) (cx 11) (cx 12) (cx 13) (cx 14) u hTX hN  ) hKK hP hD hS hA (cwV 0 hts gL_law_X11_wipe rfl rfl rfl (by decide +kernel) ⟨Nat.le_of_ble_eq_true rfl, Nat.le_of_ble_eq_true rfl⟩) rfl hl.1 rfl (Nat.le_of_ble_eq_true rfl) dL_law_1035 (CSL.hf hcs) (fun r52488 q9 H locs hr52488 hP hD hS => ?_)
  obtain ⟨r52489, u⟩ := q9
  have hr52488 : Rg 0 120 r52488 ∧ Rg 0 0 r52489 ∧ (r52488.toInt = (cx 6).toInt ∧ r52489.toInt = 0) := hr52488
  have hTX : TyX (mkL tw (cx 0) (cx 1) (cx 2) (cx 3) (cx 4) (cx 5) r52489 (cx 7) (cx 8) (cx 9) (cx 10) (cx 11) (cx 12) (cx 13) (cx 14)) := ⟨hTX.1, hTX.2.1, hTX.2.2.1, (rg_w hr52488.2.1 (by decide) (by decide)), hTX.2.2.2.2.1, hTX.2.2.2.2.2.1, hTX.2.2.2.2.2.2.1, hTX.2.2.2.2.2.2.2⟩
  refine lv_pop hx hb dL_law_1038 rfl ?_
  refine lv_aload_n hx hb dL_law_1039 rfl (lv_at hl 1 rfl) ?_
  refine lq_M (S := Int32 × SU) (fL := fun q => mkM (my 0) (my 1) q.1 (my 3) (my 4) (my 5) (my 6) (R 0) (R 1) (R 2)) (fu := fun q => q.2) (As := []) (rest := []) ⟨hx, hb, hml, hown, hts⟩ (w_X12_wipe l D cI cS _ b (my 0) (my 1) (my 2) (my 3) (my 4) (my 5) (my 6) (R 0) (R 1) (R 2) v hTM hV  ) hKK hP hD hS hA (cwV 0 hts gL_law_X12_wipe rfl rfl rfl (by decide +kernel) ⟨Nat.le_of_ble_eq_true rfl, Nat.le_of_ble_eq_true rfl⟩) rfl hl.1 rfl (Nat.le_of_ble_eq_true rfl) dL_law_1040 (CSL.hf hcs) (fun r52490 q9 H locs hr52490 hP hD hS => ?_)
  obtain ⟨r52491, v⟩ := q9
  have hr52490 : TyV v ∧ Rg 0 120 r52490 ∧ Rg 0 0 r52491 ∧ (r52490.toInt = (my 2).toInt ∧ r52491.toInt = 0) := hr52490
  have hV := hr52490.1
  have hTM : TyL (mkM (my 0) (my 1) r52491 (my 3) (my 4) (my 5) (my 6) (R 0) (R 1) (R 2)) := ⟨hTM.1, (rg_w hr52490.2.2.1 (by decide) (by decide)), hTM.2.2.1, hTM.2.2.2.1, hTM.2.2.2.2.1, hTM.2.2.2.2.2⟩
  refine lv_pop hx hb dL_law_1043 rfl ?_
  refine lv_goto (tgt := 1486) hx hb dL_law_1044 (by decide) ?_
  have hR2 : (cx 0).toInt = (my 0).toInt ∧ (cx 5).toInt = (my 1).toInt ∧ (cx 4).toInt = ((R 2) 1).toInt ∧ r52489.toInt = r52491.toInt ∧ (cx 3).toInt = (my 3).toInt ∧ (cx 2).toInt = ((R 2) 0).toInt ∧ (cx 7).toInt = ((R 0) 0).toInt ∧ (cx 8).toInt = ((R 0) 1).toInt ∧ (cx 9).toInt = ((R 0) 2).toInt ∧ (cx 10).toInt = ((R 0) 3).toInt ∧ (cx 11).toInt = ((R 1) 0).toInt ∧ (cx 12).toInt = ((R 1) 1).toInt ∧ (cx 13).toInt = ((R 1) 2).toInt ∧ (cx 14).toInt = ((R 1) 3).toInt := by have zr := hR; have zz0 := hr52488.2.2; have zz1 := hr52490.2.2.2; refine ⟨by omega, by omega, by omega, by omega, by omega, by omega, by omega, by omega, by omega, by omega, by omega, by omega, by omega, by omega⟩
  exact tail na nc N tw (upd cx 6 r52489) (upd my 2 r52491) R u v _ _ _ _ _ ⟨hcs, ⟨hTX, hTM, hV, hR2⟩, hP, hD, hS, hl, hth.mono (by omega)⟩
set_option maxHeartbeats 4000000 in
set_option maxRecDepth 100000 in
theorem lc_31 {p : Program} {l : Launch} {e : Env} {s : State} {m : MethodId} {below : List Frame} {meth : Method} {c : Code} {b0 L0 : Nat} {xs : Nat → Int32} {D : va_G} {cI cS : ClassId} {A : Nat → Prop} {H : Heap} {locs : List Loc} {ls : Array Slot} {Q : State → Prop} {a b : Nat → Nat} {na nc N cells slots : Nat} {tw : SU} {cx my : Nat → Int32} {R u v : SU} {i : Int32} (hx : p.tables.exec = Jvm.exec) (hb : c.code = cL_law) (hml : c.maxLocals = 4) (hown : s.vm.findClass RL = some m.cls) (hts : ∀ w ∈ wsL_law, w.before #[Value.ref b0] s = true) (hKK : KK D cI cS s) (hAB0 : AB s s.heap) (hA0 : ∀ q : Nat, q < s.heap.size → ¬ A q) (hX : va_X b0 L0 xs s s.heap) (hbl : b0 < s.heap.size) (hbA : ¬ A b0) (hA : ∀ q : Nat, s.heap.size ≤ q → A q) (hL0 : L0 ≤ 3072) (hi0 : 0 ≤ i.toInt) (hi1 : i.toInt + 6 ≤ (L0 : Int)) (hst : ST D cI cS A s a b b0 i i.toInt na nc N tw cx my R u v H locs ls cells slots) (tail : ∀ (na nc N : Nat) (tw : SU) (cx my : Nat → Int32) (R u v : SU) (H : Heap) (locs : List Loc) (ls : Array Slot) (cells slots : Nat), ST D cI cS A s a b b0 i (i.toInt + 6) na nc N tw cx my R u v H locs ls cells slots → W p l e room_1 s m #[Value.ref b0] below meth c H locs cells slots Q (F0 m 1486 ls [])) : W p l e room_1 s m #[Value.ref b0] below meth c H locs cells slots Q (F0 m 1047 ls []) := by
  obtain ⟨hcs, ⟨hTX, hTM, hV, hR⟩, hP, hD, hS, hl, hth⟩ := hst
  have hN := hcs.hN
  have hK := hKK.1
  have hR : (cx 0).toInt = (my 0).toInt ∧ (cx 5).toInt = (my 1).toInt ∧ (cx 4).toInt = ((R 2) 1).toInt ∧ (cx 6).toInt = (my 2).toInt ∧ (cx 3).toInt = (my 3).toInt ∧ (cx 2).toInt = ((R 2) 0).toInt ∧ (cx 7).toInt = ((R 0) 0).toInt ∧ (cx 8).toInt = ((R 0) 1).toInt ∧ (cx 9).toInt = ((R 0) 2).toInt ∧ (cx 10).toInt = ((R 0) 3).toInt ∧ (cx 11).toInt = ((R 1) 0).toInt ∧ (cx 12).toInt = ((R 1) 1).toInt ∧ (cx 13).toInt = ((R 1) 2).toInt ∧ (cx 14).toInt = ((R 1) 3).toInt := hR
  obtain ⟨x1, hx1⟩ : ∃ z, xs (i + 1).toNatClampNeg = z := ⟨_, rfl⟩
  obtain ⟨x2, hx2⟩ : ∃ z, xs (i + 2).toNatClampNeg = z := ⟨_, rfl⟩
  obtain ⟨x3, hx3⟩ : ∃ z, xs (i + 3).toNatClampNeg = z := ⟨_, rfl⟩
  obtain ⟨x4, hx4⟩ : ∃ z, xs (i + 4).toNatClampNeg = z := ⟨_, rfl⟩
  obtain ⟨x5, hx5⟩ : ∃ z, xs (i + 5).toNatClampNeg = z := ⟨_, rfl⟩
  refine lv_aload_n hx hb dL_law_1047 rfl (lv_at hl 2 rfl) ?_
  refine lq_X (S := Int32 × SU) (fna := fun _ => na) (fnc := fun _ => nc) (fN := fun _ => N) (fL := fun q => mkL tw (cx 0) (cx 1) (cx 2) (cx 3) (cx 4) (cx 5) q.1 (cx 7) (cx 8) (cx 9) (cx 10) (cx 11) (cx 12) (cx 13) (cx 14)) (fu := fun q => q.2) (As := []) (rest := []) ⟨hx, hb, hml, hown, hts⟩ (k_X11_text l D cI cS _ a na nc N tw (cx 0) (cx 1) (cx 2) (cx 3) (cx 4) (cx 5) (cx 6) (cx 7) (cx 8) (cx 9) (cx 10) (cx 11) (cx 12) (cx 13) (cx 14) u hTX hN  ) hKK hP hD hS hA (cwV 0 hts gL_law_X11_text rfl rfl rfl (by decide +kernel) ⟨Nat.le_of_ble_eq_true rfl, Nat.le_of_ble_eq_true rfl⟩) rfl hl.1 rfl (Nat.le_of_ble_eq_true rfl) dL_law_1048 (CSL.hf hcs) (fun r52492 q9 H locs hr52492 hP hD hS => ?_)
  obtain ⟨r52493, u⟩ := q9
  have hr52492 : Rg (-2147483648) 2147483647 r52492 ∧ Rg 0 0 r52493 ∧ (r52493.toInt = 0) := hr52492
  have hTX : TyX (mkL tw (cx 0) (cx 1) (cx 2) (cx 3) (cx 4) (cx 5) r52493 (cx 7) (cx 8) (cx 9) (cx 10) (cx 11) (cx 12) (cx 13) (cx 14)) := ⟨hTX.1, hTX.2.1, hTX.2.2.1, (rg_w hr52492.2.1 (by decide) (by decide)), hTX.2.2.2.2.1, hTX.2.2.2.2.2.1, hTX.2.2.2.2.2.2.1, hTX.2.2.2.2.2.2.2⟩
  refine lv_pop hx hb dL_law_1051 rfl ?_
  refine lv_aload_n hx hb dL_law_1052 rfl (lv_at hl 1 rfl) ?_
  refine lq_M (S := Int32 × Int32 × Int32 × Int32 × Int32 × Int32 × (Nat → Int32) × SU) (fL := fun q => mkM q.1 q.2.1 q.2.2.1 (my 3) q.2.2.2.1 q.2.2.2.2.1 q.2.2.2.2.2.1 (R 0) (R 1) q.2.2.2.2.2.2.1) (fu := fun q => q.2.2.2.2.2.2.2) (As := []) (rest := []) ⟨hx, hb, hml, hown, hts⟩ (w_X12_text l D cI cS _ b (my 0) (my 1) (my 2) (my 3) (my 4) (my 5) (my 6) (R 0) (R 1) (R 2) v hTM hV  ) hKK hP hD hS hA (cwV 0 hts gL_law_X12_text rfl rfl rfl (by decide +kernel) ⟨Nat.le_of_ble_eq_true rfl, Nat.le_of_ble_eq_true rfl⟩) rfl hl.1 rfl (Nat.le_of_ble_eq_true rfl) dL_law_1053 (CSL.hf hcs) (fun r52494 q9 H locs hr52494 hP hD hS => ?_)
  obtain ⟨r52495, r52496, r52497, r52498, r52499, r52500, f52501, v⟩ := q9
  have hr52494 : TyV v ∧ Rg (-2147483648) 2147483647 r52494 ∧ Rg 0 12 r52495 ∧ Rg 0 0 r52497 ∧ Rg 0 120 r52498 ∧ Kp f52501 ∧ (r52495.toInt = (my 0).toInt ∧ r52496.toInt = (my 1).toInt ∧ (f52501 0).toInt = ((R 2) 0).toInt ∧ (f52501 1).toInt = ((R 2) 1).toInt ∧ r52497.toInt = 0) := hr52494
  have hV := hr52494.1
  have hTM : TyL (mkM r52495 r52496 r52497 (my 3) r52498 r52499 r52500 (R 0) (R 1) f52501) := ⟨(rg_w hr52494.2.2.1 (by decide) (by decide)), (rg_w hr52494.2.2.2.1 (by decide) (by decide)), hTM.2.2.1, hTM.2.2.2.1, hr52494.2.2.2.2.2.1, (rg_w hr52494.2.2.2.2.1 (by decide) (by decide))⟩
  refine lv_pop hx hb dL_law_1056 rfl ?_
  refine lv_goto (tgt := 1486) hx hb dL_law_1057 (by decide) ?_
  have hR2 : (cx 0).toInt = r52495.toInt ∧ (cx 5).toInt = r52496.toInt ∧ (cx 4).toInt = (f52501 1).toInt ∧ r52493.toInt = r52497.toInt ∧ (cx 3).toInt = (my 3).toInt ∧ (cx 2).toInt = (f52501 0).toInt ∧ (cx 7).toInt = ((R 0) 0).toInt ∧ (cx 8).toInt = ((R 0) 1).toInt ∧ (cx 9).toInt = ((R 0) 2).toInt ∧ (cx 10).toInt = ((R 0) 3).toInt ∧ (cx 11).toInt = ((R 1) 0).toInt ∧ (cx 12).toInt = ((R 1) 1).toInt ∧ (cx 13).toInt = ((R 1) 2).toInt ∧ (cx 14).toInt = ((R 1) 3).toInt := by have zr := hR; have zz0 := hr52492.2.2; have zz1 := hr52494.2.2.2.2.2.2; refine ⟨by omega, by omega, by omega, by omega, by omega, by omega, by omega, by omega, by omega, by omega, by omega, by omega, by omega, by omega⟩
  exact tail na nc N tw (upd cx 6 r52493) (upd (upd (upd (upd (upd (upd my 0 r52495) 1 r52496) 2 r52497) 4 r52498) 5 r52499) 6 r52500) (sU R 2 f52501) u v _ _ _ _ _ ⟨hcs, ⟨hTX, hTM, hV, hR2⟩, hP, hD, hS, hl, hth.mono (by omega)⟩
set_option maxHeartbeats 4000000 in
set_option maxRecDepth 100000 in
theorem lc_32 {p : Program} {l : Launch} {e : Env} {s : State} {m : MethodId} {below : List Frame} {meth : Method} {c : Code} {b0 L0 : Nat} {xs : Nat → Int32} {D : va_G} {cI cS : ClassId} {A : Nat → Prop} {H : Heap} {locs : List Loc} {ls : Array Slot} {Q : State → Prop} {a b : Nat → Nat} {na nc N cells slots : Nat} {tw : SU} {cx my : Nat → Int32} {R u v : SU} {i : Int32} (hx : p.tables.exec = Jvm.exec) (hb : c.code = cL_law) (hml : c.maxLocals = 4) (hown : s.vm.findClass RL = some m.cls) (hts : ∀ w ∈ wsL_law, w.before #[Value.ref b0] s = true) (hKK : KK D cI cS s) (hAB0 : AB s s.heap) (hA0 : ∀ q : Nat, q < s.heap.size → ¬ A q) (hX : va_X b0 L0 xs s s.heap) (hbl : b0 < s.heap.size) (hbA : ¬ A b0) (hA : ∀ q : Nat, s.heap.size ≤ q → A q) (hL0 : L0 ≤ 3072) (hi0 : 0 ≤ i.toInt) (hi1 : i.toInt + 6 ≤ (L0 : Int)) (hst : ST D cI cS A s a b b0 i i.toInt na nc N tw cx my R u v H locs ls cells slots) (tail : ∀ (na nc N : Nat) (tw : SU) (cx my : Nat → Int32) (R u v : SU) (H : Heap) (locs : List Loc) (ls : Array Slot) (cells slots : Nat), ST D cI cS A s a b b0 i (i.toInt + 6) na nc N tw cx my R u v H locs ls cells slots → W p l e room_1 s m #[Value.ref b0] below meth c H locs cells slots Q (F0 m 1486 ls [])) : W p l e room_1 s m #[Value.ref b0] below meth c H locs cells slots Q (F0 m 1060 ls []) := by
  obtain ⟨hcs, ⟨hTX, hTM, hV, hR⟩, hP, hD, hS, hl, hth⟩ := hst
  have hN := hcs.hN
  have hK := hKK.1
  have hR : (cx 0).toInt = (my 0).toInt ∧ (cx 5).toInt = (my 1).toInt ∧ (cx 4).toInt = ((R 2) 1).toInt ∧ (cx 6).toInt = (my 2).toInt ∧ (cx 3).toInt = (my 3).toInt ∧ (cx 2).toInt = ((R 2) 0).toInt ∧ (cx 7).toInt = ((R 0) 0).toInt ∧ (cx 8).toInt = ((R 0) 1).toInt ∧ (cx 9).toInt = ((R 0) 2).toInt ∧ (cx 10).toInt = ((R 0) 3).toInt ∧ (cx 11).toInt = ((R 1) 0).toInt ∧ (cx 12).toInt = ((R 1) 1).toInt ∧ (cx 13).toInt = ((R 1) 2).toInt ∧ (cx 14).toInt = ((R 1) 3).toInt := hR
  obtain ⟨x1, hx1⟩ : ∃ z, xs (i + 1).toNatClampNeg = z := ⟨_, rfl⟩
  obtain ⟨x2, hx2⟩ : ∃ z, xs (i + 2).toNatClampNeg = z := ⟨_, rfl⟩
  obtain ⟨x3, hx3⟩ : ∃ z, xs (i + 3).toNatClampNeg = z := ⟨_, rfl⟩
  obtain ⟨x4, hx4⟩ : ∃ z, xs (i + 4).toNatClampNeg = z := ⟨_, rfl⟩
  obtain ⟨x5, hx5⟩ : ∃ z, xs (i + 5).toNatClampNeg = z := ⟨_, rfl⟩
  refine lv_aload_n hx hb dL_law_1060 rfl (lv_at hl 2 rfl) ?_
  refine lv_aload_n hx hb dL_law_1061 rfl (lv_at hl 3 rfl) ?_
  refine lv_iload_n hx hb dL_law_1062 rfl (lv_at hl 0 rfl) ?_
  refine lv_iconst (v := 1) hx hb dL_law_1063 (by decide) ?_
  refine lv_iadd hx hb dL_law_1064 ?_
  refine va_sld hx hb hX hbl hbA hS (lw_vin hi0 hi1 hL0 (by decide)) dL_law_1065 ?_
  refine lz_top (y := x1) hx1 ?_
  refine lq_X (S := Int32 × SU) (fna := fun _ => na) (fnc := fun _ => nc) (fN := fun _ => N) (fL := fun q => mkL tw (cx 0) (cx 1) (cx 2) (cx 3) (cx 4) q.1 (cx 6) (cx 7) (cx 8) (cx 9) (cx 10) (cx 11) (cx 12) (cx 13) (cx 14)) (fu := fun q => q.2) (As := [.int x1]) (rest := []) ⟨hx, hb, hml, hown, hts⟩ (k_X11_seed l D cI cS _ a na nc N tw (cx 0) (cx 1) (cx 2) (cx 3) (cx 4) (cx 5) (cx 6) (cx 7) (cx 8) (cx 9) (cx 10) (cx 11) (cx 12) (cx 13) (cx 14) u hTX hN x1 ) hKK hP hD hS hA (cwV 1 hts gL_law_X11_seed rfl rfl rfl (by decide +kernel) ⟨Nat.le_of_ble_eq_true rfl, Nat.le_of_ble_eq_true rfl⟩) rfl hl.1 rfl (Nat.le_of_ble_eq_true rfl) dL_law_1066 (CSL.hf hcs) (fun r52502 q9 H locs hr52502 hP hD hS => ?_)
  obtain ⟨r52503, u⟩ := q9
  have hr52502 : Rg (-2147483648) 2147483647 r52502 ∧ (r52502.toInt = (cx 5).toInt ∧ r52503.toInt = x1.toInt) := hr52502
  have hTX : TyX (mkL tw (cx 0) (cx 1) (cx 2) (cx 3) (cx 4) r52503 (cx 6) (cx 7) (cx 8) (cx 9) (cx 10) (cx 11) (cx 12) (cx 13) (cx 14)) := ⟨hTX.1, hTX.2.1, hTX.2.2.1, hTX.2.2.2.1, hTX.2.2.2.2.1, hTX.2.2.2.2.2.1, hTX.2.2.2.2.2.2.1, hTX.2.2.2.2.2.2.2⟩
  refine lv_pop hx hb dL_law_1069 rfl ?_
  refine lv_aload_n hx hb dL_law_1070 rfl (lv_at hl 1 rfl) ?_
  refine lv_aload_n hx hb dL_law_1071 rfl (lv_at hl 3 rfl) ?_
  refine lv_iload_n hx hb dL_law_1072 rfl (lv_at hl 0 rfl) ?_
  refine lv_iconst (v := 1) hx hb dL_law_1073 (by decide) ?_
  refine lv_iadd hx hb dL_law_1074 ?_
  refine va_sld hx hb hX hbl hbA hS (lw_vin hi0 hi1 hL0 (by decide)) dL_law_1075 ?_
  refine lz_top (y := x1) hx1 ?_
  refine lq_M (S := Int32 × SU) (fL := fun q => mkM (my 0) q.1 (my 2) (my 3) (my 4) (my 5) (my 6) (R 0) (R 1) (R 2)) (fu := fun q => q.2) (As := [.int x1]) (rest := []) ⟨hx, hb, hml, hown, hts⟩ (w_X12_seed l D cI cS _ b (my 0) (my 1) (my 2) (my 3) (my 4) (my 5) (my 6) (R 0) (R 1) (R 2) v hTM hV x1 ) hKK hP hD hS hA (cwV 1 hts gL_law_X12_seed rfl rfl rfl (by decide +kernel) ⟨Nat.le_of_ble_eq_true rfl, Nat.le_of_ble_eq_true rfl⟩) rfl hl.1 rfl (Nat.le_of_ble_eq_true rfl) dL_law_1076 (CSL.hf hcs) (fun r52504 q9 H locs hr52504 hP hD hS => ?_)
  obtain ⟨r52505, v⟩ := q9
  have hr52504 : TyV v ∧ Rg (-2147483648) 2147483647 r52504 ∧ (r52504.toInt = (my 1).toInt ∧ r52505.toInt = x1.toInt) := hr52504
  have hV := hr52504.1
  have hTM : TyL (mkM (my 0) r52505 (my 2) (my 3) (my 4) (my 5) (my 6) (R 0) (R 1) (R 2)) := ⟨hTM.1, hTM.2.1, hTM.2.2.1, hTM.2.2.2.1, hTM.2.2.2.2.1, hTM.2.2.2.2.2⟩
  refine lv_pop hx hb dL_law_1079 rfl ?_
  refine lv_goto (tgt := 1486) hx hb dL_law_1080 (by decide) ?_
  have hR2 : (cx 0).toInt = (my 0).toInt ∧ r52503.toInt = r52505.toInt ∧ (cx 4).toInt = ((R 2) 1).toInt ∧ (cx 6).toInt = (my 2).toInt ∧ (cx 3).toInt = (my 3).toInt ∧ (cx 2).toInt = ((R 2) 0).toInt ∧ (cx 7).toInt = ((R 0) 0).toInt ∧ (cx 8).toInt = ((R 0) 1).toInt ∧ (cx 9).toInt = ((R 0) 2).toInt ∧ (cx 10).toInt = ((R 0) 3).toInt ∧ (cx 11).toInt = ((R 1) 0).toInt ∧ (cx 12).toInt = ((R 1) 1).toInt ∧ (cx 13).toInt = ((R 1) 2).toInt ∧ (cx 14).toInt = ((R 1) 3).toInt := by have zr := hR; have zz0 := hr52502.2; have zz1 := hr52504.2.2; refine ⟨by omega, by omega, by omega, by omega, by omega, by omega, by omega, by omega, by omega, by omega, by omega, by omega, by omega, by omega⟩
  exact tail na nc N tw (upd cx 5 r52503) (upd my 1 r52505) R u v _ _ _ _ _ ⟨hcs, ⟨hTX, hTM, hV, hR2⟩, hP, hD, hS, hl, hth.mono (by omega)⟩
set_option maxHeartbeats 4000000 in
set_option maxRecDepth 100000 in
theorem lc_33 {p : Program} {l : Launch} {e : Env} {s : State} {m : MethodId} {below : List Frame} {meth : Method} {c : Code} {b0 L0 : Nat} {xs : Nat → Int32} {D : va_G} {cI cS : ClassId} {A : Nat → Prop} {H : Heap} {locs : List Loc} {ls : Array Slot} {Q : State → Prop} {a b : Nat → Nat} {na nc N cells slots : Nat} {tw : SU} {cx my : Nat → Int32} {R u v : SU} {i : Int32} (hx : p.tables.exec = Jvm.exec) (hb : c.code = cL_law) (hml : c.maxLocals = 4) (hown : s.vm.findClass RL = some m.cls) (hts : ∀ w ∈ wsL_law, w.before #[Value.ref b0] s = true) (hKK : KK D cI cS s) (hAB0 : AB s s.heap) (hA0 : ∀ q : Nat, q < s.heap.size → ¬ A q) (hX : va_X b0 L0 xs s s.heap) (hbl : b0 < s.heap.size) (hbA : ¬ A b0) (hA : ∀ q : Nat, s.heap.size ≤ q → A q) (hL0 : L0 ≤ 3072) (hi0 : 0 ≤ i.toInt) (hi1 : i.toInt + 6 ≤ (L0 : Int)) (hst : ST D cI cS A s a b b0 i i.toInt na nc N tw cx my R u v H locs ls cells slots) (tail : ∀ (na nc N : Nat) (tw : SU) (cx my : Nat → Int32) (R u v : SU) (H : Heap) (locs : List Loc) (ls : Array Slot) (cells slots : Nat), ST D cI cS A s a b b0 i (i.toInt + 6) na nc N tw cx my R u v H locs ls cells slots → W p l e room_1 s m #[Value.ref b0] below meth c H locs cells slots Q (F0 m 1486 ls [])) : W p l e room_1 s m #[Value.ref b0] below meth c H locs cells slots Q (F0 m 1083 ls []) := by
  obtain ⟨hcs, ⟨hTX, hTM, hV, hR⟩, hP, hD, hS, hl, hth⟩ := hst
  have hN := hcs.hN
  have hK := hKK.1
  have hR : (cx 0).toInt = (my 0).toInt ∧ (cx 5).toInt = (my 1).toInt ∧ (cx 4).toInt = ((R 2) 1).toInt ∧ (cx 6).toInt = (my 2).toInt ∧ (cx 3).toInt = (my 3).toInt ∧ (cx 2).toInt = ((R 2) 0).toInt ∧ (cx 7).toInt = ((R 0) 0).toInt ∧ (cx 8).toInt = ((R 0) 1).toInt ∧ (cx 9).toInt = ((R 0) 2).toInt ∧ (cx 10).toInt = ((R 0) 3).toInt ∧ (cx 11).toInt = ((R 1) 0).toInt ∧ (cx 12).toInt = ((R 1) 1).toInt ∧ (cx 13).toInt = ((R 1) 2).toInt ∧ (cx 14).toInt = ((R 1) 3).toInt := hR
  obtain ⟨x1, hx1⟩ : ∃ z, xs (i + 1).toNatClampNeg = z := ⟨_, rfl⟩
  obtain ⟨x2, hx2⟩ : ∃ z, xs (i + 2).toNatClampNeg = z := ⟨_, rfl⟩
  obtain ⟨x3, hx3⟩ : ∃ z, xs (i + 3).toNatClampNeg = z := ⟨_, rfl⟩
  obtain ⟨x4, hx4⟩ : ∃ z, xs (i + 4).toNatClampNeg = z := ⟨_, rfl⟩
  obtain ⟨x5, hx5⟩ : ∃ z, xs (i + 5).toNatClampNeg = z := ⟨_, rfl⟩
  refine lv_aload_n hx hb dL_law_1083 rfl (lv_at hl 2 rfl) ?_
  refine lv_aload_n hx hb dL_law_1084 rfl (lv_at hl 3 rfl) ?_
  refine lv_iload_n hx hb dL_law_1085 rfl (lv_at hl 0 rfl) ?_
  refine lv_iconst (v := 1) hx hb dL_law_1086 (by decide) ?_
  refine lv_iadd hx hb dL_law_1087 ?_
  refine va_sld hx hb hX hbl hbA hS (lw_vin hi0 hi1 hL0 (by decide)) dL_law_1088 ?_
  refine lz_top (y := x1) hx1 ?_
  refine lv_aload_n hx hb dL_law_1089 rfl (lv_at hl 3 rfl) ?_
  refine lv_iload_n hx hb dL_law_1090 rfl (lv_at hl 0 rfl) ?_
  refine lv_iconst (v := 2) hx hb dL_law_1091 (by decide) ?_
  refine lv_iadd hx hb dL_law_1092 ?_
  refine va_sld hx hb hX hbl hbA hS (lw_vin hi0 hi1 hL0 (by decide)) dL_law_1093 ?_
  refine lz_top (y := x2) hx2 ?_
  refine lq_X (S := Int32 × Int32 × SU) (fna := fun _ => na) (fnc := fun _ => nc) (fN := fun _ => N) (fL := fun q => mkL tw q.1 (cx 1) (cx 2) (cx 3) (cx 4) q.2.1 (cx 6) (cx 7) (cx 8) (cx 9) (cx 10) (cx 11) (cx 12) (cx 13) (cx 14)) (fu := fun q => q.2.2) (As := [.int x1, .int x2]) (rest := []) ⟨hx, hb, hml, hown, hts⟩ (k_X11_deal l D cI cS _ a na nc N tw (cx 0) (cx 1) (cx 2) (cx 3) (cx 4) (cx 5) (cx 6) (cx 7) (cx 8) (cx 9) (cx 10) (cx 11) (cx 12) (cx 13) (cx 14) u hTX hN x1 x2 ) hKK hP hD hS hA (cwV 2 hts gL_law_X11_deal rfl rfl rfl (by decide +kernel) ⟨Nat.le_of_ble_eq_true rfl, Nat.le_of_ble_eq_true rfl⟩) rfl hl.1 rfl (Nat.le_of_ble_eq_true rfl) dL_law_1094 (CSL.hf hcs) (fun r52506 q9 H locs hr52506 hP hD hS => ?_)
  obtain ⟨r52507, r52508, u⟩ := q9
  have hr52506 : Rg (-2147483648) 2147483647 r52506 ∧ Rg 0 12 r52507 ∧ ((x1.toInt < 0 ∨ 12 < x1.toInt ∨ x2.toInt < 0 ∨ 10 < x2.toInt → r52508.toInt = (cx 5).toInt) ∧ (0 ≤ x1.toInt → x1.toInt ≤ 12 → 0 ≤ x2.toInt → x2.toInt ≤ 10 → r52508.toInt = (zout x1.toNatClampNeg (cx 5) x1.toNatClampNeg).toInt)) ∧ ((x1.toInt < 0 ∨ 12 < x1.toInt ∨ x2.toInt < 0 ∨ 10 < x2.toInt → r52506.toInt = -2 ∧ r52507.toInt = (cx 0).toInt) ∧ (0 ≤ x1.toInt → x1.toInt ≤ 12 → 0 ≤ x2.toInt → x2.toInt ≤ 10 → r52507.toInt = x1.toInt)) := hr52506
  have hTX : TyX (mkL tw r52507 (cx 1) (cx 2) (cx 3) (cx 4) r52508 (cx 6) (cx 7) (cx 8) (cx 9) (cx 10) (cx 11) (cx 12) (cx 13) (cx 14)) := ⟨(rg_w hr52506.2.1 (by decide) (by decide)), hTX.2.1, hTX.2.2.1, hTX.2.2.2.1, hTX.2.2.2.2.1, hTX.2.2.2.2.2.1, hTX.2.2.2.2.2.2.1, hTX.2.2.2.2.2.2.2⟩
  refine lv_pop hx hb dL_law_1097 rfl ?_
  refine lv_aload_n hx hb dL_law_1098 rfl (lv_at hl 1 rfl) ?_
  refine lv_aload_n hx hb dL_law_1099 rfl (lv_at hl 3 rfl) ?_
  refine lv_iload_n hx hb dL_law_1100 rfl (lv_at hl 0 rfl) ?_
  refine lv_iconst (v := 1) hx hb dL_law_1101 (by decide) ?_
  refine lv_iadd hx hb dL_law_1102 ?_
  refine va_sld hx hb hX hbl hbA hS (lw_vin hi0 hi1 hL0 (by decide)) dL_law_1103 ?_
  refine lz_top (y := x1) hx1 ?_
  refine lv_aload_n hx hb dL_law_1104 rfl (lv_at hl 3 rfl) ?_
  refine lv_iload_n hx hb dL_law_1105 rfl (lv_at hl 0 rfl) ?_
  refine lv_iconst (v := 2) hx hb dL_law_1106 (by decide) ?_
  refine lv_iadd hx hb dL_law_1107 ?_
  refine va_sld hx hb hX hbl hbA hS (lw_vin hi0 hi1 hL0 (by decide)) dL_law_1108 ?_
  refine lz_top (y := x2) hx2 ?_
  refine lq_M (S := Int32 × Int32 × SU) (fL := fun q => mkM q.1 q.2.1 (my 2) (my 3) (my 4) (my 5) (my 6) (R 0) (R 1) (R 2)) (fu := fun q => q.2.2) (As := [.int x1, .int x2]) (rest := []) ⟨hx, hb, hml, hown, hts⟩ (w_X12_deal l D cI cS _ b (my 0) (my 1) (my 2) (my 3) (my 4) (my 5) (my 6) (R 0) (R 1) (R 2) v hTM hV x1 x2 ) hKK hP hD hS hA (cwV 2 hts gL_law_X12_deal rfl rfl rfl (by decide +kernel) ⟨Nat.le_of_ble_eq_true rfl, Nat.le_of_ble_eq_true rfl⟩) rfl hl.1 rfl (Nat.le_of_ble_eq_true rfl) dL_law_1109 (CSL.hf hcs) (fun r52509 q9 H locs hr52509 hP hD hS => ?_)
  obtain ⟨r52510, r52511, v⟩ := q9
  have hr52509 : TyV v ∧ Rg (-2147483648) 2147483647 r52509 ∧ Rg 0 12 r52510 ∧ ((x1.toInt < 0 ∨ 12 < x1.toInt ∨ x2.toInt < 0 ∨ 10 < x2.toInt → r52511.toInt = (my 1).toInt) ∧ (0 ≤ x1.toInt → x1.toInt ≤ 12 → 0 ≤ x2.toInt → x2.toInt ≤ 10 → r52511.toInt = (zout x1.toNatClampNeg (my 1) x1.toNatClampNeg).toInt)) ∧ ((x1.toInt < 0 ∨ 12 < x1.toInt ∨ x2.toInt < 0 ∨ 10 < x2.toInt → r52509.toInt = -2 ∧ r52510.toInt = (my 0).toInt) ∧ (0 ≤ x1.toInt → x1.toInt ≤ 12 → 0 ≤ x2.toInt → x2.toInt ≤ 10 → r52510.toInt = x1.toInt)) := hr52509
  have hV := hr52509.1
  have hTM : TyL (mkM r52510 r52511 (my 2) (my 3) (my 4) (my 5) (my 6) (R 0) (R 1) (R 2)) := ⟨(rg_w hr52509.2.2.1 (by decide) (by decide)), hTM.2.1, hTM.2.2.1, hTM.2.2.2.1, hTM.2.2.2.2.1, hTM.2.2.2.2.2⟩
  refine lv_pop hx hb dL_law_1112 rfl ?_
  refine lv_goto (tgt := 1486) hx hb dL_law_1113 (by decide) ?_
  have ez : cx 5 = my 1 := Int32.toInt_inj.mp (by have zr := hR; omega)
  have eo : (zout x1.toNatClampNeg (cx 5) x1.toNatClampNeg).toInt = (zout x1.toNatClampNeg (my 1) x1.toNatClampNeg).toInt := by rw [ez]
  have hR2 : r52507.toInt = r52510.toInt ∧ r52508.toInt = r52511.toInt ∧ (cx 4).toInt = ((R 2) 1).toInt ∧ (cx 6).toInt = (my 2).toInt ∧ (cx 3).toInt = (my 3).toInt ∧ (cx 2).toInt = ((R 2) 0).toInt ∧ (cx 7).toInt = ((R 0) 0).toInt ∧ (cx 8).toInt = ((R 0) 1).toInt ∧ (cx 9).toInt = ((R 0) 2).toInt ∧ (cx 10).toInt = ((R 0) 3).toInt ∧ (cx 11).toInt = ((R 1) 0).toInt ∧ (cx 12).toInt = ((R 1) 1).toInt ∧ (cx 13).toInt = ((R 1) 2).toInt ∧ (cx 14).toInt = ((R 1) 3).toInt := by have zr := hR; have zz0 := hr52506.2.2.1; have zz1 := hr52506.2.2.2; have zz2 := hr52509.2.2.2.1; have zz3 := hr52509.2.2.2.2; refine ⟨by omega, by omega, by omega, by omega, by omega, by omega, by omega, by omega, by omega, by omega, by omega, by omega, by omega, by omega⟩
  exact tail na nc N tw (upd (upd cx 0 r52507) 5 r52508) (upd (upd my 0 r52510) 1 r52511) R u v _ _ _ _ _ ⟨hcs, ⟨hTX, hTM, hV, hR2⟩, hP, hD, hS, hl, hth.mono (by omega)⟩
set_option maxHeartbeats 4000000 in
set_option maxRecDepth 100000 in
theorem lc_34 {p : Program} {l : Launch} {e : Env} {s : State} {m : MethodId} {below : List Frame} {meth : Method} {c : Code} {b0 L0 : Nat} {xs : Nat → Int32} {D : va_G} {cI cS : ClassId} {A : Nat → Prop} {H : Heap} {locs : List Loc} {ls : Array Slot} {Q : State → Prop} {a b : Nat → Nat} {na nc N cells slots : Nat} {tw : SU} {cx my : Nat → Int32} {R u v : SU} {i : Int32} (hx : p.tables.exec = Jvm.exec) (hb : c.code = cL_law) (hml : c.maxLocals = 4) (hown : s.vm.findClass RL = some m.cls) (hts : ∀ w ∈ wsL_law, w.before #[Value.ref b0] s = true) (hKK : KK D cI cS s) (hAB0 : AB s s.heap) (hA0 : ∀ q : Nat, q < s.heap.size → ¬ A q) (hX : va_X b0 L0 xs s s.heap) (hbl : b0 < s.heap.size) (hbA : ¬ A b0) (hA : ∀ q : Nat, s.heap.size ≤ q → A q) (hL0 : L0 ≤ 3072) (hi0 : 0 ≤ i.toInt) (hi1 : i.toInt + 6 ≤ (L0 : Int)) (hst : ST D cI cS A s a b b0 i i.toInt na nc N tw cx my R u v H locs ls cells slots) (tail : ∀ (na nc N : Nat) (tw : SU) (cx my : Nat → Int32) (R u v : SU) (H : Heap) (locs : List Loc) (ls : Array Slot) (cells slots : Nat), ST D cI cS A s a b b0 i (i.toInt + 6) na nc N tw cx my R u v H locs ls cells slots → W p l e room_1 s m #[Value.ref b0] below meth c H locs cells slots Q (F0 m 1486 ls [])) : W p l e room_1 s m #[Value.ref b0] below meth c H locs cells slots Q (F0 m 1116 ls []) := by
  obtain ⟨hcs, ⟨hTX, hTM, hV, hR⟩, hP, hD, hS, hl, hth⟩ := hst
  have hN := hcs.hN
  have hK := hKK.1
  have hR : (cx 0).toInt = (my 0).toInt ∧ (cx 5).toInt = (my 1).toInt ∧ (cx 4).toInt = ((R 2) 1).toInt ∧ (cx 6).toInt = (my 2).toInt ∧ (cx 3).toInt = (my 3).toInt ∧ (cx 2).toInt = ((R 2) 0).toInt ∧ (cx 7).toInt = ((R 0) 0).toInt ∧ (cx 8).toInt = ((R 0) 1).toInt ∧ (cx 9).toInt = ((R 0) 2).toInt ∧ (cx 10).toInt = ((R 0) 3).toInt ∧ (cx 11).toInt = ((R 1) 0).toInt ∧ (cx 12).toInt = ((R 1) 1).toInt ∧ (cx 13).toInt = ((R 1) 2).toInt ∧ (cx 14).toInt = ((R 1) 3).toInt := hR
  obtain ⟨x1, hx1⟩ : ∃ z, xs (i + 1).toNatClampNeg = z := ⟨_, rfl⟩
  obtain ⟨x2, hx2⟩ : ∃ z, xs (i + 2).toNatClampNeg = z := ⟨_, rfl⟩
  obtain ⟨x3, hx3⟩ : ∃ z, xs (i + 3).toNatClampNeg = z := ⟨_, rfl⟩
  obtain ⟨x4, hx4⟩ : ∃ z, xs (i + 4).toNatClampNeg = z := ⟨_, rfl⟩
  obtain ⟨x5, hx5⟩ : ∃ z, xs (i + 5).toNatClampNeg = z := ⟨_, rfl⟩
  refine lv_aload_n hx hb dL_law_1116 rfl (lv_at hl 2 rfl) ?_
  refine lv_aload_n hx hb dL_law_1117 rfl (lv_at hl 3 rfl) ?_
  refine lv_iload_n hx hb dL_law_1118 rfl (lv_at hl 0 rfl) ?_
  refine lv_iconst (v := 1) hx hb dL_law_1119 (by decide) ?_
  refine lv_iadd hx hb dL_law_1120 ?_
  refine va_sld hx hb hX hbl hbA hS (lw_vin hi0 hi1 hL0 (by decide)) dL_law_1121 ?_
  refine lz_top (y := x1) hx1 ?_
  refine lv_aload_n hx hb dL_law_1122 rfl (lv_at hl 3 rfl) ?_
  refine lv_iload_n hx hb dL_law_1123 rfl (lv_at hl 0 rfl) ?_
  refine lv_iconst (v := 2) hx hb dL_law_1124 (by decide) ?_
  refine lv_iadd hx hb dL_law_1125 ?_
  refine va_sld hx hb hX hbl hbA hS (lw_vin hi0 hi1 hL0 (by decide)) dL_law_1126 ?_
  refine lz_top (y := x2) hx2 ?_
  refine lv_aload_n hx hb dL_law_1127 rfl (lv_at hl 3 rfl) ?_
  refine lv_iload_n hx hb dL_law_1128 rfl (lv_at hl 0 rfl) ?_
  refine lv_iconst (v := 3) hx hb dL_law_1129 (by decide) ?_
  refine lv_iadd hx hb dL_law_1130 ?_
  refine va_sld hx hb hX hbl hbA hS (lw_vin hi0 hi1 hL0 (by decide)) dL_law_1131 ?_
  refine lz_top (y := x3) hx3 ?_
  refine lv_aload_n hx hb dL_law_1132 rfl (lv_at hl 3 rfl) ?_
  refine lv_iload_n hx hb dL_law_1133 rfl (lv_at hl 0 rfl) ?_
  refine lv_iconst (v := 4) hx hb dL_law_1134 (by decide) ?_
  refine lv_iadd hx hb dL_law_1135 ?_
  refine va_sld hx hb hX hbl hbA hS (lw_vin hi0 hi1 hL0 (by decide)) dL_law_1136 ?_
  refine lz_top (y := x4) hx4 ?_
  obtain ⟨cn, ag, tg, tmg, tw0, rfl, hms, hb1, hb2⟩ := hth
  refine lq_T (As := [.int x1, .int x2, .int x3, .int x4]) (rest := []) ⟨hx, hb, hml, hown, hts⟩ hKK hP hD hS hA (hTX.2.1) (by omega) (by omega) hms (x0 := x1) (x1 := x2) (x2 := x3) (x3 := x4) rfl (cwV 4 hts gL_law_X11_times rfl rfl rfl (by decide +kernel) ⟨Nat.le_of_ble_eq_true rfl, Nat.le_of_ble_eq_true rfl⟩) rfl hl.1 rfl (Nat.le_of_ble_eq_true rfl) dL_law_1137 (CSL.hf hcs) (fun r52512 sv cn2 ag2 tg2 tmg2 H locs hr52512 hsv hc2 ha2 hms2 hP hD hS => ?_)
  have hTX : TyX (mkL (twU tw0 cn2 ag2 tg2 tmg2) (cx 0) sv (cx 2) (cx 3) (cx 4) (cx 5) (cx 6) (cx 7) (cx 8) (cx 9) (cx 10) (cx 11) (cx 12) (cx 13) (cx 14)) := ⟨hTX.1, hsv, hTX.2.2.1, hTX.2.2.2.1, hTX.2.2.2.2.1, hTX.2.2.2.2.2.1, hTX.2.2.2.2.2.2.1, hTX.2.2.2.2.2.2.2⟩
  refine lv_aload_n hx hb dL_law_1140 rfl (lv_at hl 1 rfl) ?_
  refine lv_aload_n hx hb dL_law_1141 rfl (lv_at hl 3 rfl) ?_
  refine lv_iload_n hx hb dL_law_1142 rfl (lv_at hl 0 rfl) ?_
  refine lv_iconst (v := 1) hx hb dL_law_1143 (by decide) ?_
  refine lv_iadd hx hb dL_law_1144 ?_
  refine va_sld hx hb hX hbl hbA hS (lw_vin hi0 hi1 hL0 (by decide)) dL_law_1145 ?_
  refine lz_top (y := x1) hx1 ?_
  refine lv_aload_n hx hb dL_law_1146 rfl (lv_at hl 3 rfl) ?_
  refine lv_iload_n hx hb dL_law_1147 rfl (lv_at hl 0 rfl) ?_
  refine lv_iconst (v := 2) hx hb dL_law_1148 (by decide) ?_
  refine lv_iadd hx hb dL_law_1149 ?_
  refine va_sld hx hb hX hbl hbA hS (lw_vin hi0 hi1 hL0 (by decide)) dL_law_1150 ?_
  refine lz_top (y := x2) hx2 ?_
  refine lv_aload_n hx hb dL_law_1151 rfl (lv_at hl 3 rfl) ?_
  refine lv_iload_n hx hb dL_law_1152 rfl (lv_at hl 0 rfl) ?_
  refine lv_iconst (v := 3) hx hb dL_law_1153 (by decide) ?_
  refine lv_iadd hx hb dL_law_1154 ?_
  refine va_sld hx hb hX hbl hbA hS (lw_vin hi0 hi1 hL0 (by decide)) dL_law_1155 ?_
  refine lz_top (y := x3) hx3 ?_
  refine lv_aload_n hx hb dL_law_1156 rfl (lv_at hl 3 rfl) ?_
  refine lv_iload_n hx hb dL_law_1157 rfl (lv_at hl 0 rfl) ?_
  refine lv_iconst (v := 4) hx hb dL_law_1158 (by decide) ?_
  refine lv_iadd hx hb dL_law_1159 ?_
  refine va_sld hx hb hX hbl hbA hS (lw_vin hi0 hi1 hL0 (by decide)) dL_law_1160 ?_
  refine lz_top (y := x4) hx4 ?_
  refine lq_M (S := Int32 × Int32 × (Nat → Int32) × SU) (fL := fun q => mkM q.1 q.2.1 (my 2) (my 3) (my 4) (my 5) (my 6) (R 0) (R 1) q.2.2.1) (fu := fun q => q.2.2.2) (As := [.int x1, .int x2, .int x3, .int x4]) (rest := [.int r52512]) ⟨hx, hb, hml, hown, hts⟩ (w_X12_times_D l D cI cS _ b (my 0) (my 1) (my 2) (my 3) (my 4) (my 5) (my 6) (R 0) (R 1) (R 2) v hTM hV x1 x2 x3 x4 ) hKK hP hD hS hA (cwV 4 hts gL_law_X12_times rfl rfl rfl (by decide +kernel) ⟨Nat.le_of_ble_eq_true rfl, Nat.le_of_ble_eq_true rfl⟩) rfl hl.1 rfl (Nat.le_of_ble_eq_true rfl) dL_law_1161 (CSL.hf hcs) (fun r52513 q9 H locs hr52513 hP hD hS => ?_)
  obtain ⟨r52514, r52515, f52516, v⟩ := q9
  have hr52513 : TyV v ∧ Rg (-2147483648) 2147483647 r52513 ∧ Rg 0 12 r52514 ∧ Kp f52516 ∧ (r52514.toInt = (my 0).toInt ∧ r52515.toInt = (my 1).toInt ∧ (f52516 0).toInt = ((R 2) 0).toInt ∧ (f52516 1).toInt = ((R 2) 1).toInt) ∧ (((1 ≤ x1.toInt ∧ x1.toInt ≤ 20 ∧ 0 ≤ x2.toInt ∧ x2.toInt ≤ 12 ∧ 0 ≤ x3.toInt ∧ x3.toInt ≤ 10 ∧ 0 ≤ x4.toInt ∧ x4.toInt ≤ 12) → r52513 = (tmC x2.toNatClampNeg x3 x4 (my 1) x1.toNatClampNeg).1) ∧ (¬ (1 ≤ x1.toInt ∧ x1.toInt ≤ 20 ∧ 0 ≤ x2.toInt ∧ x2.toInt ≤ 12 ∧ 0 ≤ x3.toInt ∧ x3.toInt ≤ 10 ∧ 0 ≤ x4.toInt ∧ x4.toInt ≤ 12) → r52513.toInt = -2)) := hr52513
  have hV := hr52513.1
  have hTM : TyL (mkM r52514 r52515 (my 2) (my 3) (my 4) (my 5) (my 6) (R 0) (R 1) f52516) := ⟨(rg_w hr52513.2.2.1 (by decide) (by decide)), hTM.2.1, hTM.2.2.1, hTM.2.2.2.1, hr52513.2.2.2.1, hTM.2.2.2.2.2⟩
  refine lv_icmp_eq (tgt := 1486) hx hb dL_law_1164 (by decide) (fun c9 => ?_) (fun c9 => ?_)
  · have hR2 : (cx 0).toInt = r52514.toInt ∧ (cx 5).toInt = r52515.toInt ∧ (cx 4).toInt = (f52516 1).toInt ∧ (cx 6).toInt = (my 2).toInt ∧ (cx 3).toInt = (my 3).toInt ∧ (cx 2).toInt = (f52516 0).toInt ∧ (cx 7).toInt = ((R 0) 0).toInt ∧ (cx 8).toInt = ((R 0) 1).toInt ∧ (cx 9).toInt = ((R 0) 2).toInt ∧ (cx 10).toInt = ((R 0) 3).toInt ∧ (cx 11).toInt = ((R 1) 0).toInt ∧ (cx 12).toInt = ((R 1) 1).toInt ∧ (cx 13).toInt = ((R 1) 2).toInt ∧ (cx 14).toInt = ((R 1) 3).toInt := by have zr := hR; have zz0 := hr52513.2.2.2.2.1; refine ⟨by omega, by omega, by omega, by omega, by omega, by omega, by omega, by omega, by omega, by omega, by omega, by omega, by omega, by omega⟩
    exact tail na nc N (twU tw0 cn2 ag2 tg2 tmg2) (upd cx 1 sv) (upd (upd my 0 r52514) 1 r52515) (sU R 2 f52516) u v _ _ _ _ _ ⟨hcs, ⟨hTX, hTM, hV, hR2⟩, hP, hD, hS, hl, ⟨cn2, ag2, tg2, tmg2, tw0, rfl, hms2, by omega, by omega⟩⟩
  · exact absurd (times_eq hr52512 hr52513.2.2.2.2.2 (Int32.toInt_inj.mp hR.2.1)) c9
