set_option maxHeartbeats 4000000 in
set_option maxRecDepth 100000 in
theorem c_X1_init_9 (l : Launch) (D : va_G) (cI cS : ClassId) (sz : Nat) (h0 : Nat) : Met l yX1_init wsX1_init ({ frames := 1, cells := 1, slots := 24576, locals := 40 }) (PQ D cI cS [(h0, .inr (1, [.null, .int 0]))] sz [.ref h0, .int 24576]) (QN D [(h0, .inr (1, [.null, .int 0]))] (fun u => [(h0, .inr (1, [.ref (u 0), .int 1])), ((u 0), .inl (cI, 24576, .inl (fun _ => 0)))]) sz) 1 24576 (va_A [(h0, .inr (1, [.null, .int 0]))] sz) := by
  refine Met.ofW (cc := cX1_init) (maxL := 2) (ret := none) (by decide) rfl ?_
  intro p e s m args below meth c s₁ B hml hv
  obtain ⟨rfl, hsz, hP, hKK, hD0⟩ := hv
  have hx := B.exec
  have hb := B.bytes
  have hr := B.returns
  have hts := atoms_spec (ws := wsX1_init) B.pre
  have hown : s.vm.findClass RX1 = some m.cls := findClass_of_methodNamed B.named
  have hlocks := B.notSynchronized
  have hK := hKK.1
  have hN := hKK.2
  have hin : meth.name = "<init>" := (name_of_methodNamed B.named B.method).1
  have hin1 : ∀ w ∈ wsX10, w ∈ wsX1_init := by decide +kernel
  subst hsz
  have hD := hD0.self (sz := s.heap.size)
  obtain ⟨A, hAe⟩ : ∃ A, A = va_A [(h0, .inr (1, [.null, .int 0]))] s.heap.size := ⟨_, rfl⟩
  rw [← hAe] at hD
  have hA : ∀ q : Nat, s.heap.size ≤ q → A q := fun q h => by rw [hAe]; exact Or.inr h
  have hS : va_S A s.heap s.heap [] := va_S.rf
  have hl := lv_entry ([.ref h0, .int 24576]) (n := 2) (Nat.le_of_ble_eq_true rfl)
  rw [lg_entry_eq]
  generalize (lg_sl ([.ref h0, .int 24576]) ++ List.replicate (2 - (lg_sl ([.ref h0, .int 24576])).length) Slot.unset).toArray = ls at hl ⊢
  have hl : lv_has ls 2 [(0, .ref h0), (1, .int 24576)] := hl
  refine lv_aload_n hx hb dX1_init_0 rfl (lv_at hl 0 rfl) ?_
  refine W.objInit hx hb hown (hts (.methodLink RX1 3 objectInit) (by decide +kernel)) (hts (.instanceMethod objectInit) (by decide +kernel)) (hts (.code objectInit ⟨#[0xb1]⟩ 1 none) (by decide +kernel)) rfl (by rw [hml]; exact hl.1) rfl dX1_init_1 (Nat.le_of_ble_eq_true rfl) (Nat.le_of_ble_eq_true rfl) ?_
  refine W.eq (g2 := F0 m 4 ls []) rfl ?_
  refine lv_aload_n hx hb dX1_init_4 rfl (lv_at hl 0 rfl) ?_
  refine lv_iconst (v := 1) hx hb dX1_init_5 (by decide) ?_
  refine va_put (D := D) (ci := 1) (v := .int 1) (ty := .int) (C := RX1) (T := TX1) (N := 2) hx hb hts hin1 tyX1 tyX1_ok nmX1 hown hK hP hD hS 0 rfl rfl 1 (by decide) (hts (.fieldLink RX1 9 "MissedPoints$Memo" "age" "I") (by decide +kernel)) (fun _ h9 => h9) rfl (by decide +kernel) rfl rfl (Nat.le_of_ble_eq_true rfl) dX1_init_6 (fun H locs hP hD hS => ?_)
  have hP : va_P D cls [(h0, .inr (1, [.null, .int 1]))] H := hP
  have hD : va_D A [(h0, .inr (1, [.null, .int 1]))] := hD
  refine lv_aload_n hx hb dX1_init_9 rfl (lv_at hl 0 rfl) ?_
  refine lv_iload_n hx hb dX1_init_10 rfl (lv_at hl 1 rfl) ?_
  refine lv_iconst (v := 0) hx hb dX1_init_11 (by decide) ?_
  refine va_mmax hx hb (by rw [hml]; exact hl.1.symm) hown (hts (.methodLink RX1 15 Lib.Math.max.name) (by decide +kernel)) (hts (.static Lib.Math.max.name) (by decide +kernel)) (hts (.initialized "java/lang/Math") (by decide +kernel)) (hts (.code Lib.Math.max.name Lib.Math.max.code 2 (some .int)) (by decide +kernel)) (Nat.le_of_ble_eq_true rfl) (Nat.le_of_ble_eq_true rfl) (Nat.le_of_ble_eq_true rfl) (Nat.le_of_ble_eq_true rfl) dX1_init_12 ?_
  refine lz_top (y := 24576) (by decide) ?_
  refine va_newa (atype := .int) (ty := .int) (a0 := (24576, .inl (fun _ => 0))) (N' := 24576) hx hb (hts (.arrayClass .int) (by decide +kernel)) rfl hK hP hD hS hA (fun _ => rfl) (by decide) (by decide) (by decide) (Nat.le_of_ble_eq_true rfl) (Nat.le_of_ble_eq_true rfl) dX1_init_15 (fun q4585 cA4586 H hK2 hP hD hS => ?_)
  obtain rfl := (lz_same hK hK2).symm
  have hP : va_P D cls [(h0, .inr (1, [.null, .int 1])), (q4585, .inl (cI, 24576, .inl (fun _ => 0)))] H := hP
  have hD : va_D A [(h0, .inr (1, [.null, .int 1])), (q4585, .inl (cI, 24576, .inl (fun _ => 0)))] := hD
  refine W.widen (k := 1) (n := 24576) (Nat.le_of_ble_eq_true rfl) (Nat.le_of_ble_eq_true rfl) ?_
  refine va_putF (D := D) (ci := 1) (v := .ref q4585) (ty := (.array .int)) (C := RX1) (T := TX1) (N := 2) hx hb hts hin1 tyX1 tyX1_ok nmX1 hown hK hP hD hS 0 rfl rfl 0 (by decide) (hts (.fieldLink RX1 21 "MissedPoints$Memo" "cells" "[I") (by decide +kernel)) (fun _ h9 => h9) rfl hin rfl (by decide +kernel) rfl rfl (Nat.le_of_ble_eq_true rfl) dX1_init_17 (fun H locs hP hD hS => ?_)
  have hP : va_P D cls [(h0, .inr (1, [.ref q4585, .int 1])), (q4585, .inl (cI, 24576, .inl (fun _ => 0)))] H := hP
  have hD : va_D A [(h0, .inr (1, [.ref q4585, .int 1])), (q4585, .inl (cI, 24576, .inl (fun _ => 0)))] := hD
  have hP9 := hP.sub (ws' := [(h0, .inr (1, [.ref q4585, .int 1])), (q4585, .inl (cI, 24576, .inl (fun _ => 0)))]) [0, 1] rfl
  have hD9 := hD.sub (ws' := [(h0, .inr (1, [.ref q4585, .int 1])), (q4585, .inl (cI, 24576, .inl (fun _ => 0)))]) [0, 1] (by decide) rfl
  refine W.widen (k := 1) (n := 24576) (Nat.le_of_ble_eq_true rfl) (Nat.le_of_ble_eq_true rfl) ?_
  rw [hAe] at hD9 hS
  exact W.vret hx hb hr (fun t ht hW => ⟨⟨(fun k => [q4585].getD k 0), rfl, trivial, by rw [ht]; exact hP9, hD9⟩, hS.F ht⟩) hS.2.2 dX1_init_20

set_option maxHeartbeats 4000000 in
set_option maxRecDepth 100000 in
theorem k_X1_isBlank_13_1 (l : Launch) (D : va_G) (cI cS : ClassId) (a : Nat → Nat) (na nc : Nat) (L u : SU) (hL : TyX L) : Met l yX1_isBlank wsX1_isBlank ({ frames := 0, cells := 0, slots := 0, locals := 0 }) (PS D cI cS (wX cI cS a na nc 24576 L u) [.ref na]) (vp_Si (fun r => Rg 0 0 r ∧ True)) 0 0 (fun _ => False) := by
  refine Met.ofW (cc := cX1_isBlank) (maxL := 1) (ret := (some .boolean)) (by decide) rfl ?_
  intro p e s m args below meth c s₁ B hml hv
  obtain ⟨rfl, hP, hKK⟩ := hv
  have hx := B.exec
  have hb := B.bytes
  have hr := B.returns
  have hts := atoms_spec (ws := wsX1_isBlank) B.pre
  have hown : s.vm.findClass RX1 = some m.cls := findClass_of_methodNamed B.named
  have hlocks := B.notSynchronized
  have hK := hKK.1
  have hin1 : ∀ w ∈ wsX10, w ∈ wsX1_isBlank := by decide +kernel
  have hl := lv_entry ([.ref na]) (n := 1) (Nat.le_of_ble_eq_true rfl)
  rw [lg_entry_eq]
  generalize (lg_sl ([.ref na]) ++ List.replicate (1 - (lg_sl ([.ref na])).length) Slot.unset).toArray = ls at hl ⊢
  have hl : lv_has ls 1 [(0, .ref na)] := hl
  refine lv_aload_n hx hb dX1_isBlank_0 rfl (lv_at hl 0 rfl) ?_
  refine va_get (D := D) (ci := 1) (v := .ref nc) (C := RX1) (T := TX1) (N := 2) hx hb hts hin1 hown hK hP 13 rfl rfl 0 (by decide) (hts (.fieldLink RX1 21 "MissedPoints$Memo" "cells" "[I") (by decide +kernel)) (fun _ h9 => h9) rfl dX1_isBlank_1 ?_
  refine va_alen hx hb hK hP 14 0 rfl rfl (v := 24576) rfl dX1_isBlank_4 ?_
  refine lv_if_ne (tgt := 12) hx hb dX1_isBlank_5 (by decide) (fun c51360 => ?_) (fun c51360 => ?_)
  · refine lv_iconst (v := 0) hx hb dX1_isBlank_12 (by decide) ?_
    exact W.zret (v := 0) hx hb hr (by decide) (fun t ht hW => ⟨_, rfl, ⟨(by decide : Rg 0 0 (0 : Int32)), trivial⟩, ht⟩) (fun q hq => absurd hq List.not_mem_nil) dX1_isBlank_13
  · exact absurd c51360 (by decide)
set_option maxHeartbeats 4000000 in
set_option maxRecDepth 100000 in
theorem k_X1_isBlank_13_0 (l : Launch) (D : va_G) (cI cS : ClassId) (a : Nat → Nat) (na nc : Nat) (L u : SU) (hL : TyX L) : Met l yX1_isBlank wsX1_isBlank ({ frames := 0, cells := 0, slots := 0, locals := 0 }) (PS D cI cS (wX cI cS a na nc 0 L u) [.ref na]) (vp_Si (fun r => Rg 1 1 r ∧ True)) 0 0 (fun _ => False) := by
  refine Met.ofW (cc := cX1_isBlank) (maxL := 1) (ret := (some .boolean)) (by decide) rfl ?_
  intro p e s m args below meth c s₁ B hml hv
  obtain ⟨rfl, hP, hKK⟩ := hv
  have hx := B.exec
  have hb := B.bytes
  have hr := B.returns
  have hts := atoms_spec (ws := wsX1_isBlank) B.pre
  have hown : s.vm.findClass RX1 = some m.cls := findClass_of_methodNamed B.named
  have hlocks := B.notSynchronized
  have hK := hKK.1
  have hin1 : ∀ w ∈ wsX10, w ∈ wsX1_isBlank := by decide +kernel
  have hl := lv_entry ([.ref na]) (n := 1) (Nat.le_of_ble_eq_true rfl)
  rw [lg_entry_eq]
  generalize (lg_sl ([.ref na]) ++ List.replicate (1 - (lg_sl ([.ref na])).length) Slot.unset).toArray = ls at hl ⊢
  have hl : lv_has ls 1 [(0, .ref na)] := hl
  refine lv_aload_n hx hb dX1_isBlank_0 rfl (lv_at hl 0 rfl) ?_
  refine va_get (D := D) (ci := 1) (v := .ref nc) (C := RX1) (T := TX1) (N := 2) hx hb hts hin1 hown hK hP 13 rfl rfl 0 (by decide) (hts (.fieldLink RX1 21 "MissedPoints$Memo" "cells" "[I") (by decide +kernel)) (fun _ h9 => h9) rfl dX1_isBlank_1 ?_
  refine va_alen hx hb hK hP 14 0 rfl rfl (v := 0) rfl dX1_isBlank_4 ?_
  refine lv_if_ne (tgt := 12) hx hb dX1_isBlank_5 (by decide) (fun c51362 => ?_) (fun c51362 => ?_)
  · exact absurd c51362 (by decide)
  · refine lv_iconst (v := 1) hx hb dX1_isBlank_8 (by decide) ?_
    refine lv_goto (tgt := 13) hx hb dX1_isBlank_9 (by decide) ?_
    exact W.zret (v := 1) hx hb hr (by decide) (fun t ht hW => ⟨_, rfl, ⟨(by decide : Rg 1 1 (1 : Int32)), trivial⟩, ht⟩) (fun q hq => absurd hq List.not_mem_nil) dX1_isBlank_13
set_option maxRecDepth 20000 in
theorem ggX3_number_X1_isBlank : GoodIn wsX3_number wsX1_isBlank := goodIn_r _ [22, 18, 62, 63] (by decide +kernel) (by decide +kernel)
set_option maxRecDepth 20000 in
theorem gX3_number_X1_isBlank : GoodIn wsX3_number (wsV RX3 69 RX1 yX1_isBlank wsX1_isBlank) := goodIn_app (goodIn_of _ (by decide +kernel)) ggX3_number_X1_isBlank
set_option maxRecDepth 20000 in
theorem ggX3_number_X3_notice : GoodIn wsX3_number wsX3_notice := goodIn_r _ [9, 10, 11, 12, 1, 13, 14, 15, 4, 16, 17, 18, 58, 59, 60, 61, 64, 65, 66, 62, 63] (by decide +kernel) (by decide +kernel)
set_option maxRecDepth 20000 in
theorem gX3_number_X3_notice : GoodIn wsX3_number (wsV RX3 39 RX3 yX3_notice wsX3_notice) := goodIn_app (goodIn_of _ (by decide +kernel)) ggX3_number_X3_notice
set_option maxRecDepth 20000 in
theorem ggX3_number_X3_numberOf : GoodIn wsX3_number wsX3_numberOf := goodIn_r _ [37, 1, 11, 38, 39, 40, 41, 42, 43, 44, 45, 46, 47, 48, 49, 50, 51, 4, 52, 18, 17, 53, 34, 35, 36, 8, 54, 55, 56, 57, 58, 59, 60, 61, 64, 65, 66, 62, 63] (by decide +kernel) (by decide +kernel)
set_option maxRecDepth 20000 in
theorem gX3_number_X3_numberOf : GoodIn wsX3_number (wsV RX3 73 RX3 yX3_numberOf wsX3_numberOf) := goodIn_app (goodIn_of _ (by decide +kernel)) ggX3_number_X3_numberOf
theorem dX3_number_0 : decode cX3_number 0 = .ok (.aload_n 0, 1) := by decide +kernel
theorem dX3_number_1 : decode cX3_number 1 = .ok (.invokevirtual 39, 3) := by decide +kernel
theorem dX3_number_11 : decode cX3_number 11 = .ok (.ifCond .eq 17, 3) := by decide +kernel
theorem dX3_number_28 : decode cX3_number 28 = .ok (.aload_n 0, 1) := by decide +kernel
theorem dX3_number_29 : decode cX3_number 29 = .ok (.iload_n 1, 1) := by decide +kernel
theorem dX3_number_30 : decode cX3_number 30 = .ok (.iload_n 2, 1) := by decide +kernel
theorem dX3_number_31 : decode cX3_number 31 = .ok (.iconst 0, 1) := by decide +kernel
theorem dX3_number_32 : decode cX3_number 32 = .ok (.invokevirtual 73, 3) := by decide +kernel
theorem dX3_number_35 : decode cX3_number 35 = .ok (.ireturn, 1) := by decide +kernel
theorem dX3_number_4 : decode cX3_number 4 = .ok (.aload_n 0, 1) := by decide +kernel
theorem dX3_number_5 : decode cX3_number 5 = .ok (.getfield 20, 3) := by decide +kernel
theorem dX3_number_8 : decode cX3_number 8 = .ok (.invokevirtual 69, 3) := by decide +kernel
set_option maxHeartbeats 4000000 in
set_option maxRecDepth 100000 in
theorem k_X3_number_1 (l : Launch) (D : va_G) (cI cS : ClassId) (sz : Nat) (a : Nat → Nat) (na nc : Nat) (L u0 : SU) (hL : TyX L) (x0 x1 : Int32) (px1 : Rg 0 65549 x1) : Met l yX3_number wsX3_number ({ frames := 15, cells := 0, slots := 0, locals := 600 }) (PQ D cI cS (wX cI cS a na nc 24576 L u0) sz [.ref (a 7), .int x0, .int x1]) (QF (S := SU) D (wX cI cS a na nc 24576 L u0) (wX cI cS a na nc 24576 L) sz (fun r _ => Rg (-2147483648) 2147483647 r ∧ True)) 0 0 (va_A (wX cI cS a na nc 24576 L u0) sz) := by
  refine Met.ofW (cc := cX3_number) (maxL := 3) (ret := (some .int)) (by decide) rfl ?_
  intro p e s m args below meth c s₁ B hml hv
  obtain ⟨rfl, hsz, hP, hKK, hD0⟩ := hv
  have hx := B.exec
  have hb := B.bytes
  have hr := B.returns
  have hts := atoms_spec (ws := wsX3_number) B.pre
  have hown : s.vm.findClass RX3 = some m.cls := findClass_of_methodNamed B.named
  have hlocks := B.notSynchronized
  have hK := hKK.1
  have hin3 : ∀ w ∈ wsX30, w ∈ wsX3_number := by decide +kernel
  subst hsz
  have hD := hD0.self (sz := s.heap.size)
  obtain ⟨A, hAe⟩ : ∃ A, A = va_A (wX cI cS a na nc 24576 L u0) s.heap.size := ⟨_, rfl⟩
  rw [← hAe] at hD
  have hA : ∀ q : Nat, s.heap.size ≤ q → A q := fun q h => by rw [hAe]; exact Or.inr h
  have hS : va_S A s.heap s.heap [] := va_S.rf
  have hl := lv_entry ([.ref (a 7), .int x0, .int x1]) (n := 3) (Nat.le_of_ble_eq_true rfl)
  rw [lg_entry_eq]
  generalize (lg_sl ([.ref (a 7), .int x0, .int x1]) ++ List.replicate (3 - (lg_sl ([.ref (a 7), .int x0, .int x1])).length) Slot.unset).toArray = ls at hl ⊢
  have hl : lv_has ls 3 [(0, .ref (a 7)), (1, .int x0), (2, .int x1)] := hl
  obtain ⟨u, hu9⟩ : ∃ u : SU, u = u0 := ⟨_, rfl⟩
  rw [← hu9] at hP hD
  refine lv_aload_n hx hb dX3_number_0 rfl (lv_at hl 0 rfl) ?_
  refine wk_qv (wX cI cS a na nc 24576 L) u (As := []) (rest := []) ⟨hx, hb, hml, hown, hts⟩ (k_X3_notice l D cI cS _ a na nc 24576 L u hL (Or.inr rfl)) hKK hP hD hS hA 7 (ci := 3) rfl rfl (cwV 0 hts gX3_number_X3_notice rfl rfl rfl (by decide +kernel) ⟨Nat.le_of_ble_eq_true rfl, Nat.le_of_ble_eq_true rfl⟩) rfl hl.1 rfl (Nat.le_of_ble_eq_true rfl) dX3_number_1 ⟨Nat.le_of_ble_eq_true rfl, Nat.le_of_ble_eq_true rfl⟩ (fun u H locs hr51367 hP hD hS => ?_)
  refine lv_aload_n hx hb dX3_number_4 rfl (lv_at hl 0 rfl) ?_
  refine va_get (D := D) (ci := 3) (v := .ref na) (C := RX3) (T := TX3) (N := 4) hx hb hts hin3 hown hK hP 7 rfl rfl 2 (by decide) (hts (.fieldLink RX3 20 "MissedPoints$Pairs" "numbers" "LMissedPoints$Memo;") (by decide +kernel)) (fun _ h9 => h9) rfl dX3_number_5 ?_
  refine wk_sv 13 (As := []) (rest := []) ⟨hx, hb, hml, hown, hts⟩ (k_X1_isBlank_13_1 l D cI cS a na nc L u hL) hKK hP (ci := 1) rfl rfl (cwV 0 hts gX3_number_X1_isBlank rfl rfl rfl (by decide +kernel) ⟨Nat.le_of_ble_eq_true rfl, Nat.le_of_ble_eq_true rfl⟩) rfl hl.1 rfl (Nat.le_of_ble_eq_true rfl) dX3_number_8 ⟨Nat.le_of_ble_eq_true rfl, Nat.le_of_ble_eq_true rfl⟩ (fun r51368 hr51368 => ?_)
  refine lv_if_eq (tgt := 28) hx hb dX3_number_11 (by decide) (fun c51369 => ?_) (fun c51369 => ?_)
  · refine lv_aload_n hx hb dX3_number_28 rfl (lv_at hl 0 rfl) ?_
    refine lv_iload_n hx hb dX3_number_29 rfl (lv_at hl 1 rfl) ?_
    refine lv_iload_n hx hb dX3_number_30 rfl (lv_at hl 2 rfl) ?_
    refine lv_iconst (v := 0) hx hb dX3_number_31 (by decide) ?_
    refine wk_qi (wX cI cS a na nc 24576 L) u (As := [.int x0, .int x1, .int 0]) (rest := []) ⟨hx, hb, hml, hown, hts⟩ (k_X3_numberOf l D cI cS _ a na nc 24576 L u hL (Or.inr rfl) x0 x1 (0 : Int32) px1 (by decide : Rg 0 0 (0 : Int32))) hKK hP hD hS hA 7 (ci := 3) rfl rfl (cwV 3 hts gX3_number_X3_numberOf rfl rfl rfl (by decide +kernel) ⟨Nat.le_of_ble_eq_true rfl, Nat.le_of_ble_eq_true rfl⟩) rfl hl.1 rfl (Nat.le_of_ble_eq_true rfl) dX3_number_32 ⟨Nat.le_of_ble_eq_true rfl, Nat.le_of_ble_eq_true rfl⟩ (fun r51370 u H locs hr51370 hP hD hS => ?_)
    subst hAe
    exact W.iret (v := r51370) hx hb hr (fun t ht hW => ⟨⟨_, u, rfl, ⟨hr51370.1, trivial⟩, by rw [ht]; exact hP, hD⟩, hS.F ht⟩) hS.2.2 dX3_number_35
  · exact absurd (wk_yeq hr51368.1 (by decide : Rg 0 0 (0 : Int32)) (by decide)) c51369
set_option maxRecDepth 20000 in
theorem ggX3_number_X1_init : GoodIn wsX3_number wsX1_init := goodIn_r _ [25, 26, 27, 28, 17, 29, 30, 31, 32, 33, 18, 62, 63] (by decide +kernel) (by decide +kernel)
set_option maxRecDepth 20000 in
theorem gX3_number_X1_init : GoodIn wsX3_number (wsX1_init) := ggX3_number_X1_init
theorem dX3_number_14 : decode cX3_number 14 = .ok (.aload_n 0, 1) := by decide +kernel
theorem dX3_number_15 : decode cX3_number 15 = .ok (.new 9, 3) := by decide +kernel
theorem dX3_number_18 : decode cX3_number 18 = .ok (.dup, 1) := by decide +kernel
theorem dX3_number_19 : decode cX3_number 19 = .ok (.sipush 24576, 3) := by decide +kernel
theorem dX3_number_22 : decode cX3_number 22 = .ok (.invokespecial 11, 3) := by decide +kernel
theorem dX3_number_25 : decode cX3_number 25 = .ok (.putfield 20, 3) := by decide +kernel
set_option maxHeartbeats 4000000 in
set_option maxRecDepth 100000 in
theorem k_X3_number_0 (l : Launch) (D : va_G) (cI cS : ClassId) (sz : Nat) (a : Nat → Nat) (na nc : Nat) (L u0 : SU) (hL : TyX L) (x0 x1 : Int32) (px1 : Rg 0 65549 x1) : Met l yX3_number wsX3_number ({ frames := 15, cells := 2, slots := 24578, locals := 600 }) (PQ D cI cS (wX cI cS a na nc 0 L u0) sz [.ref (a 7), .int x0, .int x1]) (QF (S := Nat × Nat × SU) D (wX cI cS a na nc 0 L u0) (fun q => wX cI cS a q.1 q.2.1 24576 L q.2.2) sz (fun r _ => Rg (-2147483648) 2147483647 r ∧ True)) 2 24578 (va_A (wX cI cS a na nc 0 L u0) sz) := by
  refine Met.ofW (cc := cX3_number) (maxL := 3) (ret := (some .int)) (by decide) rfl ?_
  intro p e s m args below meth c s₁ B hml hv
  obtain ⟨rfl, hsz, hP, hKK, hD0⟩ := hv
  have hx := B.exec
  have hb := B.bytes
  have hr := B.returns
  have hts := atoms_spec (ws := wsX3_number) B.pre
  have hown : s.vm.findClass RX3 = some m.cls := findClass_of_methodNamed B.named
  have hlocks := B.notSynchronized
  have hK := hKK.1
  have hin1 : ∀ w ∈ wsX10, w ∈ wsX3_number := by decide +kernel
  have hin3 : ∀ w ∈ wsX30, w ∈ wsX3_number := by decide +kernel
  subst hsz
  have hD := hD0.self (sz := s.heap.size)
  obtain ⟨A, hAe⟩ : ∃ A, A = va_A (wX cI cS a na nc 0 L u0) s.heap.size := ⟨_, rfl⟩
  rw [← hAe] at hD
  have hA : ∀ q : Nat, s.heap.size ≤ q → A q := fun q h => by rw [hAe]; exact Or.inr h
  have hS : va_S A s.heap s.heap [] := va_S.rf
  have hl := lv_entry ([.ref (a 7), .int x0, .int x1]) (n := 3) (Nat.le_of_ble_eq_true rfl)
  rw [lg_entry_eq]
  generalize (lg_sl ([.ref (a 7), .int x0, .int x1]) ++ List.replicate (3 - (lg_sl ([.ref (a 7), .int x0, .int x1])).length) Slot.unset).toArray = ls at hl ⊢
  have hl : lv_has ls 3 [(0, .ref (a 7)), (1, .int x0), (2, .int x1)] := hl
  obtain ⟨u, hu9⟩ : ∃ u : SU, u = u0 := ⟨_, rfl⟩
  rw [← hu9] at hP hD
  refine lv_aload_n hx hb dX3_number_0 rfl (lv_at hl 0 rfl) ?_
  refine wk_qv (wX cI cS a na nc 0 L) u (As := []) (rest := []) ⟨hx, hb, hml, hown, hts⟩ (k_X3_notice l D cI cS _ a na nc 0 L u hL (Or.inl rfl)) hKK hP hD hS hA 7 (ci := 3) rfl rfl (cwV 0 hts gX3_number_X3_notice rfl rfl rfl (by decide +kernel) ⟨Nat.le_of_ble_eq_true rfl, Nat.le_of_ble_eq_true rfl⟩) rfl hl.1 rfl (Nat.le_of_ble_eq_true rfl) dX3_number_1 ⟨Nat.le_of_ble_eq_true rfl, Nat.le_of_ble_eq_true rfl⟩ (fun u H locs hr51377 hP hD hS => ?_)
  refine lv_aload_n hx hb dX3_number_4 rfl (lv_at hl 0 rfl) ?_
  refine va_get (D := D) (ci := 3) (v := .ref na) (C := RX3) (T := TX3) (N := 4) hx hb hts hin3 hown hK hP 7 rfl rfl 2 (by decide) (hts (.fieldLink RX3 20 "MissedPoints$Pairs" "numbers" "LMissedPoints$Memo;") (by decide +kernel)) (fun _ h9 => h9) rfl dX3_number_5 ?_
  refine wk_sv 13 (As := []) (rest := []) ⟨hx, hb, hml, hown, hts⟩ (k_X1_isBlank_13_0 l D cI cS a na nc L u hL) hKK hP (ci := 1) rfl rfl (cwV 0 hts gX3_number_X1_isBlank rfl rfl rfl (by decide +kernel) ⟨Nat.le_of_ble_eq_true rfl, Nat.le_of_ble_eq_true rfl⟩) rfl hl.1 rfl (Nat.le_of_ble_eq_true rfl) dX3_number_8 ⟨Nat.le_of_ble_eq_true rfl, Nat.le_of_ble_eq_true rfl⟩ (fun r51378 hr51378 => ?_)
  refine lv_if_eq (tgt := 28) hx hb dX3_number_11 (by decide) (fun c51379 => ?_) (fun c51379 => ?_)
  · exact absurd c51379 (wk_neq hr51378.1 (by decide : Rg 0 0 (0 : Int32)) (by decide))
  · refine lv_aload_n hx hb dX3_number_14 rfl (lv_at hl 0 rfl) ?_
    refine va_new (ci := 1) (fs := [.null, .int 0]) (C := RX1) (T := TX1) (N := 2) hx hb hts hin1 tyX1 tyX1_ok hown (hts (.classLink RX3 9 RX1) (by decide +kernel)) (hts (.instantiable RX1 2) (by decide +kernel)) (hts (.initialized RX1) (by decide +kernel)) hK hP hD hS hA rfl (fun j hj => by rcases (show j = 0 ∨ j = 1 by omega) with rfl | rfl <;> rfl) (Nat.le_of_ble_eq_true rfl) (Nat.le_of_ble_eq_true rfl) dX3_number_15 (fun nn51380 H hP hD hS => ?_)
    refine W.widen (k := 1) (n := 2) (Nat.le_of_ble_eq_true rfl) (Nat.le_of_ble_eq_true rfl) ?_
    refine lv_dup hx hb dX3_number_18 rfl ?_
    refine lv_sipush (v := 24576) hx hb dX3_number_19 (by decide) ?_
    have hP : va_P D cls ((wX cI cS a na nc 0 L u) ++ [(nn51380, .inr (1, [.null, .int 0]))]) H := hP
    have hD : va_D A ((wX cI cS a na nc 0 L u) ++ [(nn51380, .inr (1, [.null, .int 0]))]) := hD
    have hPc := hP.sub (ws' := [(nn51380, .inr (1, [.null, .int 0]))]) [45] rfl
    have hDc := hD.sub (ws' := [(nn51380, .inr (1, [.null, .int 0]))]) [45] (by decide) rfl
    refine lz_nc (wr := (wX cI cS a na nc 0 L u)) (As := [.int 24576]) (rest := [.ref nn51380, .ref (a 7)]) ⟨hx, hb, hml, hown, hts⟩ (c_X1_init_9 l D cI cS _ nn51380) hKK hP hD hS hA [45] (List.range 45) (by decide) rfl rfl (by decide) (by decide) hPc hDc (cwI 1 hts gX3_number_X1_init rfl rfl rfl (hts (.initialized RX1) (by decide +kernel)) (hts (.methodLink RX3 11 yX1_init) (by decide +kernel)) (hts (.instanceMethod yX1_init) (by decide +kernel)) rfl (by decide +kernel) ⟨Nat.le_of_ble_eq_true rfl, Nat.le_of_ble_eq_true rfl⟩) rfl hl.1 rfl (Nat.le_of_ble_eq_true rfl) dX3_number_22 ⟨Nat.le_of_ble_eq_true rfl, Nat.le_of_ble_eq_true rfl⟩ (fun no51381 H locs hP hD hS => ?_)
    refine W.widen (k := 2) (n := 24578) (Nat.le_of_ble_eq_true rfl) (Nat.le_of_ble_eq_true rfl) ?_
    refine va_put (D := D) (ci := 3) (v := .ref nn51380) (ty := (.object "MissedPoints$Memo")) (C := RX3) (T := TX3) (N := 4) hx hb hts hin3 tyX3 tyX3_ok nmX3 hown hK hP hD hS 7 rfl rfl 2 (by decide) (hts (.fieldLink RX3 20 "MissedPoints$Pairs" "numbers" "LMissedPoints$Memo;") (by decide +kernel)) (fun _ h9 => h9) rfl (by decide +kernel) rfl rfl (Nat.le_of_ble_eq_true rfl) dX3_number_25 (fun H locs hP hD hS => ?_)
    have hP := hP.sub (ws' := wX cI cS a nn51380 (no51381 0) 24576 L (sU (sU u 13 (upd (u 13) 1 1)) 14 (fun _ => 0))) [0, 1, 2, 3, 4, 5, 6, 7, 8, 9, 10, 11, 12, 45, 46, 15, 16, 17, 18, 19, 20, 21, 22, 23, 24, 25, 26, 27, 28, 29, 30, 31, 32, 33, 34, 35, 36, 37, 38, 39, 40, 41, 42, 43, 44] rfl
    have hD := hD.sub (ws' := wX cI cS a nn51380 (no51381 0) 24576 L (sU (sU u 13 (upd (u 13) 1 1)) 14 (fun _ => 0))) [0, 1, 2, 3, 4, 5, 6, 7, 8, 9, 10, 11, 12, 45, 46, 15, 16, 17, 18, 19, 20, 21, 22, 23, 24, 25, 26, 27, 28, 29, 30, 31, 32, 33, 34, 35, 36, 37, 38, 39, 40, 41, 42, 43, 44] (by decide) rfl
    obtain ⟨na, hna⟩ : ∃ z, z = nn51380 := ⟨_, rfl⟩
    obtain ⟨nc, hnc⟩ : ∃ z, z = no51381 0 := ⟨_, rfl⟩
    rw [← hna, ← hnc] at hP hD
    generalize (sU (sU u 13 (upd (u 13) 1 1)) 14 (fun _ => 0)) = u at hP hD
    refine lv_aload_n hx hb dX3_number_28 rfl (lv_at hl 0 rfl) ?_
    refine lv_iload_n hx hb dX3_number_29 rfl (lv_at hl 1 rfl) ?_
    refine lv_iload_n hx hb dX3_number_30 rfl (lv_at hl 2 rfl) ?_
    refine lv_iconst (v := 0) hx hb dX3_number_31 (by decide) ?_
    refine wk_qi (wX cI cS a na nc 24576 L) u (As := [.int x0, .int x1, .int 0]) (rest := []) ⟨hx, hb, hml, hown, hts⟩ (k_X3_numberOf l D cI cS _ a na nc 24576 L u hL (Or.inr rfl) x0 x1 (0 : Int32) px1 (by decide : Rg 0 0 (0 : Int32))) hKK hP hD hS hA 7 (ci := 3) rfl rfl (cwV 3 hts gX3_number_X3_numberOf rfl rfl rfl (by decide +kernel) ⟨Nat.le_of_ble_eq_true rfl, Nat.le_of_ble_eq_true rfl⟩) rfl hl.1 rfl (Nat.le_of_ble_eq_true rfl) dX3_number_32 ⟨Nat.le_of_ble_eq_true rfl, Nat.le_of_ble_eq_true rfl⟩ (fun r51382 u H locs hr51382 hP hD hS => ?_)
    subst hAe
    refine W.widen (k := 2) (n := 24578) (Nat.le_of_ble_eq_true rfl) (Nat.le_of_ble_eq_true rfl) ?_
    exact W.iret (v := r51382) hx hb hr (fun t ht hW => ⟨⟨_, (na, nc, u), rfl, ⟨hr51382.1, trivial⟩, by rw [ht]; exact hP, hD⟩, hS.F ht⟩) hS.2.2 dX3_number_35
set_option maxRecDepth 20000 in
theorem ggX11_ways_X2_all : GoodIn wsX11_ways wsX2_all := goodIn_r _ [7, 8, 86, 87, 88] (by decide +kernel) (by decide +kernel)
set_option maxRecDepth 20000 in
theorem gX11_ways_X2_all : GoodIn wsX11_ways (wsV RX11 128 RX2 yX2_all wsX2_all) := goodIn_app (goodIn_of _ (by decide +kernel)) ggX11_ways_X2_all
set_option maxRecDepth 20000 in
theorem ggX11_ways_X3_number : GoodIn wsX11_ways wsX3_number := goodIn_r _ [13, 14, 15, 16, 17, 18, 19, 20, 12, 21, 22, 23, 24, 25, 26, 27, 28, 29, 30, 31, 32, 33, 34, 35, 36, 37, 38, 39, 40, 41, 42, 43, 44, 45, 46, 47, 48, 49, 50, 51, 52, 53, 54, 55, 56, 57, 58, 59, 60, 61, 62, 63, 64, 65, 66, 67, 68, 69, 89, 90, 91, 92, 93, 94, 86, 87, 88] (by decide +kernel) (by decide +kernel)
set_option maxRecDepth 20000 in
theorem gX11_ways_X3_number : GoodIn wsX11_ways (wsV RX11 153 RX3 yX3_number wsX3_number) := goodIn_app (goodIn_of _ (by decide +kernel)) ggX11_ways_X3_number
theorem dX11_ways_0 : decode cX11_ways 0 = .ok (.iload_n 1, 1) := by decide +kernel
theorem dX11_ways_1 : decode cX11_ways 1 = .ok (.ifCond .lt 9, 3) := by decide +kernel
theorem dX11_ways_13 : decode cX11_ways 13 = .ok (.aload_n 0, 1) := by decide +kernel
theorem dX11_ways_14 : decode cX11_ways 14 = .ok (.getfield 21, 3) := by decide +kernel
theorem dX11_ways_17 : decode cX11_ways 17 = .ok (.aload_n 0, 1) := by decide +kernel
theorem dX11_ways_18 : decode cX11_ways 18 = .ok (.getfield 12, 3) := by decide +kernel
theorem dX11_ways_21 : decode cX11_ways 21 = .ok (.invokevirtual 128, 3) := by decide +kernel
theorem dX11_ways_24 : decode cX11_ways 24 = .ok (.iload_n 1, 1) := by decide +kernel
theorem dX11_ways_25 : decode cX11_ways 25 = .ok (.invokevirtual 153, 3) := by decide +kernel
theorem dX11_ways_28 : decode cX11_ways 28 = .ok (.ireturn, 1) := by decide +kernel
theorem dX11_ways_4 : decode cX11_ways 4 = .ok (.iload_n 1, 1) := by decide +kernel
theorem dX11_ways_5 : decode cX11_ways 5 = .ok (.bipush 6, 2) := by decide +kernel
theorem dX11_ways_7 : decode cX11_ways 7 = .ok (.if_icmp .le 6, 3) := by decide +kernel
set_option maxHeartbeats 4000000 in
set_option maxRecDepth 100000 in
theorem k_X11_ways_1 (l : Launch) (D : va_G) (cI cS : ClassId) (sz : Nat) (a : Nat → Nat) (na nc : Nat) (L u0 : SU) (hL : TyX L) (x0 : Int32) (px0 : Rg 0 6 x0) : Met l yX11_ways wsX11_ways ({ frames := 16, cells := 0, slots := 0, locals := 640 }) (PQ D cI cS (wX cI cS a na nc 24576 L u0) sz [.ref (a 0), .int x0]) (QF (S := SU) D (wX cI cS a na nc 24576 L u0) (wX cI cS a na nc 24576 L) sz (fun r _ => Rg (-2147483648) 2147483647 r ∧ True)) 0 0 (va_A (wX cI cS a na nc 24576 L u0) sz) := by
  refine Met.ofW (cc := cX11_ways) (maxL := 2) (ret := (some .int)) (by decide) rfl ?_
  intro p e s m args below meth c s₁ B hml hv
  obtain ⟨rfl, hsz, hP, hKK, hD0⟩ := hv
  have hx := B.exec
  have hb := B.bytes
  have hr := B.returns
  have hts := atoms_spec (ws := wsX11_ways) B.pre
  have hown : s.vm.findClass RX11 = some m.cls := findClass_of_methodNamed B.named
  have hlocks := B.notSynchronized
  have hK := hKK.1
  have hin11 : ∀ w ∈ wsX110, w ∈ wsX11_ways := by decide +kernel
  subst hsz
  have hD := hD0.self (sz := s.heap.size)
  obtain ⟨A, hAe⟩ : ∃ A, A = va_A (wX cI cS a na nc 24576 L u0) s.heap.size := ⟨_, rfl⟩
  rw [← hAe] at hD
  have hA : ∀ q : Nat, s.heap.size ≤ q → A q := fun q h => by rw [hAe]; exact Or.inr h
  have hS : va_S A s.heap s.heap [] := va_S.rf
  have hl := lv_entry ([.ref (a 0), .int x0]) (n := 2) (Nat.le_of_ble_eq_true rfl)
  rw [lg_entry_eq]
  generalize (lg_sl ([.ref (a 0), .int x0]) ++ List.replicate (2 - (lg_sl ([.ref (a 0), .int x0])).length) Slot.unset).toArray = ls at hl ⊢
  have hl : lv_has ls 2 [(0, .ref (a 0)), (1, .int x0)] := hl
  obtain ⟨u, hu9⟩ : ∃ u : SU, u = u0 := ⟨_, rfl⟩
  rw [← hu9] at hP hD
  refine lv_iload_n hx hb dX11_ways_0 rfl (lv_at hl 1 rfl) ?_
  refine lv_if_lt (tgt := 10) hx hb dX11_ways_1 (by decide) (fun c51387 => ?_) (fun c51387 => ?_)
  · exact absurd c51387 (wk_nlt px0 (by decide : Rg 0 0 (0 : Int32)) (by decide))
  · refine lv_iload_n hx hb dX11_ways_4 rfl (lv_at hl 1 rfl) ?_
    refine lv_bipush (v := 6) hx hb dX11_ways_5 (by decide) ?_
    refine lv_icmp_le (tgt := 13) hx hb dX11_ways_7 (by decide) (fun c51388 => ?_) (fun c51388 => ?_)
    · refine lv_aload_n hx hb dX11_ways_13 rfl (lv_at hl 0 rfl) ?_
      refine va_get (D := D) (ci := 11) (v := .ref (a 7)) (C := RX11) (T := TX11) (N := 16) hx hb hts hin11 hown hK hP 0 rfl rfl 1 (by decide) (hts (.fieldLink RX11 21 "MissedPoints" "pairs" "LMissedPoints$Pairs;") (by decide +kernel)) (fun _ h9 => h9) rfl dX11_ways_14 ?_
      refine lv_aload_n hx hb dX11_ways_17 rfl (lv_at hl 0 rfl) ?_
      refine va_get (D := D) (ci := 11) (v := .ref (a 1)) (C := RX11) (T := TX11) (N := 16) hx hb hts hin11 hown hK hP 0 rfl rfl 0 (by decide) (hts (.fieldLink RX11 12 "MissedPoints" "net" "LMissedPoints$Net;") (by decide +kernel)) (fun _ h9 => h9) rfl dX11_ways_18 ?_
      refine wk_sv 1 (As := []) (rest := [.ref (a 7)]) ⟨hx, hb, hml, hown, hts⟩ (k_X2_all l D cI cS a na nc 24576 L u hL (Or.inr rfl)) hKK hP (ci := 2) rfl rfl (cwV 0 hts gX11_ways_X2_all rfl rfl rfl (by decide +kernel) ⟨Nat.le_of_ble_eq_true rfl, Nat.le_of_ble_eq_true rfl⟩) rfl hl.1 rfl (Nat.le_of_ble_eq_true rfl) dX11_ways_21 ⟨Nat.le_of_ble_eq_true rfl, Nat.le_of_ble_eq_true rfl⟩ (fun r51389 hr51389 => ?_)
      refine lv_iload_n hx hb dX11_ways_24 rfl (lv_at hl 1 rfl) ?_
      refine wk_qi (wX cI cS a na nc 24576 L) u (As := [.int r51389, .int x0]) (rest := []) ⟨hx, hb, hml, hown, hts⟩ (k_X3_number_1 l D cI cS _ a na nc L u hL r51389 x0 (show Rg 0 65549 x0 from rg_w px0 (by decide) (by decide))) hKK hP hD hS hA 7 (ci := 3) rfl rfl (cwV 2 hts gX11_ways_X3_number rfl rfl rfl (by decide +kernel) ⟨Nat.le_of_ble_eq_true rfl, Nat.le_of_ble_eq_true rfl⟩) rfl hl.1 rfl (Nat.le_of_ble_eq_true rfl) dX11_ways_25 ⟨Nat.le_of_ble_eq_true rfl, Nat.le_of_ble_eq_true rfl⟩ (fun r51390 u H locs hr51390 hP hD hS => ?_)
      subst hAe
      exact W.iret (v := r51390) hx hb hr (fun t ht hW => ⟨⟨_, u, rfl, ⟨hr51390.1, trivial⟩, by rw [ht]; exact hP, hD⟩, hS.F ht⟩) hS.2.2 dX11_ways_28
    · exact absurd (wk_yle px0 (by decide : Rg 6 6 (6 : Int32)) (by decide)) c51388
set_option maxHeartbeats 4000000 in
set_option maxRecDepth 100000 in
theorem k_X11_ways_0 (l : Launch) (D : va_G) (cI cS : ClassId) (sz : Nat) (a : Nat → Nat) (na nc : Nat) (L u0 : SU) (hL : TyX L) (x0 : Int32) (px0 : Rg 0 6 x0) : Met l yX11_ways wsX11_ways ({ frames := 16, cells := 2, slots := 24578, locals := 640 }) (PQ D cI cS (wX cI cS a na nc 0 L u0) sz [.ref (a 0), .int x0]) (QF (S := Nat × Nat × SU) D (wX cI cS a na nc 0 L u0) (fun q => wX cI cS a q.1 q.2.1 24576 L q.2.2) sz (fun r _ => Rg (-2147483648) 2147483647 r ∧ True)) 2 24578 (va_A (wX cI cS a na nc 0 L u0) sz) := by
  refine Met.ofW (cc := cX11_ways) (maxL := 2) (ret := (some .int)) (by decide) rfl ?_
  intro p e s m args below meth c s₁ B hml hv
  obtain ⟨rfl, hsz, hP, hKK, hD0⟩ := hv
  have hx := B.exec
  have hb := B.bytes
  have hr := B.returns
  have hts := atoms_spec (ws := wsX11_ways) B.pre
  have hown : s.vm.findClass RX11 = some m.cls := findClass_of_methodNamed B.named
  have hlocks := B.notSynchronized
  have hK := hKK.1
  have hin11 : ∀ w ∈ wsX110, w ∈ wsX11_ways := by decide +kernel
  subst hsz
  have hD := hD0.self (sz := s.heap.size)
  obtain ⟨A, hAe⟩ : ∃ A, A = va_A (wX cI cS a na nc 0 L u0) s.heap.size := ⟨_, rfl⟩
  rw [← hAe] at hD
  have hA : ∀ q : Nat, s.heap.size ≤ q → A q := fun q h => by rw [hAe]; exact Or.inr h
  have hS : va_S A s.heap s.heap [] := va_S.rf
  have hl := lv_entry ([.ref (a 0), .int x0]) (n := 2) (Nat.le_of_ble_eq_true rfl)
  rw [lg_entry_eq]
  generalize (lg_sl ([.ref (a 0), .int x0]) ++ List.replicate (2 - (lg_sl ([.ref (a 0), .int x0])).length) Slot.unset).toArray = ls at hl ⊢
  have hl : lv_has ls 2 [(0, .ref (a 0)), (1, .int x0)] := hl
  obtain ⟨u, hu9⟩ : ∃ u : SU, u = u0 := ⟨_, rfl⟩
  rw [← hu9] at hP hD
  refine lv_iload_n hx hb dX11_ways_0 rfl (lv_at hl 1 rfl) ?_
  refine lv_if_lt (tgt := 10) hx hb dX11_ways_1 (by decide) (fun c51395 => ?_) (fun c51395 => ?_)
  · exact absurd c51395 (wk_nlt px0 (by decide : Rg 0 0 (0 : Int32)) (by decide))
  · refine lv_iload_n hx hb dX11_ways_4 rfl (lv_at hl 1 rfl) ?_
    refine lv_bipush (v := 6) hx hb dX11_ways_5 (by decide) ?_
    refine lv_icmp_le (tgt := 13) hx hb dX11_ways_7 (by decide) (fun c51396 => ?_) (fun c51396 => ?_)
    · refine lv_aload_n hx hb dX11_ways_13 rfl (lv_at hl 0 rfl) ?_
      refine va_get (D := D) (ci := 11) (v := .ref (a 7)) (C := RX11) (T := TX11) (N := 16) hx hb hts hin11 hown hK hP 0 rfl rfl 1 (by decide) (hts (.fieldLink RX11 21 "MissedPoints" "pairs" "LMissedPoints$Pairs;") (by decide +kernel)) (fun _ h9 => h9) rfl dX11_ways_14 ?_
      refine lv_aload_n hx hb dX11_ways_17 rfl (lv_at hl 0 rfl) ?_
      refine va_get (D := D) (ci := 11) (v := .ref (a 1)) (C := RX11) (T := TX11) (N := 16) hx hb hts hin11 hown hK hP 0 rfl rfl 0 (by decide) (hts (.fieldLink RX11 12 "MissedPoints" "net" "LMissedPoints$Net;") (by decide +kernel)) (fun _ h9 => h9) rfl dX11_ways_18 ?_
      refine wk_sv 1 (As := []) (rest := [.ref (a 7)]) ⟨hx, hb, hml, hown, hts⟩ (k_X2_all l D cI cS a na nc 0 L u hL (Or.inl rfl)) hKK hP (ci := 2) rfl rfl (cwV 0 hts gX11_ways_X2_all rfl rfl rfl (by decide +kernel) ⟨Nat.le_of_ble_eq_true rfl, Nat.le_of_ble_eq_true rfl⟩) rfl hl.1 rfl (Nat.le_of_ble_eq_true rfl) dX11_ways_21 ⟨Nat.le_of_ble_eq_true rfl, Nat.le_of_ble_eq_true rfl⟩ (fun r51397 hr51397 => ?_)
      refine lv_iload_n hx hb dX11_ways_24 rfl (lv_at hl 1 rfl) ?_
      refine wk_qA (wX cI cS a na nc 0 L u) (S := Nat × Nat × SU) (fun q => wX cI cS a q.1 q.2.1 24576 L q.2.2) (As := [.int r51397, .int x0]) (rest := []) ⟨hx, hb, hml, hown, hts⟩ (k_X3_number_0 l D cI cS a na nc L u hL r51397 x0 (show Rg 0 65549 x0 from rg_w px0 (by decide) (by decide))) hKK hP hD hS hA 7 (ci := 3) rfl rfl (cwV 2 hts gX11_ways_X3_number rfl rfl rfl (by decide +kernel) ⟨Nat.le_of_ble_eq_true rfl, Nat.le_of_ble_eq_true rfl⟩) rfl hl.1 rfl (Nat.le_of_ble_eq_true rfl) dX11_ways_25 ⟨Nat.le_of_ble_eq_true rfl, Nat.le_of_ble_eq_true rfl⟩ (fun r51398 q9 H locs hr51398 hP hD hS => ?_)
      obtain ⟨na, nc, u⟩ := q9
      have hP : va_P D cls (wX cI cS a na nc 24576 L u) H := hP
      have hD : va_D A (wX cI cS a na nc 24576 L u) := hD
      have hr51398 : Rg (-2147483648) 2147483647 r51398 ∧ True := hr51398
      subst hAe
      refine W.widen (k := 2) (n := 24578) (Nat.le_of_ble_eq_true rfl) (Nat.le_of_ble_eq_true rfl) ?_
      exact W.iret (v := r51398) hx hb hr (fun t ht hW => ⟨⟨_, (na, nc, u), rfl, ⟨hr51398.1, trivial⟩, by rw [ht]; exact hP, hD⟩, hS.F ht⟩) hS.2.2 dX11_ways_28
    · exact absurd (wk_yle px0 (by decide : Rg 6 6 (6 : Int32)) (by decide)) c51396
theorem dX11_ways_10 : decode cX11_ways 10 = .ok (.bipush (-2), 2) := by decide +kernel
theorem dX11_ways_12 : decode cX11_ways 12 = .ok (.ireturn, 1) := by decide +kernel
set_option maxHeartbeats 4000000 in
set_option maxRecDepth 100000 in
theorem k_X11_ways_b1 (l : Launch) (D : va_G) (cI cS : ClassId) (a : Nat → Nat) (na nc N : Nat) (L u : SU) (hL : TyX L) (hN : N = 0 ∨ N = 24576) (x0 : Int32) (px0 : Rg (-2147483648) (-1) x0) : Met l yX11_ways wsX11_ways ({ frames := 0, cells := 0, slots := 0, locals := 0 }) (PS D cI cS (wX cI cS a na nc N L u) [.ref (a 0), .int x0]) (vp_Si (fun r => Rg (-2) (-2) r ∧ True)) 0 0 (fun _ => False) := by
  refine Met.ofW (cc := cX11_ways) (maxL := 2) (ret := (some .int)) (by decide) rfl ?_
  intro p e s m args below meth c s₁ B hml hv
  obtain ⟨rfl, hP, hKK⟩ := hv
  have hx := B.exec
  have hb := B.bytes
  have hr := B.returns
  have hts := atoms_spec (ws := wsX11_ways) B.pre
  have hown : s.vm.findClass RX11 = some m.cls := findClass_of_methodNamed B.named
  have hlocks := B.notSynchronized
  have hK := hKK.1
  have hl := lv_entry ([.ref (a 0), .int x0]) (n := 2) (Nat.le_of_ble_eq_true rfl)
  rw [lg_entry_eq]
  generalize (lg_sl ([.ref (a 0), .int x0]) ++ List.replicate (2 - (lg_sl ([.ref (a 0), .int x0])).length) Slot.unset).toArray = ls at hl ⊢
  have hl : lv_has ls 2 [(0, .ref (a 0)), (1, .int x0)] := hl
  refine lv_iload_n hx hb dX11_ways_0 rfl (lv_at hl 1 rfl) ?_
  refine lv_if_lt (tgt := 10) hx hb dX11_ways_1 (by decide) (fun c51400 => ?_) (fun c51400 => ?_)
  · refine lv_bipush (v := (-2)) hx hb dX11_ways_10 (by decide) ?_
    exact W.iret (v := (-2)) hx hb hr (fun t ht hW => ⟨_, rfl, ⟨(by decide : Rg (-2) (-2) ((-2) : Int32)), trivial⟩, ht⟩) (fun q hq => absurd hq List.not_mem_nil) dX11_ways_12
  · exact absurd (wk_ylt px0 (by decide : Rg 0 0 (0 : Int32)) (by decide)) c51400
set_option maxHeartbeats 4000000 in
set_option maxRecDepth 100000 in
theorem k_X11_ways_b2 (l : Launch) (D : va_G) (cI cS : ClassId) (a : Nat → Nat) (na nc N : Nat) (L u : SU) (hL : TyX L) (hN : N = 0 ∨ N = 24576) (x0 : Int32) (px0 : Rg 7 2147483647 x0) : Met l yX11_ways wsX11_ways ({ frames := 0, cells := 0, slots := 0, locals := 0 }) (PS D cI cS (wX cI cS a na nc N L u) [.ref (a 0), .int x0]) (vp_Si (fun r => Rg (-2) (-2) r ∧ True)) 0 0 (fun _ => False) := by
  refine Met.ofW (cc := cX11_ways) (maxL := 2) (ret := (some .int)) (by decide) rfl ?_
  intro p e s m args below meth c s₁ B hml hv
  obtain ⟨rfl, hP, hKK⟩ := hv
  have hx := B.exec
  have hb := B.bytes
  have hr := B.returns
  have hts := atoms_spec (ws := wsX11_ways) B.pre
  have hown : s.vm.findClass RX11 = some m.cls := findClass_of_methodNamed B.named
  have hlocks := B.notSynchronized
  have hK := hKK.1
  have hl := lv_entry ([.ref (a 0), .int x0]) (n := 2) (Nat.le_of_ble_eq_true rfl)
  rw [lg_entry_eq]
  generalize (lg_sl ([.ref (a 0), .int x0]) ++ List.replicate (2 - (lg_sl ([.ref (a 0), .int x0])).length) Slot.unset).toArray = ls at hl ⊢
  have hl : lv_has ls 2 [(0, .ref (a 0)), (1, .int x0)] := hl
  refine lv_iload_n hx hb dX11_ways_0 rfl (lv_at hl 1 rfl) ?_
  refine lv_if_lt (tgt := 10) hx hb dX11_ways_1 (by decide) (fun c51403 => ?_) (fun c51403 => ?_)
  · exact absurd c51403 (wk_nlt px0 (by decide : Rg 0 0 (0 : Int32)) (by decide))
  · refine lv_iload_n hx hb dX11_ways_4 rfl (lv_at hl 1 rfl) ?_
    refine lv_bipush (v := 6) hx hb dX11_ways_5 (by decide) ?_
    refine lv_icmp_le (tgt := 13) hx hb dX11_ways_7 (by decide) (fun c51404 => ?_) (fun c51404 => ?_)
    · exact absurd c51404 (wk_nle px0 (by decide : Rg 6 6 (6 : Int32)) (by decide))
    · refine lv_bipush (v := (-2)) hx hb dX11_ways_10 (by decide) ?_
      exact W.iret (v := (-2)) hx hb hr (fun t ht hW => ⟨_, rfl, ⟨(by decide : Rg (-2) (-2) ((-2) : Int32)), trivial⟩, ht⟩) (fun q hq => absurd hq List.not_mem_nil) dX11_ways_12
set_option maxHeartbeats 4000000 in
set_option maxRecDepth 100000 in
theorem k_X2_hasPoint_z (l : Launch) (D : va_G) (cI cS : ClassId) (a : Nat → Nat) (na nc N : Nat) (L u : SU) (hL : TyX L) (hN : N = 0 ∨ N = 24576) (x0 : Int32) : Met l yX2_hasPoint wsX2_hasPoint ({ frames := 0, cells := 0, slots := 0, locals := 0 }) (PS D cI cS (wX cI cS a na nc N L u) [.ref (a 1), .int x0]) (vp_Si (fun r => Rg 0 1 r ∧ (r ≠ 0 → Rg 0 11 x0) ∧ ((r ≠ 0 → 0 ≤ x0.toInt ∧ x0.toInt < (L 1 1).toInt) ∧ (r = 0 → ¬ (0 ≤ x0.toInt ∧ x0.toInt < (L 1 1).toInt))))) 0 0 (fun _ => False) := by
  refine Met.ofW (cc := cX2_hasPoint) (maxL := 2) (ret := (some .boolean)) (by decide) rfl ?_
  intro p e s m args below meth c s₁ B hml hv
  obtain ⟨rfl, hP, hKK⟩ := hv
  have hx := B.exec
  have hb := B.bytes
  have hr := B.returns
  have hts := atoms_spec (ws := wsX2_hasPoint) B.pre
  have hown : s.vm.findClass RX2 = some m.cls := findClass_of_methodNamed B.named
  have hlocks := B.notSynchronized
  have hK := hKK.1
  have hin2 : ∀ w ∈ wsX20, w ∈ wsX2_hasPoint := by decide +kernel
  have hl := lv_entry ([.ref (a 1), .int x0]) (n := 2) (Nat.le_of_ble_eq_true rfl)
  rw [lg_entry_eq]
  generalize (lg_sl ([.ref (a 1), .int x0]) ++ List.replicate (2 - (lg_sl ([.ref (a 1), .int x0])).length) Slot.unset).toArray = ls at hl ⊢
  have hl : lv_has ls 2 [(0, .ref (a 1)), (1, .int x0)] := hl
  refine lv_iload_n hx hb dX2_hasPoint_0 rfl (lv_at hl 1 rfl) ?_
  refine lv_if_lt (tgt := 16) hx hb dX2_hasPoint_1 (by decide) (fun c51411 => ?_) (fun c51411 => ?_)
  · have g51412 : Rg (-2147483648) (-1) x0 := rg_ltl (rg_any x0) (by decide : Rg 0 0 (0 : Int32)) c51411 (by decide)
    refine lv_iconst (v := 0) hx hb dX2_hasPoint_16 (by decide) ?_
    exact W.zret (v := 0) hx hb hr (by decide) (fun t ht hW => ⟨_, rfl, ⟨(by decide : Rg 0 1 (0 : Int32)), fun h9 => absurd rfl h9, ⟨fun h9 => absurd rfl h9, fun _ => (by have y90 : x0.toInt < (0 : Int32).toInt := (lz_lt _ _).mp c51411; have y91 : Rg (-2147483648) (-1) x0 := g51412; have y92 : Rg (-2147483648) (-1) x0 := g51412; have y9c3 : (0 : Int32).toInt = 0 := (by decide); have y9c4 : (1 : Int32).toInt = 1 := (by decide); skip; omega)⟩⟩, ht⟩) (fun q hq => absurd hq List.not_mem_nil) dX2_hasPoint_17
  · have g51413 : Rg 0 2147483647 x0 := rg_ler (by decide : Rg 0 0 (0 : Int32)) (rg_any x0) (rg_nlt c51411) (by decide)
    refine lv_iload_n hx hb dX2_hasPoint_4 rfl (lv_at hl 1 rfl) ?_
    refine lv_aload_n hx hb dX2_hasPoint_5 rfl (lv_at hl 0 rfl) ?_
    refine va_get (D := D) (ci := 2) (v := .int (L 1 1)) (C := RX2) (T := TX2) (N := 3) hx hb hts hin2 hown hK hP 1 rfl rfl 1 (by decide) (hts (.fieldLink RX2 15 "MissedPoints$Net" "size" "I") (by decide +kernel)) (fun _ h9 => h9) rfl dX2_hasPoint_6 ?_
    refine lv_icmp_ge (tgt := 16) hx hb dX2_hasPoint_9 (by decide) (fun c51414 => ?_) (fun c51414 => ?_)
    · refine lv_iconst (v := 0) hx hb dX2_hasPoint_16 (by decide) ?_
      exact W.zret (v := 0) hx hb hr (by decide) (fun t ht hW => ⟨_, rfl, ⟨(by decide : Rg 0 1 (0 : Int32)), fun h9 => absurd rfl h9, ⟨fun h9 => absurd rfl h9, fun _ => (by have y90 : (0 : Int32).toInt ≤ x0.toInt := (lz_le _ _).mp (rg_nlt c51411); have y91 : (L 1 1).toInt ≤ x0.toInt := (lz_le _ _).mp c51414; have y92 : Rg 0 2147483647 x0 := g51413; have y93 : Rg 0 2147483647 x0 := g51413; have y9c4 : (0 : Int32).toInt = 0 := (by decide); have y9c5 : (1 : Int32).toInt = 1 := (by decide); skip; omega)⟩⟩, ht⟩) (fun q hq => absurd hq List.not_mem_nil) dX2_hasPoint_17
    · have g51415 : Rg 1 12 (L 1 1) := rg_ltr g51413 hL.1 (rg_nle c51414) (by decide)
      have g51416 : Rg 0 11 x0 := rg_ltl g51413 hL.1 (rg_nle c51414) (by decide)
      refine lv_iconst (v := 1) hx hb dX2_hasPoint_12 (by decide) ?_
      refine lv_goto (tgt := 17) hx hb dX2_hasPoint_13 (by decide) ?_
      exact W.zret (v := 1) hx hb hr (by decide) (fun t ht hW => ⟨_, rfl, ⟨(by decide : Rg 0 1 (1 : Int32)), fun _ => g51416, ⟨fun _ => (by have y90 : (0 : Int32).toInt ≤ x0.toInt := (lz_le _ _).mp (rg_nlt c51411); have y91 : x0.toInt < (L 1 1).toInt := (lz_lt _ _).mp (rg_nle c51414); have y92 : Rg 0 11 x0 := g51416; have y93 : Rg 1 12 (L 1 1) := g51415; have y94 : Rg 0 11 x0 := g51416; have y9c5 : (0 : Int32).toInt = 0 := (by decide); have y9c6 : (1 : Int32).toInt = 1 := (by decide); skip; omega), fun h9 => absurd h9 (by decide)⟩⟩, ht⟩) (fun q hq => absurd hq List.not_mem_nil) dX2_hasPoint_17
set_option maxRecDepth 20000 in
theorem ggX11_alone_X11_greatestDivisor : GoodIn wsX11_alone wsX11_greatestDivisor := goodIn_r _ [85] (by decide +kernel) (by decide +kernel)
set_option maxRecDepth 20000 in
theorem gX11_alone_X11_greatestDivisor : GoodIn wsX11_alone (va_wsS RX11 157 yX11_greatestDivisor wsX11_greatestDivisor) := goodIn_app (goodIn_of _ (by decide +kernel)) ggX11_alone_X11_greatestDivisor
set_option maxRecDepth 20000 in
theorem ggX11_alone_X2_all : GoodIn wsX11_alone wsX2_all := goodIn_r _ [12, 8, 102, 103, 104] (by decide +kernel) (by decide +kernel)
set_option maxRecDepth 20000 in
theorem gX11_alone_X2_all : GoodIn wsX11_alone (wsV RX11 128 RX2 yX2_all wsX2_all) := goodIn_app (goodIn_of _ (by decide +kernel)) ggX11_alone_X2_all
set_option maxRecDepth 20000 in
theorem ggX11_alone_X2_hasPoint : GoodIn wsX11_alone wsX2_hasPoint := goodIn_r _ [7, 8, 102, 103, 104] (by decide +kernel) (by decide +kernel)
set_option maxRecDepth 20000 in
theorem gX11_alone_X2_hasPoint : GoodIn wsX11_alone (wsV RX11 116 RX2 yX2_hasPoint wsX2_hasPoint) := goodIn_app (goodIn_of _ (by decide +kernel)) ggX11_alone_X2_hasPoint
set_option maxRecDepth 20000 in
theorem ggX11_alone_X3_best : GoodIn wsX11_alone wsX3_best := goodIn_r _ [17, 18, 19, 20, 16, 21, 22, 23, 24, 25, 26, 27, 28, 29, 30, 31, 32, 33, 34, 35, 36, 37, 38, 39, 40, 41, 42, 43, 44, 45, 46, 47, 48, 49, 50, 51, 52, 53, 54, 55, 56, 105, 106, 107, 108, 102, 103, 104, 109, 110] (by decide +kernel) (by decide +kernel)
set_option maxRecDepth 20000 in
theorem gX11_alone_X3_best : GoodIn wsX11_alone (wsV RX11 131 RX3 yX3_best wsX3_best) := goodIn_app (goodIn_of _ (by decide +kernel)) ggX11_alone_X3_best
set_option maxRecDepth 20000 in
theorem ggX11_alone_X3_number : GoodIn wsX11_alone wsX3_number := goodIn_r _ [60, 25, 61, 62, 29, 18, 19, 20, 16, 21, 22, 23, 24, 26, 27, 28, 30, 31, 32, 63, 64, 65, 66, 67, 68, 69, 70, 71, 72, 73, 74, 75, 76, 77, 78, 79, 80, 81, 37, 38, 39, 40, 41, 47, 48, 49, 50, 51, 52, 42, 43, 44, 45, 46, 53, 54, 55, 56, 105, 106, 107, 108, 109, 110, 102, 103, 104] (by decide +kernel) (by decide +kernel)
set_option maxRecDepth 20000 in
theorem gX11_alone_X3_number : GoodIn wsX11_alone (wsV RX11 153 RX3 yX3_number wsX3_number) := goodIn_app (goodIn_of _ (by decide +kernel)) ggX11_alone_X3_number
theorem dX11_alone_0 : decode cX11_alone 0 = .ok (.aload_n 0, 1) := by decide +kernel
theorem dX11_alone_1 : decode cX11_alone 1 = .ok (.getfield 12, 3) := by decide +kernel
theorem dX11_alone_100 : decode cX11_alone 100 = .ok (.iload 4, 2) := by decide +kernel
theorem dX11_alone_102 : decode cX11_alone 102 = .ok (.goto 5, 3) := by decide +kernel
theorem dX11_alone_105 : decode cX11_alone 105 = .ok (.iload 5, 2) := by decide +kernel
theorem dX11_alone_107 : decode cX11_alone 107 = .ok (.iload 6, 2) := by decide +kernel
theorem dX11_alone_109 : decode cX11_alone 109 = .ok (.idiv, 1) := by decide +kernel
theorem dX11_alone_11 : decode cX11_alone 11 = .ok (.iload_n 2, 1) := by decide +kernel
theorem dX11_alone_110 : decode cX11_alone 110 = .ok (.ireturn, 1) := by decide +kernel
theorem dX11_alone_12 : decode cX11_alone 12 = .ok (.ifCond .eq 11, 3) := by decide +kernel
theorem dX11_alone_15 : decode cX11_alone 15 = .ok (.iload_n 2, 1) := by decide +kernel
theorem dX11_alone_16 : decode cX11_alone 16 = .ok (.iconst 1, 1) := by decide +kernel
theorem dX11_alone_17 : decode cX11_alone 17 = .ok (.if_icmp .eq 6, 3) := by decide +kernel
theorem dX11_alone_20 : decode cX11_alone 20 = .ok (.bipush (-2), 2) := by decide +kernel
theorem dX11_alone_23 : decode cX11_alone 23 = .ok (.aload_n 0, 1) := by decide +kernel
theorem dX11_alone_24 : decode cX11_alone 24 = .ok (.getfield 21, 3) := by decide +kernel
theorem dX11_alone_27 : decode cX11_alone 27 = .ok (.aload_n 0, 1) := by decide +kernel
theorem dX11_alone_28 : decode cX11_alone 28 = .ok (.getfield 12, 3) := by decide +kernel
theorem dX11_alone_31 : decode cX11_alone 31 = .ok (.invokevirtual 128, 3) := by decide +kernel
theorem dX11_alone_34 : decode cX11_alone 34 = .ok (.invokevirtual 131, 3) := by decide +kernel
theorem dX11_alone_37 : decode cX11_alone 37 = .ok (.istore_n 3, 1) := by decide +kernel
theorem dX11_alone_38 : decode cX11_alone 38 = .ok (.aload_n 0, 1) := by decide +kernel
theorem dX11_alone_39 : decode cX11_alone 39 = .ok (.getfield 21, 3) := by decide +kernel
theorem dX11_alone_4 : decode cX11_alone 4 = .ok (.iload_n 1, 1) := by decide +kernel
theorem dX11_alone_42 : decode cX11_alone 42 = .ok (.aload_n 0, 1) := by decide +kernel
theorem dX11_alone_43 : decode cX11_alone 43 = .ok (.getfield 12, 3) := by decide +kernel
theorem dX11_alone_46 : decode cX11_alone 46 = .ok (.invokevirtual 128, 3) := by decide +kernel
theorem dX11_alone_49 : decode cX11_alone 49 = .ok (.iconst 1, 1) := by decide +kernel
theorem dX11_alone_5 : decode cX11_alone 5 = .ok (.invokevirtual 116, 3) := by decide +kernel
theorem dX11_alone_50 : decode cX11_alone 50 = .ok (.iload_n 1, 1) := by decide +kernel
theorem dX11_alone_51 : decode cX11_alone 51 = .ok (.ishl, 1) := by decide +kernel
theorem dX11_alone_52 : decode cX11_alone 52 = .ok (.iconst (-1), 1) := by decide +kernel
theorem dX11_alone_53 : decode cX11_alone 53 = .ok (.ixor, 1) := by decide +kernel
theorem dX11_alone_54 : decode cX11_alone 54 = .ok (.iand, 1) := by decide +kernel
theorem dX11_alone_55 : decode cX11_alone 55 = .ok (.iload_n 3, 1) := by decide +kernel
theorem dX11_alone_56 : decode cX11_alone 56 = .ok (.invokevirtual 153, 3) := by decide +kernel
theorem dX11_alone_59 : decode cX11_alone 59 = .ok (.istore 4, 2) := by decide +kernel
theorem dX11_alone_61 : decode cX11_alone 61 = .ok (.aload_n 0, 1) := by decide +kernel
theorem dX11_alone_62 : decode cX11_alone 62 = .ok (.getfield 21, 3) := by decide +kernel
theorem dX11_alone_65 : decode cX11_alone 65 = .ok (.aload_n 0, 1) := by decide +kernel
theorem dX11_alone_66 : decode cX11_alone 66 = .ok (.getfield 12, 3) := by decide +kernel
theorem dX11_alone_69 : decode cX11_alone 69 = .ok (.invokevirtual 128, 3) := by decide +kernel
theorem dX11_alone_72 : decode cX11_alone 72 = .ok (.iload_n 3, 1) := by decide +kernel
theorem dX11_alone_73 : decode cX11_alone 73 = .ok (.invokevirtual 153, 3) := by decide +kernel
theorem dX11_alone_76 : decode cX11_alone 76 = .ok (.istore 5, 2) := by decide +kernel
theorem dX11_alone_78 : decode cX11_alone 78 = .ok (.iload 4, 2) := by decide +kernel
theorem dX11_alone_8 : decode cX11_alone 8 = .ok (.ifCond .eq 12, 3) := by decide +kernel
theorem dX11_alone_80 : decode cX11_alone 80 = .ok (.iload 5, 2) := by decide +kernel
theorem dX11_alone_82 : decode cX11_alone 82 = .ok (.invokestatic 157, 3) := by decide +kernel
theorem dX11_alone_85 : decode cX11_alone 85 = .ok (.istore 6, 2) := by decide +kernel
theorem dX11_alone_87 : decode cX11_alone 87 = .ok (.iload 6, 2) := by decide +kernel
theorem dX11_alone_89 : decode cX11_alone 89 = .ok (.iconst 1, 1) := by decide +kernel
theorem dX11_alone_90 : decode cX11_alone 90 = .ok (.if_icmp .ge 6, 3) := by decide +kernel
theorem dX11_alone_93 : decode cX11_alone 93 = .ok (.bipush (-2), 2) := by decide +kernel
theorem dX11_alone_95 : decode cX11_alone 95 = .ok (.ireturn, 1) := by decide +kernel
theorem dX11_alone_96 : decode cX11_alone 96 = .ok (.iload_n 2, 1) := by decide +kernel
theorem dX11_alone_97 : decode cX11_alone 97 = .ok (.ifCond .ne 8, 3) := by decide +kernel
set_option maxHeartbeats 4000000 in
set_option maxRecDepth 100000 in
theorem k_X11_alone_1 (l : Launch) (D : va_G) (cI cS : ClassId) (sz : Nat) (a : Nat → Nat) (na nc : Nat) (L u0 : SU) (hL : TyX L) (x0 x1 : Int32) (px1 : Rg 0 1 x1) (hpt : 0 ≤ x0.toInt ∧ x0.toInt < (L 1 1).toInt) : Met l yX11_alone wsX11_alone ({ frames := 16, cells := 0, slots := 0, locals := 640 }) (PQ D cI cS (wX cI cS a na nc 24576 L u0) sz [.ref (a 0), .int x0, .int x1]) (QF (S := SU) D (wX cI cS a na nc 24576 L u0) (wX cI cS a na nc 24576 L) sz (fun r _ => Rg (-2147483648) 2147483647 r ∧ True)) 0 0 (va_A (wX cI cS a na nc 24576 L u0) sz) := by
  refine Met.ofW (cc := cX11_alone) (maxL := 7) (ret := (some .int)) (by decide) rfl ?_
  intro p e s m args below meth c s₁ B hml hv
  obtain ⟨rfl, hsz, hP, hKK, hD0⟩ := hv
  have hx := B.exec
  have hb := B.bytes
  have hr := B.returns
  have hts := atoms_spec (ws := wsX11_alone) B.pre
  have hown : s.vm.findClass RX11 = some m.cls := findClass_of_methodNamed B.named
  have hlocks := B.notSynchronized
  have hK := hKK.1
  have hin11 : ∀ w ∈ wsX110, w ∈ wsX11_alone := by decide +kernel
  subst hsz
  have hD := hD0.self (sz := s.heap.size)
  obtain ⟨A, hAe⟩ : ∃ A, A = va_A (wX cI cS a na nc 24576 L u0) s.heap.size := ⟨_, rfl⟩
  rw [← hAe] at hD
  have hA : ∀ q : Nat, s.heap.size ≤ q → A q := fun q h => by rw [hAe]; exact Or.inr h
  have hS : va_S A s.heap s.heap [] := va_S.rf
  have hl := lv_entry ([.ref (a 0), .int x0, .int x1]) (n := 7) (Nat.le_of_ble_eq_true rfl)
  rw [lg_entry_eq]
  generalize (lg_sl ([.ref (a 0), .int x0, .int x1]) ++ List.replicate (7 - (lg_sl ([.ref (a 0), .int x0, .int x1])).length) Slot.unset).toArray = ls at hl ⊢
  have hl : lv_has ls 7 [(0, .ref (a 0)), (1, .int x0), (2, .int x1)] := hl
  obtain ⟨u, hu9⟩ : ∃ u : SU, u = u0 := ⟨_, rfl⟩
  rw [← hu9] at hP hD
  refine lv_aload_n hx hb dX11_alone_0 rfl (lv_at hl 0 rfl) ?_
  refine va_get (D := D) (ci := 11) (v := .ref (a 1)) (C := RX11) (T := TX11) (N := 16) hx hb hts hin11 hown hK hP 0 rfl rfl 0 (by decide) (hts (.fieldLink RX11 12 "MissedPoints" "net" "LMissedPoints$Net;") (by decide +kernel)) (fun _ h9 => h9) rfl dX11_alone_1 ?_
  refine lv_iload_n hx hb dX11_alone_4 rfl (lv_at hl 1 rfl) ?_
  refine wk_sv 1 (As := [.int x0]) (rest := []) ⟨hx, hb, hml, hown, hts⟩ (k_X2_hasPoint_z l D cI cS a na nc 24576 L u hL (Or.inr rfl) x0) hKK hP (ci := 2) rfl rfl (cwV 1 hts gX11_alone_X2_hasPoint rfl rfl rfl (by decide +kernel) ⟨Nat.le_of_ble_eq_true rfl, Nat.le_of_ble_eq_true rfl⟩) rfl hl.1 rfl (Nat.le_of_ble_eq_true rfl) dX11_alone_5 ⟨Nat.le_of_ble_eq_true rfl, Nat.le_of_ble_eq_true rfl⟩ (fun r51456 hr51456 => ?_)
  refine lv_if_eq (tgt := 20) hx hb dX11_alone_8 (by decide) (fun c51457 => ?_) (fun c51457 => ?_)
  · have g51458 : Rg 0 0 r51456 := wk_eql hr51456.1 (by decide : Rg 0 0 (0 : Int32)) c51457 (by decide)
    exact absurd hpt (hr51456.2.2 c51457)
  · have g51459 : Rg 0 11 x0 := (hr51456.2.1 c51457)
    have g51460 : Rg 1 1 r51456 := rg_ne_lo (k := 0) hr51456.1 (by decide) c51457 (by decide)
    refine lv_iload_n hx hb dX11_alone_11 rfl (lv_at hl 2 rfl) ?_
    refine lv_if_eq (tgt := 23) hx hb dX11_alone_12 (by decide) (fun c51461 => ?_) (fun c51461 => ?_)
    · have g51462 : Rg 0 0 x1 := wk_eql px1 (by decide : Rg 0 0 (0 : Int32)) c51461 (by decide)
      refine lv_aload_n hx hb dX11_alone_23 rfl (lv_at hl 0 rfl) ?_
      refine va_get (D := D) (ci := 11) (v := .ref (a 7)) (C := RX11) (T := TX11) (N := 16) hx hb hts hin11 hown hK hP 0 rfl rfl 1 (by decide) (hts (.fieldLink RX11 21 "MissedPoints" "pairs" "LMissedPoints$Pairs;") (by decide +kernel)) (fun _ h9 => h9) rfl dX11_alone_24 ?_
      refine lv_aload_n hx hb dX11_alone_27 rfl (lv_at hl 0 rfl) ?_
      refine va_get (D := D) (ci := 11) (v := .ref (a 1)) (C := RX11) (T := TX11) (N := 16) hx hb hts hin11 hown hK hP 0 rfl rfl 0 (by decide) (hts (.fieldLink RX11 12 "MissedPoints" "net" "LMissedPoints$Net;") (by decide +kernel)) (fun _ h9 => h9) rfl dX11_alone_28 ?_
      refine wk_sv 1 (As := []) (rest := [.ref (a 7)]) ⟨hx, hb, hml, hown, hts⟩ (k_X2_all l D cI cS a na nc 24576 L u hL (Or.inr rfl)) hKK hP (ci := 2) rfl rfl (cwV 0 hts gX11_alone_X2_all rfl rfl rfl (by decide +kernel) ⟨Nat.le_of_ble_eq_true rfl, Nat.le_of_ble_eq_true rfl⟩) rfl hl.1 rfl (Nat.le_of_ble_eq_true rfl) dX11_alone_31 ⟨Nat.le_of_ble_eq_true rfl, Nat.le_of_ble_eq_true rfl⟩ (fun r51463 hr51463 => ?_)
      refine wk_qi (wX cI cS a na nc 24576 L) u (As := [.int r51463]) (rest := []) ⟨hx, hb, hml, hown, hts⟩ (k_X3_best l D cI cS _ a na nc 24576 L u hL (Or.inr rfl) r51463) hKK hP hD hS hA 7 (ci := 3) rfl rfl (cwV 1 hts gX11_alone_X3_best rfl rfl rfl (by decide +kernel) ⟨Nat.le_of_ble_eq_true rfl, Nat.le_of_ble_eq_true rfl⟩) rfl hl.1 rfl (Nat.le_of_ble_eq_true rfl) dX11_alone_34 ⟨Nat.le_of_ble_eq_true rfl, Nat.le_of_ble_eq_true rfl⟩ (fun r51464 u H locs hr51464 hP hD hS => ?_)
      refine lv_istore_n (lv' := [(3, .int r51464), (0, .ref (a 0)), (1, .int x0), (2, .int x1)]) hx hb dX11_alone_37 rfl hl (by decide) rfl (fun ls hl => ?_)
      refine lv_aload_n hx hb dX11_alone_38 rfl (lv_at hl 1 rfl) ?_
      refine va_get (D := D) (ci := 11) (v := .ref (a 7)) (C := RX11) (T := TX11) (N := 16) hx hb hts hin11 hown hK hP 0 rfl rfl 1 (by decide) (hts (.fieldLink RX11 21 "MissedPoints" "pairs" "LMissedPoints$Pairs;") (by decide +kernel)) (fun _ h9 => h9) rfl dX11_alone_39 ?_
      refine lv_aload_n hx hb dX11_alone_42 rfl (lv_at hl 1 rfl) ?_
      refine va_get (D := D) (ci := 11) (v := .ref (a 1)) (C := RX11) (T := TX11) (N := 16) hx hb hts hin11 hown hK hP 0 rfl rfl 0 (by decide) (hts (.fieldLink RX11 12 "MissedPoints" "net" "LMissedPoints$Net;") (by decide +kernel)) (fun _ h9 => h9) rfl dX11_alone_43 ?_
      refine wk_sv 1 (As := []) (rest := [.ref (a 7)]) ⟨hx, hb, hml, hown, hts⟩ (k_X2_all l D cI cS a na nc 24576 L u hL (Or.inr rfl)) hKK hP (ci := 2) rfl rfl (cwV 0 hts gX11_alone_X2_all rfl rfl rfl (by decide +kernel) ⟨Nat.le_of_ble_eq_true rfl, Nat.le_of_ble_eq_true rfl⟩) rfl hl.1 rfl (Nat.le_of_ble_eq_true rfl) dX11_alone_46 ⟨Nat.le_of_ble_eq_true rfl, Nat.le_of_ble_eq_true rfl⟩ (fun r51465 hr51465 => ?_)
      refine lv_iconst (v := 1) hx hb dX11_alone_49 (by decide) ?_
      refine lv_iload_n hx hb dX11_alone_50 rfl (lv_at hl 2 rfl) ?_
      refine wk_ishl1 (f := 2048) hx hb dX11_alone_51 g51459 (by decide) (fun r51466 hr51466 qr51466 => ?_)
      refine lv_iconst (v := (-1)) hx hb dX11_alone_52 (by decide) ?_
      refine lv_ixor hx hb dX11_alone_53 ?_
      refine wk_topP (P := fun r => r = r51466 ^^^ ((-1) : Int32)) rfl (fun r51467 qr51467 => ?_)
      refine wk_iandl hx hb dX11_alone_54 hr51465.1 (by decide) (fun r51468 hr51468 qr51468 => ?_)
      refine lv_iload_n hx hb dX11_alone_55 rfl (lv_at hl 0 rfl) ?_
      refine wk_qi (wX cI cS a na nc 24576 L) u (As := [.int r51468, .int r51464]) (rest := []) ⟨hx, hb, hml, hown, hts⟩ (k_X3_number_1 l D cI cS _ a na nc L u hL r51468 r51464 hr51464.1) hKK hP hD hS hA 7 (ci := 3) rfl rfl (cwV 2 hts gX11_alone_X3_number rfl rfl rfl (by decide +kernel) ⟨Nat.le_of_ble_eq_true rfl, Nat.le_of_ble_eq_true rfl⟩) rfl hl.1 rfl (Nat.le_of_ble_eq_true rfl) dX11_alone_56 ⟨Nat.le_of_ble_eq_true rfl, Nat.le_of_ble_eq_true rfl⟩ (fun r51469 u H locs hr51469 hP hD hS => ?_)
      refine lv_istore (lv' := [(4, .int r51469), (3, .int r51464), (0, .ref (a 0)), (1, .int x0), (2, .int x1)]) hx hb dX11_alone_59 hl (by decide) rfl (fun ls hl => ?_)
      refine lv_aload_n hx hb dX11_alone_61 rfl (lv_at hl 2 rfl) ?_
      refine va_get (D := D) (ci := 11) (v := .ref (a 7)) (C := RX11) (T := TX11) (N := 16) hx hb hts hin11 hown hK hP 0 rfl rfl 1 (by decide) (hts (.fieldLink RX11 21 "MissedPoints" "pairs" "LMissedPoints$Pairs;") (by decide +kernel)) (fun _ h9 => h9) rfl dX11_alone_62 ?_
      refine lv_aload_n hx hb dX11_alone_65 rfl (lv_at hl 2 rfl) ?_
      refine va_get (D := D) (ci := 11) (v := .ref (a 1)) (C := RX11) (T := TX11) (N := 16) hx hb hts hin11 hown hK hP 0 rfl rfl 0 (by decide) (hts (.fieldLink RX11 12 "MissedPoints" "net" "LMissedPoints$Net;") (by decide +kernel)) (fun _ h9 => h9) rfl dX11_alone_66 ?_
      refine wk_sv 1 (As := []) (rest := [.ref (a 7)]) ⟨hx, hb, hml, hown, hts⟩ (k_X2_all l D cI cS a na nc 24576 L u hL (Or.inr rfl)) hKK hP (ci := 2) rfl rfl (cwV 0 hts gX11_alone_X2_all rfl rfl rfl (by decide +kernel) ⟨Nat.le_of_ble_eq_true rfl, Nat.le_of_ble_eq_true rfl⟩) rfl hl.1 rfl (Nat.le_of_ble_eq_true rfl) dX11_alone_69 ⟨Nat.le_of_ble_eq_true rfl, Nat.le_of_ble_eq_true rfl⟩ (fun r51470 hr51470 => ?_)
      refine lv_iload_n hx hb dX11_alone_72 rfl (lv_at hl 1 rfl) ?_
      refine wk_qi (wX cI cS a na nc 24576 L) u (As := [.int r51470, .int r51464]) (rest := []) ⟨hx, hb, hml, hown, hts⟩ (k_X3_number_1 l D cI cS _ a na nc L u hL r51470 r51464 hr51464.1) hKK hP hD hS hA 7 (ci := 3) rfl rfl (cwV 2 hts gX11_alone_X3_number rfl rfl rfl (by decide +kernel) ⟨Nat.le_of_ble_eq_true rfl, Nat.le_of_ble_eq_true rfl⟩) rfl hl.1 rfl (Nat.le_of_ble_eq_true rfl) dX11_alone_73 ⟨Nat.le_of_ble_eq_true rfl, Nat.le_of_ble_eq_true rfl⟩ (fun r51471 u H locs hr51471 hP hD hS => ?_)
      refine lv_istore (lv' := [(5, .int r51471), (4, .int r51469), (3, .int r51464), (0, .ref (a 0)), (1, .int x0), (2, .int x1)]) hx hb dX11_alone_76 hl (by decide) rfl (fun ls hl => ?_)
      refine lv_iload hx hb dX11_alone_78 (lv_at hl 1 rfl) ?_
      refine lv_iload hx hb dX11_alone_80 (lv_at hl 0 rfl) ?_
      refine lz_ss (As := [.int r51469, .int r51471]) (rest := []) ⟨hx, hb, hml, hown, hts⟩ (k_X11_greatestDivisor l D cI cS r51469 r51471) hKK (hP.sub (ws' := []) [] rfl) (va_cwS 2 hts gX11_alone_X11_greatestDivisor rfl rfl rfl (by decide +kernel) ⟨Nat.le_of_ble_eq_true rfl, Nat.le_of_ble_eq_true rfl⟩) rfl hl.1 rfl (Nat.le_of_ble_eq_true rfl) dX11_alone_82 ⟨Nat.le_of_ble_eq_true rfl, Nat.le_of_ble_eq_true rfl⟩ (fun r51472 hr51472 => ?_)
      refine lv_istore (lv' := [(6, .int r51472), (5, .int r51471), (4, .int r51469), (3, .int r51464), (0, .ref (a 0)), (1, .int x0), (2, .int x1)]) hx hb dX11_alone_85 hl (by decide) rfl (fun ls hl => ?_)
      refine lv_iload hx hb dX11_alone_87 (lv_at hl 0 rfl) ?_
      refine lv_iconst (v := 1) hx hb dX11_alone_89 (by decide) ?_
      refine lv_icmp_ge (tgt := 96) hx hb dX11_alone_90 (by decide) (fun c51473 => ?_) (fun c51473 => ?_)
      · have g51474 : Rg 1 2147483647 r51472 := rg_ler (by decide : Rg 1 1 (1 : Int32)) hr51472.1 c51473 (by decide)
        refine lv_iload_n hx hb dX11_alone_96 rfl (lv_at hl 6 rfl) ?_
        refine lv_if_ne (tgt := 105) hx hb dX11_alone_97 (by decide) (fun c51475 => ?_) (fun c51475 => ?_)
        · exact absurd (wk_yeq g51462 (by decide : Rg 0 0 (0 : Int32)) (by decide)) c51475
        · refine lv_iload hx hb dX11_alone_100 (lv_at hl 2 rfl) ?_
          refine lv_goto (tgt := 107) hx hb dX11_alone_102 (by decide) ?_
          refine lv_iload hx hb dX11_alone_107 (lv_at hl 0 rfl) ?_
          refine lv_idiv hx hb dX11_alone_109 (wk_nz g51474 (by decide)) ?_
          refine wk_any (fun r51476 => ?_)
          subst hAe
          exact W.iret (v := r51476) hx hb hr (fun t ht hW => ⟨⟨_, u, rfl, ⟨(rg_any r51476), trivial⟩, by rw [ht]; exact hP, hD⟩, hS.F ht⟩) hS.2.2 dX11_alone_110
      · have g51477 : Rg (-2147483648) 0 r51472 := rg_ltl hr51472.1 (by decide : Rg 1 1 (1 : Int32)) (rg_nle c51473) (by decide)
        refine lv_bipush (v := (-2)) hx hb dX11_alone_93 (by decide) ?_
        subst hAe
        exact W.iret (v := (-2)) hx hb hr (fun t ht hW => ⟨⟨_, u, rfl, ⟨(by decide : Rg (-2147483648) 2147483647 ((-2) : Int32)), trivial⟩, by rw [ht]; exact hP, hD⟩, hS.F ht⟩) hS.2.2 dX11_alone_95
    · have g51478 : Rg 1 1 x1 := rg_ne_lo (k := 0) px1 (by decide) c51461 (by decide)
      refine lv_iload_n hx hb dX11_alone_15 rfl (lv_at hl 2 rfl) ?_
      refine lv_iconst (v := 1) hx hb dX11_alone_16 (by decide) ?_
      refine lv_icmp_eq (tgt := 23) hx hb dX11_alone_17 (by decide) (fun c51479 => ?_) (fun c51479 => ?_)
      · refine lv_aload_n hx hb dX11_alone_23 rfl (lv_at hl 0 rfl) ?_
        refine va_get (D := D) (ci := 11) (v := .ref (a 7)) (C := RX11) (T := TX11) (N := 16) hx hb hts hin11 hown hK hP 0 rfl rfl 1 (by decide) (hts (.fieldLink RX11 21 "MissedPoints" "pairs" "LMissedPoints$Pairs;") (by decide +kernel)) (fun _ h9 => h9) rfl dX11_alone_24 ?_
        refine lv_aload_n hx hb dX11_alone_27 rfl (lv_at hl 0 rfl) ?_
        refine va_get (D := D) (ci := 11) (v := .ref (a 1)) (C := RX11) (T := TX11) (N := 16) hx hb hts hin11 hown hK hP 0 rfl rfl 0 (by decide) (hts (.fieldLink RX11 12 "MissedPoints" "net" "LMissedPoints$Net;") (by decide +kernel)) (fun _ h9 => h9) rfl dX11_alone_28 ?_
        refine wk_sv 1 (As := []) (rest := [.ref (a 7)]) ⟨hx, hb, hml, hown, hts⟩ (k_X2_all l D cI cS a na nc 24576 L u hL (Or.inr rfl)) hKK hP (ci := 2) rfl rfl (cwV 0 hts gX11_alone_X2_all rfl rfl rfl (by decide +kernel) ⟨Nat.le_of_ble_eq_true rfl, Nat.le_of_ble_eq_true rfl⟩) rfl hl.1 rfl (Nat.le_of_ble_eq_true rfl) dX11_alone_31 ⟨Nat.le_of_ble_eq_true rfl, Nat.le_of_ble_eq_true rfl⟩ (fun r51480 hr51480 => ?_)
        refine wk_qi (wX cI cS a na nc 24576 L) u (As := [.int r51480]) (rest := []) ⟨hx, hb, hml, hown, hts⟩ (k_X3_best l D cI cS _ a na nc 24576 L u hL (Or.inr rfl) r51480) hKK hP hD hS hA 7 (ci := 3) rfl rfl (cwV 1 hts gX11_alone_X3_best rfl rfl rfl (by decide +kernel) ⟨Nat.le_of_ble_eq_true rfl, Nat.le_of_ble_eq_true rfl⟩) rfl hl.1 rfl (Nat.le_of_ble_eq_true rfl) dX11_alone_34 ⟨Nat.le_of_ble_eq_true rfl, Nat.le_of_ble_eq_true rfl⟩ (fun r51481 u H locs hr51481 hP hD hS => ?_)
        refine lv_istore_n (lv' := [(3, .int r51481), (0, .ref (a 0)), (1, .int x0), (2, .int x1)]) hx hb dX11_alone_37 rfl hl (by decide) rfl (fun ls hl => ?_)
        refine lv_aload_n hx hb dX11_alone_38 rfl (lv_at hl 1 rfl) ?_
        refine va_get (D := D) (ci := 11) (v := .ref (a 7)) (C := RX11) (T := TX11) (N := 16) hx hb hts hin11 hown hK hP 0 rfl rfl 1 (by decide) (hts (.fieldLink RX11 21 "MissedPoints" "pairs" "LMissedPoints$Pairs;") (by decide +kernel)) (fun _ h9 => h9) rfl dX11_alone_39 ?_
        refine lv_aload_n hx hb dX11_alone_42 rfl (lv_at hl 1 rfl) ?_
        refine va_get (D := D) (ci := 11) (v := .ref (a 1)) (C := RX11) (T := TX11) (N := 16) hx hb hts hin11 hown hK hP 0 rfl rfl 0 (by decide) (hts (.fieldLink RX11 12 "MissedPoints" "net" "LMissedPoints$Net;") (by decide +kernel)) (fun _ h9 => h9) rfl dX11_alone_43 ?_
        refine wk_sv 1 (As := []) (rest := [.ref (a 7)]) ⟨hx, hb, hml, hown, hts⟩ (k_X2_all l D cI cS a na nc 24576 L u hL (Or.inr rfl)) hKK hP (ci := 2) rfl rfl (cwV 0 hts gX11_alone_X2_all rfl rfl rfl (by decide +kernel) ⟨Nat.le_of_ble_eq_true rfl, Nat.le_of_ble_eq_true rfl⟩) rfl hl.1 rfl (Nat.le_of_ble_eq_true rfl) dX11_alone_46 ⟨Nat.le_of_ble_eq_true rfl, Nat.le_of_ble_eq_true rfl⟩ (fun r51482 hr51482 => ?_)
        refine lv_iconst (v := 1) hx hb dX11_alone_49 (by decide) ?_
        refine lv_iload_n hx hb dX11_alone_50 rfl (lv_at hl 2 rfl) ?_
        refine wk_ishl1 (f := 2048) hx hb dX11_alone_51 g51459 (by decide) (fun r51483 hr51483 qr51483 => ?_)
        refine lv_iconst (v := (-1)) hx hb dX11_alone_52 (by decide) ?_
        refine lv_ixor hx hb dX11_alone_53 ?_
        refine wk_topP (P := fun r => r = r51483 ^^^ ((-1) : Int32)) rfl (fun r51484 qr51484 => ?_)
        refine wk_iandl hx hb dX11_alone_54 hr51482.1 (by decide) (fun r51485 hr51485 qr51485 => ?_)
        refine lv_iload_n hx hb dX11_alone_55 rfl (lv_at hl 0 rfl) ?_
        refine wk_qi (wX cI cS a na nc 24576 L) u (As := [.int r51485, .int r51481]) (rest := []) ⟨hx, hb, hml, hown, hts⟩ (k_X3_number_1 l D cI cS _ a na nc L u hL r51485 r51481 hr51481.1) hKK hP hD hS hA 7 (ci := 3) rfl rfl (cwV 2 hts gX11_alone_X3_number rfl rfl rfl (by decide +kernel) ⟨Nat.le_of_ble_eq_true rfl, Nat.le_of_ble_eq_true rfl⟩) rfl hl.1 rfl (Nat.le_of_ble_eq_true rfl) dX11_alone_56 ⟨Nat.le_of_ble_eq_true rfl, Nat.le_of_ble_eq_true rfl⟩ (fun r51486 u H locs hr51486 hP hD hS => ?_)
        refine lv_istore (lv' := [(4, .int r51486), (3, .int r51481), (0, .ref (a 0)), (1, .int x0), (2, .int x1)]) hx hb dX11_alone_59 hl (by decide) rfl (fun ls hl => ?_)
        refine lv_aload_n hx hb dX11_alone_61 rfl (lv_at hl 2 rfl) ?_
        refine va_get (D := D) (ci := 11) (v := .ref (a 7)) (C := RX11) (T := TX11) (N := 16) hx hb hts hin11 hown hK hP 0 rfl rfl 1 (by decide) (hts (.fieldLink RX11 21 "MissedPoints" "pairs" "LMissedPoints$Pairs;") (by decide +kernel)) (fun _ h9 => h9) rfl dX11_alone_62 ?_
        refine lv_aload_n hx hb dX11_alone_65 rfl (lv_at hl 2 rfl) ?_
        refine va_get (D := D) (ci := 11) (v := .ref (a 1)) (C := RX11) (T := TX11) (N := 16) hx hb hts hin11 hown hK hP 0 rfl rfl 0 (by decide) (hts (.fieldLink RX11 12 "MissedPoints" "net" "LMissedPoints$Net;") (by decide +kernel)) (fun _ h9 => h9) rfl dX11_alone_66 ?_
        refine wk_sv 1 (As := []) (rest := [.ref (a 7)]) ⟨hx, hb, hml, hown, hts⟩ (k_X2_all l D cI cS a na nc 24576 L u hL (Or.inr rfl)) hKK hP (ci := 2) rfl rfl (cwV 0 hts gX11_alone_X2_all rfl rfl rfl (by decide +kernel) ⟨Nat.le_of_ble_eq_true rfl, Nat.le_of_ble_eq_true rfl⟩) rfl hl.1 rfl (Nat.le_of_ble_eq_true rfl) dX11_alone_69 ⟨Nat.le_of_ble_eq_true rfl, Nat.le_of_ble_eq_true rfl⟩ (fun r51487 hr51487 => ?_)
        refine lv_iload_n hx hb dX11_alone_72 rfl (lv_at hl 1 rfl) ?_
        refine wk_qi (wX cI cS a na nc 24576 L) u (As := [.int r51487, .int r51481]) (rest := []) ⟨hx, hb, hml, hown, hts⟩ (k_X3_number_1 l D cI cS _ a na nc L u hL r51487 r51481 hr51481.1) hKK hP hD hS hA 7 (ci := 3) rfl rfl (cwV 2 hts gX11_alone_X3_number rfl rfl rfl (by decide +kernel) ⟨Nat.le_of_ble_eq_true rfl, Nat.le_of_ble_eq_true rfl⟩) rfl hl.1 rfl (Nat.le_of_ble_eq_true rfl) dX11_alone_73 ⟨Nat.le_of_ble_eq_true rfl, Nat.le_of_ble_eq_true rfl⟩ (fun r51488 u H locs hr51488 hP hD hS => ?_)
        refine lv_istore (lv' := [(5, .int r51488), (4, .int r51486), (3, .int r51481), (0, .ref (a 0)), (1, .int x0), (2, .int x1)]) hx hb dX11_alone_76 hl (by decide) rfl (fun ls hl => ?_)
        refine lv_iload hx hb dX11_alone_78 (lv_at hl 1 rfl) ?_
        refine lv_iload hx hb dX11_alone_80 (lv_at hl 0 rfl) ?_
        refine lz_ss (As := [.int r51486, .int r51488]) (rest := []) ⟨hx, hb, hml, hown, hts⟩ (k_X11_greatestDivisor l D cI cS r51486 r51488) hKK (hP.sub (ws' := []) [] rfl) (va_cwS 2 hts gX11_alone_X11_greatestDivisor rfl rfl rfl (by decide +kernel) ⟨Nat.le_of_ble_eq_true rfl, Nat.le_of_ble_eq_true rfl⟩) rfl hl.1 rfl (Nat.le_of_ble_eq_true rfl) dX11_alone_82 ⟨Nat.le_of_ble_eq_true rfl, Nat.le_of_ble_eq_true rfl⟩ (fun r51489 hr51489 => ?_)
        refine lv_istore (lv' := [(6, .int r51489), (5, .int r51488), (4, .int r51486), (3, .int r51481), (0, .ref (a 0)), (1, .int x0), (2, .int x1)]) hx hb dX11_alone_85 hl (by decide) rfl (fun ls hl => ?_)
        refine lv_iload hx hb dX11_alone_87 (lv_at hl 0 rfl) ?_
        refine lv_iconst (v := 1) hx hb dX11_alone_89 (by decide) ?_
        refine lv_icmp_ge (tgt := 96) hx hb dX11_alone_90 (by decide) (fun c51490 => ?_) (fun c51490 => ?_)
        · have g51491 : Rg 1 2147483647 r51489 := rg_ler (by decide : Rg 1 1 (1 : Int32)) hr51489.1 c51490 (by decide)
          refine lv_iload_n hx hb dX11_alone_96 rfl (lv_at hl 6 rfl) ?_
          refine lv_if_ne (tgt := 105) hx hb dX11_alone_97 (by decide) (fun c51492 => ?_) (fun c51492 => ?_)
          · refine lv_iload hx hb dX11_alone_105 (lv_at hl 1 rfl) ?_
            refine lv_iload hx hb dX11_alone_107 (lv_at hl 0 rfl) ?_
            refine lv_idiv hx hb dX11_alone_109 (wk_nz g51491 (by decide)) ?_
            refine wk_any (fun r51493 => ?_)
            subst hAe
            exact W.iret (v := r51493) hx hb hr (fun t ht hW => ⟨⟨_, u, rfl, ⟨(rg_any r51493), trivial⟩, by rw [ht]; exact hP, hD⟩, hS.F ht⟩) hS.2.2 dX11_alone_110
          · exact absurd c51492 (wk_neq g51478 (by decide : Rg 0 0 (0 : Int32)) (by decide))
        · have g51494 : Rg (-2147483648) 0 r51489 := rg_ltl hr51489.1 (by decide : Rg 1 1 (1 : Int32)) (rg_nle c51490) (by decide)
          refine lv_bipush (v := (-2)) hx hb dX11_alone_93 (by decide) ?_
          subst hAe
          exact W.iret (v := (-2)) hx hb hr (fun t ht hW => ⟨⟨_, u, rfl, ⟨(by decide : Rg (-2147483648) 2147483647 ((-2) : Int32)), trivial⟩, by rw [ht]; exact hP, hD⟩, hS.F ht⟩) hS.2.2 dX11_alone_95
      · exact absurd (wk_yeq g51478 (by decide : Rg 1 1 (1 : Int32)) (by decide)) c51479
set_option maxHeartbeats 4000000 in
set_option maxRecDepth 100000 in
theorem k_X11_alone_0 (l : Launch) (D : va_G) (cI cS : ClassId) (sz : Nat) (a : Nat → Nat) (na nc : Nat) (L u0 : SU) (hL : TyX L) (x0 x1 : Int32) (px1 : Rg 0 1 x1) (hpt : 0 ≤ x0.toInt ∧ x0.toInt < (L 1 1).toInt) : Met l yX11_alone wsX11_alone ({ frames := 16, cells := 2, slots := 24578, locals := 640 }) (PQ D cI cS (wX cI cS a na nc 0 L u0) sz [.ref (a 0), .int x0, .int x1]) (QF (S := Nat × Nat × SU) D (wX cI cS a na nc 0 L u0) (fun q => wX cI cS a q.1 q.2.1 24576 L q.2.2) sz (fun r _ => Rg (-2147483648) 2147483647 r ∧ True)) 2 24578 (va_A (wX cI cS a na nc 0 L u0) sz) := by
  refine Met.ofW (cc := cX11_alone) (maxL := 7) (ret := (some .int)) (by decide) rfl ?_
  intro p e s m args below meth c s₁ B hml hv
  obtain ⟨rfl, hsz, hP, hKK, hD0⟩ := hv
  have hx := B.exec
  have hb := B.bytes
  have hr := B.returns
  have hts := atoms_spec (ws := wsX11_alone) B.pre
  have hown : s.vm.findClass RX11 = some m.cls := findClass_of_methodNamed B.named
  have hlocks := B.notSynchronized
  have hK := hKK.1
  have hin11 : ∀ w ∈ wsX110, w ∈ wsX11_alone := by decide +kernel
  subst hsz
  have hD := hD0.self (sz := s.heap.size)
  obtain ⟨A, hAe⟩ : ∃ A, A = va_A (wX cI cS a na nc 0 L u0) s.heap.size := ⟨_, rfl⟩
  rw [← hAe] at hD
  have hA : ∀ q : Nat, s.heap.size ≤ q → A q := fun q h => by rw [hAe]; exact Or.inr h
  have hS : va_S A s.heap s.heap [] := va_S.rf
  have hl := lv_entry ([.ref (a 0), .int x0, .int x1]) (n := 7) (Nat.le_of_ble_eq_true rfl)
  rw [lg_entry_eq]
  generalize (lg_sl ([.ref (a 0), .int x0, .int x1]) ++ List.replicate (7 - (lg_sl ([.ref (a 0), .int x0, .int x1])).length) Slot.unset).toArray = ls at hl ⊢
  have hl : lv_has ls 7 [(0, .ref (a 0)), (1, .int x0), (2, .int x1)] := hl
  obtain ⟨u, hu9⟩ : ∃ u : SU, u = u0 := ⟨_, rfl⟩
  rw [← hu9] at hP hD
  refine lv_aload_n hx hb dX11_alone_0 rfl (lv_at hl 0 rfl) ?_
  refine va_get (D := D) (ci := 11) (v := .ref (a 1)) (C := RX11) (T := TX11) (N := 16) hx hb hts hin11 hown hK hP 0 rfl rfl 0 (by decide) (hts (.fieldLink RX11 12 "MissedPoints" "net" "LMissedPoints$Net;") (by decide +kernel)) (fun _ h9 => h9) rfl dX11_alone_1 ?_
  refine lv_iload_n hx hb dX11_alone_4 rfl (lv_at hl 1 rfl) ?_
  refine wk_sv 1 (As := [.int x0]) (rest := []) ⟨hx, hb, hml, hown, hts⟩ (k_X2_hasPoint_z l D cI cS a na nc 0 L u hL (Or.inl rfl) x0) hKK hP (ci := 2) rfl rfl (cwV 1 hts gX11_alone_X2_hasPoint rfl rfl rfl (by decide +kernel) ⟨Nat.le_of_ble_eq_true rfl, Nat.le_of_ble_eq_true rfl⟩) rfl hl.1 rfl (Nat.le_of_ble_eq_true rfl) dX11_alone_5 ⟨Nat.le_of_ble_eq_true rfl, Nat.le_of_ble_eq_true rfl⟩ (fun r51534 hr51534 => ?_)
  refine lv_if_eq (tgt := 20) hx hb dX11_alone_8 (by decide) (fun c51535 => ?_) (fun c51535 => ?_)
  · have g51536 : Rg 0 0 r51534 := wk_eql hr51534.1 (by decide : Rg 0 0 (0 : Int32)) c51535 (by decide)
    exact absurd hpt (hr51534.2.2 c51535)
  · have g51537 : Rg 0 11 x0 := (hr51534.2.1 c51535)
    have g51538 : Rg 1 1 r51534 := rg_ne_lo (k := 0) hr51534.1 (by decide) c51535 (by decide)
    refine lv_iload_n hx hb dX11_alone_11 rfl (lv_at hl 2 rfl) ?_
    refine lv_if_eq (tgt := 23) hx hb dX11_alone_12 (by decide) (fun c51539 => ?_) (fun c51539 => ?_)
    · have g51540 : Rg 0 0 x1 := wk_eql px1 (by decide : Rg 0 0 (0 : Int32)) c51539 (by decide)
      refine lv_aload_n hx hb dX11_alone_23 rfl (lv_at hl 0 rfl) ?_
      refine va_get (D := D) (ci := 11) (v := .ref (a 7)) (C := RX11) (T := TX11) (N := 16) hx hb hts hin11 hown hK hP 0 rfl rfl 1 (by decide) (hts (.fieldLink RX11 21 "MissedPoints" "pairs" "LMissedPoints$Pairs;") (by decide +kernel)) (fun _ h9 => h9) rfl dX11_alone_24 ?_
      refine lv_aload_n hx hb dX11_alone_27 rfl (lv_at hl 0 rfl) ?_
      refine va_get (D := D) (ci := 11) (v := .ref (a 1)) (C := RX11) (T := TX11) (N := 16) hx hb hts hin11 hown hK hP 0 rfl rfl 0 (by decide) (hts (.fieldLink RX11 12 "MissedPoints" "net" "LMissedPoints$Net;") (by decide +kernel)) (fun _ h9 => h9) rfl dX11_alone_28 ?_
      refine wk_sv 1 (As := []) (rest := [.ref (a 7)]) ⟨hx, hb, hml, hown, hts⟩ (k_X2_all l D cI cS a na nc 0 L u hL (Or.inl rfl)) hKK hP (ci := 2) rfl rfl (cwV 0 hts gX11_alone_X2_all rfl rfl rfl (by decide +kernel) ⟨Nat.le_of_ble_eq_true rfl, Nat.le_of_ble_eq_true rfl⟩) rfl hl.1 rfl (Nat.le_of_ble_eq_true rfl) dX11_alone_31 ⟨Nat.le_of_ble_eq_true rfl, Nat.le_of_ble_eq_true rfl⟩ (fun r51541 hr51541 => ?_)
      refine wk_qi (wX cI cS a na nc 0 L) u (As := [.int r51541]) (rest := []) ⟨hx, hb, hml, hown, hts⟩ (k_X3_best l D cI cS _ a na nc 0 L u hL (Or.inl rfl) r51541) hKK hP hD hS hA 7 (ci := 3) rfl rfl (cwV 1 hts gX11_alone_X3_best rfl rfl rfl (by decide +kernel) ⟨Nat.le_of_ble_eq_true rfl, Nat.le_of_ble_eq_true rfl⟩) rfl hl.1 rfl (Nat.le_of_ble_eq_true rfl) dX11_alone_34 ⟨Nat.le_of_ble_eq_true rfl, Nat.le_of_ble_eq_true rfl⟩ (fun r51542 u H locs hr51542 hP hD hS => ?_)
      refine lv_istore_n (lv' := [(3, .int r51542), (0, .ref (a 0)), (1, .int x0), (2, .int x1)]) hx hb dX11_alone_37 rfl hl (by decide) rfl (fun ls hl => ?_)
      refine lv_aload_n hx hb dX11_alone_38 rfl (lv_at hl 1 rfl) ?_
      refine va_get (D := D) (ci := 11) (v := .ref (a 7)) (C := RX11) (T := TX11) (N := 16) hx hb hts hin11 hown hK hP 0 rfl rfl 1 (by decide) (hts (.fieldLink RX11 21 "MissedPoints" "pairs" "LMissedPoints$Pairs;") (by decide +kernel)) (fun _ h9 => h9) rfl dX11_alone_39 ?_
      refine lv_aload_n hx hb dX11_alone_42 rfl (lv_at hl 1 rfl) ?_
      refine va_get (D := D) (ci := 11) (v := .ref (a 1)) (C := RX11) (T := TX11) (N := 16) hx hb hts hin11 hown hK hP 0 rfl rfl 0 (by decide) (hts (.fieldLink RX11 12 "MissedPoints" "net" "LMissedPoints$Net;") (by decide +kernel)) (fun _ h9 => h9) rfl dX11_alone_43 ?_
      refine wk_sv 1 (As := []) (rest := [.ref (a 7)]) ⟨hx, hb, hml, hown, hts⟩ (k_X2_all l D cI cS a na nc 0 L u hL (Or.inl rfl)) hKK hP (ci := 2) rfl rfl (cwV 0 hts gX11_alone_X2_all rfl rfl rfl (by decide +kernel) ⟨Nat.le_of_ble_eq_true rfl, Nat.le_of_ble_eq_true rfl⟩) rfl hl.1 rfl (Nat.le_of_ble_eq_true rfl) dX11_alone_46 ⟨Nat.le_of_ble_eq_true rfl, Nat.le_of_ble_eq_true rfl⟩ (fun r51543 hr51543 => ?_)
      refine lv_iconst (v := 1) hx hb dX11_alone_49 (by decide) ?_
      refine lv_iload_n hx hb dX11_alone_50 rfl (lv_at hl 2 rfl) ?_
      refine wk_ishl1 (f := 2048) hx hb dX11_alone_51 g51537 (by decide) (fun r51544 hr51544 qr51544 => ?_)
      refine lv_iconst (v := (-1)) hx hb dX11_alone_52 (by decide) ?_
      refine lv_ixor hx hb dX11_alone_53 ?_
      refine wk_topP (P := fun r => r = r51544 ^^^ ((-1) : Int32)) rfl (fun r51545 qr51545 => ?_)
      refine wk_iandl hx hb dX11_alone_54 hr51543.1 (by decide) (fun r51546 hr51546 qr51546 => ?_)
      refine lv_iload_n hx hb dX11_alone_55 rfl (lv_at hl 0 rfl) ?_
      refine wk_qA (wX cI cS a na nc 0 L u) (S := Nat × Nat × SU) (fun q => wX cI cS a q.1 q.2.1 24576 L q.2.2) (As := [.int r51546, .int r51542]) (rest := []) ⟨hx, hb, hml, hown, hts⟩ (k_X3_number_0 l D cI cS a na nc L u hL r51546 r51542 hr51542.1) hKK hP hD hS hA 7 (ci := 3) rfl rfl (cwV 2 hts gX11_alone_X3_number rfl rfl rfl (by decide +kernel) ⟨Nat.le_of_ble_eq_true rfl, Nat.le_of_ble_eq_true rfl⟩) rfl hl.1 rfl (Nat.le_of_ble_eq_true rfl) dX11_alone_56 ⟨Nat.le_of_ble_eq_true rfl, Nat.le_of_ble_eq_true rfl⟩ (fun r51547 q9 H locs hr51547 hP hD hS => ?_)
      obtain ⟨na, nc, u⟩ := q9
      have hP : va_P D cls (wX cI cS a na nc 24576 L u) H := hP
      have hD : va_D A (wX cI cS a na nc 24576 L u) := hD
      have hr51547 : Rg (-2147483648) 2147483647 r51547 ∧ True := hr51547
      refine lv_istore (lv' := [(4, .int r51547), (3, .int r51542), (0, .ref (a 0)), (1, .int x0), (2, .int x1)]) hx hb dX11_alone_59 hl (by decide) rfl (fun ls hl => ?_)
      refine lv_aload_n hx hb dX11_alone_61 rfl (lv_at hl 2 rfl) ?_
      refine va_get (D := D) (ci := 11) (v := .ref (a 7)) (C := RX11) (T := TX11) (N := 16) hx hb hts hin11 hown hK hP 0 rfl rfl 1 (by decide) (hts (.fieldLink RX11 21 "MissedPoints" "pairs" "LMissedPoints$Pairs;") (by decide +kernel)) (fun _ h9 => h9) rfl dX11_alone_62 ?_
      refine lv_aload_n hx hb dX11_alone_65 rfl (lv_at hl 2 rfl) ?_
      refine va_get (D := D) (ci := 11) (v := .ref (a 1)) (C := RX11) (T := TX11) (N := 16) hx hb hts hin11 hown hK hP 0 rfl rfl 0 (by decide) (hts (.fieldLink RX11 12 "MissedPoints" "net" "LMissedPoints$Net;") (by decide +kernel)) (fun _ h9 => h9) rfl dX11_alone_66 ?_
      refine wk_sv 1 (As := []) (rest := [.ref (a 7)]) ⟨hx, hb, hml, hown, hts⟩ (k_X2_all l D cI cS a na nc 24576 L u hL (Or.inr rfl)) hKK hP (ci := 2) rfl rfl (cwV 0 hts gX11_alone_X2_all rfl rfl rfl (by decide +kernel) ⟨Nat.le_of_ble_eq_true rfl, Nat.le_of_ble_eq_true rfl⟩) rfl hl.1 rfl (Nat.le_of_ble_eq_true rfl) dX11_alone_69 ⟨Nat.le_of_ble_eq_true rfl, Nat.le_of_ble_eq_true rfl⟩ (fun r51548 hr51548 => ?_)
      refine lv_iload_n hx hb dX11_alone_72 rfl (lv_at hl 1 rfl) ?_
      refine wk_qi (wX cI cS a na nc 24576 L) u (As := [.int r51548, .int r51542]) (rest := []) ⟨hx, hb, hml, hown, hts⟩ (k_X3_number_1 l D cI cS _ a na nc L u hL r51548 r51542 hr51542.1) hKK hP hD hS hA 7 (ci := 3) rfl rfl (cwV 2 hts gX11_alone_X3_number rfl rfl rfl (by decide +kernel) ⟨Nat.le_of_ble_eq_true rfl, Nat.le_of_ble_eq_true rfl⟩) rfl hl.1 rfl (Nat.le_of_ble_eq_true rfl) dX11_alone_73 ⟨Nat.le_of_ble_eq_true rfl, Nat.le_of_ble_eq_true rfl⟩ (fun r51549 u H locs hr51549 hP hD hS => ?_)
      refine lv_istore (lv' := [(5, .int r51549), (4, .int r51547), (3, .int r51542), (0, .ref (a 0)), (1, .int x0), (2, .int x1)]) hx hb dX11_alone_76 hl (by decide) rfl (fun ls hl => ?_)
      refine lv_iload hx hb dX11_alone_78 (lv_at hl 1 rfl) ?_
      refine lv_iload hx hb dX11_alone_80 (lv_at hl 0 rfl) ?_
      refine lz_ss (As := [.int r51547, .int r51549]) (rest := []) ⟨hx, hb, hml, hown, hts⟩ (k_X11_greatestDivisor l D cI cS r51547 r51549) hKK (hP.sub (ws' := []) [] rfl) (va_cwS 2 hts gX11_alone_X11_greatestDivisor rfl rfl rfl (by decide +kernel) ⟨Nat.le_of_ble_eq_true rfl, Nat.le_of_ble_eq_true rfl⟩) rfl hl.1 rfl (Nat.le_of_ble_eq_true rfl) dX11_alone_82 ⟨Nat.le_of_ble_eq_true rfl, Nat.le_of_ble_eq_true rfl⟩ (fun r51550 hr51550 => ?_)
      refine lv_istore (lv' := [(6, .int r51550), (5, .int r51549), (4, .int r51547), (3, .int r51542), (0, .ref (a 0)), (1, .int x0), (2, .int x1)]) hx hb dX11_alone_85 hl (by decide) rfl (fun ls hl => ?_)
      refine lv_iload hx hb dX11_alone_87 (lv_at hl 0 rfl) ?_
      refine lv_iconst (v := 1) hx hb dX11_alone_89 (by decide) ?_
      refine lv_icmp_ge (tgt := 96) hx hb dX11_alone_90 (by decide) (fun c51551 => ?_) (fun c51551 => ?_)
      · have g51552 : Rg 1 2147483647 r51550 := rg_ler (by decide : Rg 1 1 (1 : Int32)) hr51550.1 c51551 (by decide)
        refine lv_iload_n hx hb dX11_alone_96 rfl (lv_at hl 6 rfl) ?_
        refine lv_if_ne (tgt := 105) hx hb dX11_alone_97 (by decide) (fun c51553 => ?_) (fun c51553 => ?_)
        · exact absurd (wk_yeq g51540 (by decide : Rg 0 0 (0 : Int32)) (by decide)) c51553
        · refine lv_iload hx hb dX11_alone_100 (lv_at hl 2 rfl) ?_
          refine lv_goto (tgt := 107) hx hb dX11_alone_102 (by decide) ?_
          refine lv_iload hx hb dX11_alone_107 (lv_at hl 0 rfl) ?_
          refine lv_idiv hx hb dX11_alone_109 (wk_nz g51552 (by decide)) ?_
          refine wk_any (fun r51554 => ?_)
          subst hAe
          refine W.widen (k := 2) (n := 24578) (Nat.le_of_ble_eq_true rfl) (Nat.le_of_ble_eq_true rfl) ?_
          exact W.iret (v := r51554) hx hb hr (fun t ht hW => ⟨⟨_, (na, nc, u), rfl, ⟨(rg_any r51554), trivial⟩, by rw [ht]; exact hP, hD⟩, hS.F ht⟩) hS.2.2 dX11_alone_110
      · have g51555 : Rg (-2147483648) 0 r51550 := rg_ltl hr51550.1 (by decide : Rg 1 1 (1 : Int32)) (rg_nle c51551) (by decide)
        refine lv_bipush (v := (-2)) hx hb dX11_alone_93 (by decide) ?_
        subst hAe
        refine W.widen (k := 2) (n := 24578) (Nat.le_of_ble_eq_true rfl) (Nat.le_of_ble_eq_true rfl) ?_
        exact W.iret (v := (-2)) hx hb hr (fun t ht hW => ⟨⟨_, (na, nc, u), rfl, ⟨(by decide : Rg (-2147483648) 2147483647 ((-2) : Int32)), trivial⟩, by rw [ht]; exact hP, hD⟩, hS.F ht⟩) hS.2.2 dX11_alone_95
    · have g51556 : Rg 1 1 x1 := rg_ne_lo (k := 0) px1 (by decide) c51539 (by decide)
      refine lv_iload_n hx hb dX11_alone_15 rfl (lv_at hl 2 rfl) ?_
      refine lv_iconst (v := 1) hx hb dX11_alone_16 (by decide) ?_
      refine lv_icmp_eq (tgt := 23) hx hb dX11_alone_17 (by decide) (fun c51557 => ?_) (fun c51557 => ?_)
      · refine lv_aload_n hx hb dX11_alone_23 rfl (lv_at hl 0 rfl) ?_
        refine va_get (D := D) (ci := 11) (v := .ref (a 7)) (C := RX11) (T := TX11) (N := 16) hx hb hts hin11 hown hK hP 0 rfl rfl 1 (by decide) (hts (.fieldLink RX11 21 "MissedPoints" "pairs" "LMissedPoints$Pairs;") (by decide +kernel)) (fun _ h9 => h9) rfl dX11_alone_24 ?_
        refine lv_aload_n hx hb dX11_alone_27 rfl (lv_at hl 0 rfl) ?_
        refine va_get (D := D) (ci := 11) (v := .ref (a 1)) (C := RX11) (T := TX11) (N := 16) hx hb hts hin11 hown hK hP 0 rfl rfl 0 (by decide) (hts (.fieldLink RX11 12 "MissedPoints" "net" "LMissedPoints$Net;") (by decide +kernel)) (fun _ h9 => h9) rfl dX11_alone_28 ?_
        refine wk_sv 1 (As := []) (rest := [.ref (a 7)]) ⟨hx, hb, hml, hown, hts⟩ (k_X2_all l D cI cS a na nc 24576 L u hL (Or.inr rfl)) hKK hP (ci := 2) rfl rfl (cwV 0 hts gX11_alone_X2_all rfl rfl rfl (by decide +kernel) ⟨Nat.le_of_ble_eq_true rfl, Nat.le_of_ble_eq_true rfl⟩) rfl hl.1 rfl (Nat.le_of_ble_eq_true rfl) dX11_alone_31 ⟨Nat.le_of_ble_eq_true rfl, Nat.le_of_ble_eq_true rfl⟩ (fun r51558 hr51558 => ?_)
        refine wk_qi (wX cI cS a na nc 24576 L) u (As := [.int r51558]) (rest := []) ⟨hx, hb, hml, hown, hts⟩ (k_X3_best l D cI cS _ a na nc 24576 L u hL (Or.inr rfl) r51558) hKK hP hD hS hA 7 (ci := 3) rfl rfl (cwV 1 hts gX11_alone_X3_best rfl rfl rfl (by decide +kernel) ⟨Nat.le_of_ble_eq_true rfl, Nat.le_of_ble_eq_true rfl⟩) rfl hl.1 rfl (Nat.le_of_ble_eq_true rfl) dX11_alone_34 ⟨Nat.le_of_ble_eq_true rfl, Nat.le_of_ble_eq_true rfl⟩ (fun r51559 u H locs hr51559 hP hD hS => ?_)
        refine lv_istore_n (lv' := [(3, .int r51559), (0, .ref (a 0)), (1, .int x0), (2, .int x1)]) hx hb dX11_alone_37 rfl hl (by decide) rfl (fun ls hl => ?_)
        refine lv_aload_n hx hb dX11_alone_38 rfl (lv_at hl 1 rfl) ?_
        refine va_get (D := D) (ci := 11) (v := .ref (a 7)) (C := RX11) (T := TX11) (N := 16) hx hb hts hin11 hown hK hP 0 rfl rfl 1 (by decide) (hts (.fieldLink RX11 21 "MissedPoints" "pairs" "LMissedPoints$Pairs;") (by decide +kernel)) (fun _ h9 => h9) rfl dX11_alone_39 ?_
        refine lv_aload_n hx hb dX11_alone_42 rfl (lv_at hl 1 rfl) ?_
        refine va_get (D := D) (ci := 11) (v := .ref (a 1)) (C := RX11) (T := TX11) (N := 16) hx hb hts hin11 hown hK hP 0 rfl rfl 0 (by decide) (hts (.fieldLink RX11 12 "MissedPoints" "net" "LMissedPoints$Net;") (by decide +kernel)) (fun _ h9 => h9) rfl dX11_alone_43 ?_
        refine wk_sv 1 (As := []) (rest := [.ref (a 7)]) ⟨hx, hb, hml, hown, hts⟩ (k_X2_all l D cI cS a na nc 24576 L u hL (Or.inr rfl)) hKK hP (ci := 2) rfl rfl (cwV 0 hts gX11_alone_X2_all rfl rfl rfl (by decide +kernel) ⟨Nat.le_of_ble_eq_true rfl, Nat.le_of_ble_eq_true rfl⟩) rfl hl.1 rfl (Nat.le_of_ble_eq_true rfl) dX11_alone_46 ⟨Nat.le_of_ble_eq_true rfl, Nat.le_of_ble_eq_true rfl⟩ (fun r51560 hr51560 => ?_)
        refine lv_iconst (v := 1) hx hb dX11_alone_49 (by decide) ?_
        refine lv_iload_n hx hb dX11_alone_50 rfl (lv_at hl 2 rfl) ?_
        refine wk_ishl1 (f := 2048) hx hb dX11_alone_51 g51537 (by decide) (fun r51561 hr51561 qr51561 => ?_)
        refine lv_iconst (v := (-1)) hx hb dX11_alone_52 (by decide) ?_
        refine lv_ixor hx hb dX11_alone_53 ?_
        refine wk_topP (P := fun r => r = r51561 ^^^ ((-1) : Int32)) rfl (fun r51562 qr51562 => ?_)
        refine wk_iandl hx hb dX11_alone_54 hr51560.1 (by decide) (fun r51563 hr51563 qr51563 => ?_)
        refine lv_iload_n hx hb dX11_alone_55 rfl (lv_at hl 0 rfl) ?_
        refine wk_qi (wX cI cS a na nc 24576 L) u (As := [.int r51563, .int r51559]) (rest := []) ⟨hx, hb, hml, hown, hts⟩ (k_X3_number_1 l D cI cS _ a na nc L u hL r51563 r51559 hr51559.1) hKK hP hD hS hA 7 (ci := 3) rfl rfl (cwV 2 hts gX11_alone_X3_number rfl rfl rfl (by decide +kernel) ⟨Nat.le_of_ble_eq_true rfl, Nat.le_of_ble_eq_true rfl⟩) rfl hl.1 rfl (Nat.le_of_ble_eq_true rfl) dX11_alone_56 ⟨Nat.le_of_ble_eq_true rfl, Nat.le_of_ble_eq_true rfl⟩ (fun r51564 u H locs hr51564 hP hD hS => ?_)
        refine lv_istore (lv' := [(4, .int r51564), (3, .int r51559), (0, .ref (a 0)), (1, .int x0), (2, .int x1)]) hx hb dX11_alone_59 hl (by decide) rfl (fun ls hl => ?_)
        refine lv_aload_n hx hb dX11_alone_61 rfl (lv_at hl 2 rfl) ?_
        refine va_get (D := D) (ci := 11) (v := .ref (a 7)) (C := RX11) (T := TX11) (N := 16) hx hb hts hin11 hown hK hP 0 rfl rfl 1 (by decide) (hts (.fieldLink RX11 21 "MissedPoints" "pairs" "LMissedPoints$Pairs;") (by decide +kernel)) (fun _ h9 => h9) rfl dX11_alone_62 ?_
        refine lv_aload_n hx hb dX11_alone_65 rfl (lv_at hl 2 rfl) ?_
        refine va_get (D := D) (ci := 11) (v := .ref (a 1)) (C := RX11) (T := TX11) (N := 16) hx hb hts hin11 hown hK hP 0 rfl rfl 0 (by decide) (hts (.fieldLink RX11 12 "MissedPoints" "net" "LMissedPoints$Net;") (by decide +kernel)) (fun _ h9 => h9) rfl dX11_alone_66 ?_
        refine wk_sv 1 (As := []) (rest := [.ref (a 7)]) ⟨hx, hb, hml, hown, hts⟩ (k_X2_all l D cI cS a na nc 24576 L u hL (Or.inr rfl)) hKK hP (ci := 2) rfl rfl (cwV 0 hts gX11_alone_X2_all rfl rfl rfl (by decide +kernel) ⟨Nat.le_of_ble_eq_true rfl, Nat.le_of_ble_eq_true rfl⟩) rfl hl.1 rfl (Nat.le_of_ble_eq_true rfl) dX11_alone_69 ⟨Nat.le_of_ble_eq_true rfl, Nat.le_of_ble_eq_true rfl⟩ (fun r51565 hr51565 => ?_)
        refine lv_iload_n hx hb dX11_alone_72 rfl (lv_at hl 1 rfl) ?_
        refine wk_qi (wX cI cS a na nc 24576 L) u (As := [.int r51565, .int r51559]) (rest := []) ⟨hx, hb, hml, hown, hts⟩ (k_X3_number_1 l D cI cS _ a na nc L u hL r51565 r51559 hr51559.1) hKK hP hD hS hA 7 (ci := 3) rfl rfl (cwV 2 hts gX11_alone_X3_number rfl rfl rfl (by decide +kernel) ⟨Nat.le_of_ble_eq_true rfl, Nat.le_of_ble_eq_true rfl⟩) rfl hl.1 rfl (Nat.le_of_ble_eq_true rfl) dX11_alone_73 ⟨Nat.le_of_ble_eq_true rfl, Nat.le_of_ble_eq_true rfl⟩ (fun r51566 u H locs hr51566 hP hD hS => ?_)
        refine lv_istore (lv' := [(5, .int r51566), (4, .int r51564), (3, .int r51559), (0, .ref (a 0)), (1, .int x0), (2, .int x1)]) hx hb dX11_alone_76 hl (by decide) rfl (fun ls hl => ?_)
        refine lv_iload hx hb dX11_alone_78 (lv_at hl 1 rfl) ?_
        refine lv_iload hx hb dX11_alone_80 (lv_at hl 0 rfl) ?_
        refine lz_ss (As := [.int r51564, .int r51566]) (rest := []) ⟨hx, hb, hml, hown, hts⟩ (k_X11_greatestDivisor l D cI cS r51564 r51566) hKK (hP.sub (ws' := []) [] rfl) (va_cwS 2 hts gX11_alone_X11_greatestDivisor rfl rfl rfl (by decide +kernel) ⟨Nat.le_of_ble_eq_true rfl, Nat.le_of_ble_eq_true rfl⟩) rfl hl.1 rfl (Nat.le_of_ble_eq_true rfl) dX11_alone_82 ⟨Nat.le_of_ble_eq_true rfl, Nat.le_of_ble_eq_true rfl⟩ (fun r51567 hr51567 => ?_)
        refine lv_istore (lv' := [(6, .int r51567), (5, .int r51566), (4, .int r51564), (3, .int r51559), (0, .ref (a 0)), (1, .int x0), (2, .int x1)]) hx hb dX11_alone_85 hl (by decide) rfl (fun ls hl => ?_)
        refine lv_iload hx hb dX11_alone_87 (lv_at hl 0 rfl) ?_
        refine lv_iconst (v := 1) hx hb dX11_alone_89 (by decide) ?_
        refine lv_icmp_ge (tgt := 96) hx hb dX11_alone_90 (by decide) (fun c51568 => ?_) (fun c51568 => ?_)
        · have g51569 : Rg 1 2147483647 r51567 := rg_ler (by decide : Rg 1 1 (1 : Int32)) hr51567.1 c51568 (by decide)
          refine lv_iload_n hx hb dX11_alone_96 rfl (lv_at hl 6 rfl) ?_
          refine lv_if_ne (tgt := 105) hx hb dX11_alone_97 (by decide) (fun c51570 => ?_) (fun c51570 => ?_)
          · refine lv_iload hx hb dX11_alone_105 (lv_at hl 1 rfl) ?_
            refine lv_iload hx hb dX11_alone_107 (lv_at hl 0 rfl) ?_
            refine lv_idiv hx hb dX11_alone_109 (wk_nz g51569 (by decide)) ?_
            refine wk_any (fun r51571 => ?_)
            subst hAe
            refine W.widen (k := 2) (n := 24578) (Nat.le_of_ble_eq_true rfl) (Nat.le_of_ble_eq_true rfl) ?_
            exact W.iret (v := r51571) hx hb hr (fun t ht hW => ⟨⟨_, (na, nc, u), rfl, ⟨(rg_any r51571), trivial⟩, by rw [ht]; exact hP, hD⟩, hS.F ht⟩) hS.2.2 dX11_alone_110
          · exact absurd c51570 (wk_neq g51556 (by decide : Rg 0 0 (0 : Int32)) (by decide))
        · have g51572 : Rg (-2147483648) 0 r51567 := rg_ltl hr51567.1 (by decide : Rg 1 1 (1 : Int32)) (rg_nle c51568) (by decide)
          refine lv_bipush (v := (-2)) hx hb dX11_alone_93 (by decide) ?_
          subst hAe
          refine W.widen (k := 2) (n := 24578) (Nat.le_of_ble_eq_true rfl) (Nat.le_of_ble_eq_true rfl) ?_
          exact W.iret (v := (-2)) hx hb hr (fun t ht hW => ⟨⟨_, (na, nc, u), rfl, ⟨(by decide : Rg (-2147483648) 2147483647 ((-2) : Int32)), trivial⟩, by rw [ht]; exact hP, hD⟩, hS.F ht⟩) hS.2.2 dX11_alone_95
      · exact absurd (wk_yeq g51556 (by decide : Rg 1 1 (1 : Int32)) (by decide)) c51557
theorem dX11_alone_22 : decode cX11_alone 22 = .ok (.ireturn, 1) := by decide +kernel
set_option maxHeartbeats 4000000 in
set_option maxRecDepth 100000 in
theorem k_X11_alone_b1 (l : Launch) (D : va_G) (cI cS : ClassId) (a : Nat → Nat) (na nc N : Nat) (L u : SU) (hL : TyX L) (hN : N = 0 ∨ N = 24576) (x0 x1 : Int32) (px1 : Rg (-2147483648) (-1) x1) : Met l yX11_alone wsX11_alone ({ frames := 1, cells := 0, slots := 0, locals := 40 }) (PS D cI cS (wX cI cS a na nc N L u) [.ref (a 0), .int x0, .int x1]) (vp_Si (fun r => Rg (-2) (-2) r ∧ True)) 0 0 (fun _ => False) := by
  refine Met.ofW (cc := cX11_alone) (maxL := 7) (ret := (some .int)) (by decide) rfl ?_
  intro p e s m args below meth c s₁ B hml hv
  obtain ⟨rfl, hP, hKK⟩ := hv
  have hx := B.exec
  have hb := B.bytes
  have hr := B.returns
  have hts := atoms_spec (ws := wsX11_alone) B.pre
  have hown : s.vm.findClass RX11 = some m.cls := findClass_of_methodNamed B.named
  have hlocks := B.notSynchronized
  have hK := hKK.1
  have hin11 : ∀ w ∈ wsX110, w ∈ wsX11_alone := by decide +kernel
  have hl := lv_entry ([.ref (a 0), .int x0, .int x1]) (n := 7) (Nat.le_of_ble_eq_true rfl)
  rw [lg_entry_eq]
  generalize (lg_sl ([.ref (a 0), .int x0, .int x1]) ++ List.replicate (7 - (lg_sl ([.ref (a 0), .int x0, .int x1])).length) Slot.unset).toArray = ls at hl ⊢
  have hl : lv_has ls 7 [(0, .ref (a 0)), (1, .int x0), (2, .int x1)] := hl
  refine lv_aload_n hx hb dX11_alone_0 rfl (lv_at hl 0 rfl) ?_
  refine va_get (D := D) (ci := 11) (v := .ref (a 1)) (C := RX11) (T := TX11) (N := 16) hx hb hts hin11 hown hK hP 0 rfl rfl 0 (by decide) (hts (.fieldLink RX11 12 "MissedPoints" "net" "LMissedPoints$Net;") (by decide +kernel)) (fun _ h9 => h9) rfl dX11_alone_1 ?_
  refine lv_iload_n hx hb dX11_alone_4 rfl (lv_at hl 1 rfl) ?_
  refine wk_sv 1 (As := [.int x0]) (rest := []) ⟨hx, hb, hml, hown, hts⟩ (k_X2_hasPoint l D cI cS a na nc N L u hL hN x0) hKK hP (ci := 2) rfl rfl (cwV 1 hts gX11_alone_X2_hasPoint rfl rfl rfl (by decide +kernel) ⟨Nat.le_of_ble_eq_true rfl, Nat.le_of_ble_eq_true rfl⟩) rfl hl.1 rfl (Nat.le_of_ble_eq_true rfl) dX11_alone_5 ⟨Nat.le_of_ble_eq_true rfl, Nat.le_of_ble_eq_true rfl⟩ (fun r51580 hr51580 => ?_)
  refine lv_if_eq (tgt := 20) hx hb dX11_alone_8 (by decide) (fun c51581 => ?_) (fun c51581 => ?_)
  · have g51582 : Rg 0 0 r51580 := wk_eql hr51580.1 (by decide : Rg 0 0 (0 : Int32)) c51581 (by decide)
    refine lv_bipush (v := (-2)) hx hb dX11_alone_20 (by decide) ?_
    exact W.iret (v := (-2)) hx hb hr (fun t ht hW => ⟨_, rfl, ⟨(by decide : Rg (-2) (-2) ((-2) : Int32)), trivial⟩, ht⟩) (fun q hq => absurd hq List.not_mem_nil) dX11_alone_22
  · have g51583 : Rg 0 11 x0 := (hr51580.2 c51581)
    have g51584 : Rg 1 1 r51580 := rg_ne_lo (k := 0) hr51580.1 (by decide) c51581 (by decide)
    refine lv_iload_n hx hb dX11_alone_11 rfl (lv_at hl 2 rfl) ?_
    refine lv_if_eq (tgt := 23) hx hb dX11_alone_12 (by decide) (fun c51585 => ?_) (fun c51585 => ?_)
    · exact absurd c51585 (wk_neq px1 (by decide : Rg 0 0 (0 : Int32)) (by decide))
    · refine lv_iload_n hx hb dX11_alone_15 rfl (lv_at hl 2 rfl) ?_
      refine lv_iconst (v := 1) hx hb dX11_alone_16 (by decide) ?_
      refine lv_icmp_eq (tgt := 23) hx hb dX11_alone_17 (by decide) (fun c51586 => ?_) (fun c51586 => ?_)
      · exact absurd c51586 (wk_neq px1 (by decide : Rg 1 1 (1 : Int32)) (by decide))
      · refine lv_bipush (v := (-2)) hx hb dX11_alone_20 (by decide) ?_
        exact W.iret (v := (-2)) hx hb hr (fun t ht hW => ⟨_, rfl, ⟨(by decide : Rg (-2) (-2) ((-2) : Int32)), trivial⟩, ht⟩) (fun q hq => absurd hq List.not_mem_nil) dX11_alone_22
set_option maxHeartbeats 4000000 in
set_option maxRecDepth 100000 in
theorem k_X11_alone_b2 (l : Launch) (D : va_G) (cI cS : ClassId) (a : Nat → Nat) (na nc N : Nat) (L u : SU) (hL : TyX L) (hN : N = 0 ∨ N = 24576) (x0 x1 : Int32) (px1 : Rg 2 2147483647 x1) : Met l yX11_alone wsX11_alone ({ frames := 1, cells := 0, slots := 0, locals := 40 }) (PS D cI cS (wX cI cS a na nc N L u) [.ref (a 0), .int x0, .int x1]) (vp_Si (fun r => Rg (-2) (-2) r ∧ True)) 0 0 (fun _ => False) := by
  refine Met.ofW (cc := cX11_alone) (maxL := 7) (ret := (some .int)) (by decide) rfl ?_
  intro p e s m args below meth c s₁ B hml hv
  obtain ⟨rfl, hP, hKK⟩ := hv
  have hx := B.exec
  have hb := B.bytes
  have hr := B.returns
  have hts := atoms_spec (ws := wsX11_alone) B.pre
  have hown : s.vm.findClass RX11 = some m.cls := findClass_of_methodNamed B.named
  have hlocks := B.notSynchronized
  have hK := hKK.1
  have hin11 : ∀ w ∈ wsX110, w ∈ wsX11_alone := by decide +kernel
  have hl := lv_entry ([.ref (a 0), .int x0, .int x1]) (n := 7) (Nat.le_of_ble_eq_true rfl)
  rw [lg_entry_eq]
  generalize (lg_sl ([.ref (a 0), .int x0, .int x1]) ++ List.replicate (7 - (lg_sl ([.ref (a 0), .int x0, .int x1])).length) Slot.unset).toArray = ls at hl ⊢
  have hl : lv_has ls 7 [(0, .ref (a 0)), (1, .int x0), (2, .int x1)] := hl
  refine lv_aload_n hx hb dX11_alone_0 rfl (lv_at hl 0 rfl) ?_
  refine va_get (D := D) (ci := 11) (v := .ref (a 1)) (C := RX11) (T := TX11) (N := 16) hx hb hts hin11 hown hK hP 0 rfl rfl 0 (by decide) (hts (.fieldLink RX11 12 "MissedPoints" "net" "LMissedPoints$Net;") (by decide +kernel)) (fun _ h9 => h9) rfl dX11_alone_1 ?_
  refine lv_iload_n hx hb dX11_alone_4 rfl (lv_at hl 1 rfl) ?_
  refine wk_sv 1 (As := [.int x0]) (rest := []) ⟨hx, hb, hml, hown, hts⟩ (k_X2_hasPoint l D cI cS a na nc N L u hL hN x0) hKK hP (ci := 2) rfl rfl (cwV 1 hts gX11_alone_X2_hasPoint rfl rfl rfl (by decide +kernel) ⟨Nat.le_of_ble_eq_true rfl, Nat.le_of_ble_eq_true rfl⟩) rfl hl.1 rfl (Nat.le_of_ble_eq_true rfl) dX11_alone_5 ⟨Nat.le_of_ble_eq_true rfl, Nat.le_of_ble_eq_true rfl⟩ (fun r51594 hr51594 => ?_)
  refine lv_if_eq (tgt := 20) hx hb dX11_alone_8 (by decide) (fun c51595 => ?_) (fun c51595 => ?_)
  · have g51596 : Rg 0 0 r51594 := wk_eql hr51594.1 (by decide : Rg 0 0 (0 : Int32)) c51595 (by decide)
    refine lv_bipush (v := (-2)) hx hb dX11_alone_20 (by decide) ?_
    exact W.iret (v := (-2)) hx hb hr (fun t ht hW => ⟨_, rfl, ⟨(by decide : Rg (-2) (-2) ((-2) : Int32)), trivial⟩, ht⟩) (fun q hq => absurd hq List.not_mem_nil) dX11_alone_22
  · have g51597 : Rg 0 11 x0 := (hr51594.2 c51595)
    have g51598 : Rg 1 1 r51594 := rg_ne_lo (k := 0) hr51594.1 (by decide) c51595 (by decide)
    refine lv_iload_n hx hb dX11_alone_11 rfl (lv_at hl 2 rfl) ?_
    refine lv_if_eq (tgt := 23) hx hb dX11_alone_12 (by decide) (fun c51599 => ?_) (fun c51599 => ?_)
    · exact absurd c51599 (wk_neq px1 (by decide : Rg 0 0 (0 : Int32)) (by decide))
    · refine lv_iload_n hx hb dX11_alone_15 rfl (lv_at hl 2 rfl) ?_
      refine lv_iconst (v := 1) hx hb dX11_alone_16 (by decide) ?_
      refine lv_icmp_eq (tgt := 23) hx hb dX11_alone_17 (by decide) (fun c51600 => ?_) (fun c51600 => ?_)
      · exact absurd c51600 (wk_neq px1 (by decide : Rg 1 1 (1 : Int32)) (by decide))
      · refine lv_bipush (v := (-2)) hx hb dX11_alone_20 (by decide) ?_
        exact W.iret (v := (-2)) hx hb hr (fun t ht hW => ⟨_, rfl, ⟨(by decide : Rg (-2) (-2) ((-2) : Int32)), trivial⟩, ht⟩) (fun q hq => absurd hq List.not_mem_nil) dX11_alone_22
set_option maxHeartbeats 4000000 in
set_option maxRecDepth 100000 in
theorem k_X11_alone_b3 (l : Launch) (D : va_G) (cI cS : ClassId) (a : Nat → Nat) (na nc N : Nat) (L u : SU) (hL : TyX L) (hN : N = 0 ∨ N = 24576) (x0 x1 : Int32) (hpn : ¬ (0 ≤ x0.toInt ∧ x0.toInt < (L 1 1).toInt)) : Met l yX11_alone wsX11_alone ({ frames := 1, cells := 0, slots := 0, locals := 40 }) (PS D cI cS (wX cI cS a na nc N L u) [.ref (a 0), .int x0, .int x1]) (vp_Si (fun r => Rg (-2) (-2) r ∧ True)) 0 0 (fun _ => False) := by
  refine Met.ofW (cc := cX11_alone) (maxL := 7) (ret := (some .int)) (by decide) rfl ?_
  intro p e s m args below meth c s₁ B hml hv
  obtain ⟨rfl, hP, hKK⟩ := hv
  have hx := B.exec
  have hb := B.bytes
  have hr := B.returns
  have hts := atoms_spec (ws := wsX11_alone) B.pre
  have hown : s.vm.findClass RX11 = some m.cls := findClass_of_methodNamed B.named
  have hlocks := B.notSynchronized
  have hK := hKK.1
  have hin11 : ∀ w ∈ wsX110, w ∈ wsX11_alone := by decide +kernel
  have hl := lv_entry ([.ref (a 0), .int x0, .int x1]) (n := 7) (Nat.le_of_ble_eq_true rfl)
  rw [lg_entry_eq]
  generalize (lg_sl ([.ref (a 0), .int x0, .int x1]) ++ List.replicate (7 - (lg_sl ([.ref (a 0), .int x0, .int x1])).length) Slot.unset).toArray = ls at hl ⊢
  have hl : lv_has ls 7 [(0, .ref (a 0)), (1, .int x0), (2, .int x1)] := hl
  refine lv_aload_n hx hb dX11_alone_0 rfl (lv_at hl 0 rfl) ?_
  refine va_get (D := D) (ci := 11) (v := .ref (a 1)) (C := RX11) (T := TX11) (N := 16) hx hb hts hin11 hown hK hP 0 rfl rfl 0 (by decide) (hts (.fieldLink RX11 12 "MissedPoints" "net" "LMissedPoints$Net;") (by decide +kernel)) (fun _ h9 => h9) rfl dX11_alone_1 ?_
  refine lv_iload_n hx hb dX11_alone_4 rfl (lv_at hl 1 rfl) ?_
  refine wk_sv 1 (As := [.int x0]) (rest := []) ⟨hx, hb, hml, hown, hts⟩ (k_X2_hasPoint_z l D cI cS a na nc N L u hL hN x0) hKK hP (ci := 2) rfl rfl (cwV 1 hts gX11_alone_X2_hasPoint rfl rfl rfl (by decide +kernel) ⟨Nat.le_of_ble_eq_true rfl, Nat.le_of_ble_eq_true rfl⟩) rfl hl.1 rfl (Nat.le_of_ble_eq_true rfl) dX11_alone_5 ⟨Nat.le_of_ble_eq_true rfl, Nat.le_of_ble_eq_true rfl⟩ (fun r51606 hr51606 => ?_)
  refine lv_if_eq (tgt := 20) hx hb dX11_alone_8 (by decide) (fun c51607 => ?_) (fun c51607 => ?_)
  · have g51608 : Rg 0 0 r51606 := wk_eql hr51606.1 (by decide : Rg 0 0 (0 : Int32)) c51607 (by decide)
    refine lv_bipush (v := (-2)) hx hb dX11_alone_20 (by decide) ?_
    exact W.iret (v := (-2)) hx hb hr (fun t ht hW => ⟨_, rfl, ⟨(by decide : Rg (-2) (-2) ((-2) : Int32)), trivial⟩, ht⟩) (fun q hq => absurd hq List.not_mem_nil) dX11_alone_22
  · have g51609 : Rg 0 11 x0 := (hr51606.2.1 c51607)
    have g51610 : Rg 1 1 r51606 := rg_ne_lo (k := 0) hr51606.1 (by decide) c51607 (by decide)
    exact absurd (hr51606.2.1 c51607) hpn
set_option maxHeartbeats 4000000 in
set_option maxRecDepth 100000 in
theorem k_X9_readFrom_z (l : Launch) (D : va_G) (cI cS : ClassId) (sz : Nat) (a : Nat → Nat) (na nc N : Nat) (L u0 : SU) (hL : TyX L) (hN : N = 0 ∨ N = 24576) (q : Nat) (hq : q < 4) : Met l yX9_readFrom wsX9_readFrom ({ frames := 3, cells := 0, slots := 0, locals := 120 }) (PQ D cI cS (wX cI cS a na nc N L u0) sz [.ref (a 34), .ref (a (26 + 2 * q))]) (QF (S := SU) D (wX cI cS a na nc N L u0) (wX cI cS a na nc N L) sz (fun r _ => Rg 0 1 r ∧ (r ≠ 0 → (L (26 + 2 * q) 2).toInt = (L 1 1).toInt))) 0 0 (va_A (wX cI cS a na nc N L u0) sz) := by
  refine Met.ofW (cc := cX9_readFrom) (maxL := 4) (ret := (some .boolean)) (by decide) rfl ?_
  intro p e s m args below meth c s₁ B hml hv
  obtain ⟨rfl, hsz, hP, hKK, hD0⟩ := hv
  have hx := B.exec
  have hb := B.bytes
  have hr := B.returns
  have hts := atoms_spec (ws := wsX9_readFrom) B.pre
  have hown : s.vm.findClass RX9 = some m.cls := findClass_of_methodNamed B.named
  have hlocks := B.notSynchronized
  have hK := hKK.1
  have hin2 : ∀ w ∈ wsX20, w ∈ wsX9_readFrom := by decide +kernel
  have hin6 : ∀ w ∈ wsX60, w ∈ wsX9_readFrom := by decide +kernel
  have hin9 : ∀ w ∈ wsX90, w ∈ wsX9_readFrom := by decide +kernel
  subst hsz
  have hD := hD0.self (sz := s.heap.size)
  obtain ⟨A, hAe⟩ : ∃ A, A = va_A (wX cI cS a na nc N L u0) s.heap.size := ⟨_, rfl⟩
  rw [← hAe] at hD
  have hA : ∀ q : Nat, s.heap.size ≤ q → A q := fun q h => by rw [hAe]; exact Or.inr h
  have hS : va_S A s.heap s.heap [] := va_S.rf
  have hl := lv_entry ([.ref (a 34), .ref (a (26 + 2 * q))]) (n := 4) (Nat.le_of_ble_eq_true rfl)
  rw [lg_entry_eq]
  generalize (lg_sl ([.ref (a 34), .ref (a (26 + 2 * q))]) ++ List.replicate (4 - (lg_sl ([.ref (a 34), .ref (a (26 + 2 * q))])).length) Slot.unset).toArray = ls at hl ⊢
  have hl : lv_has ls 4 [(0, .ref (a 34)), (1, .ref (a (26 + 2 * q)))] := hl
  obtain ⟨u, hu9⟩ : ∃ u : SU, u = u0 := ⟨_, rfl⟩
  rw [← hu9] at hP hD
  have lp71 : ∀ (n71 : Nat) (y71_l2 : Int32) (u : SU) (H : Heap) (locs : List Loc) (ls : Array Slot), Rg 0 12 y71_l2 → ((L (26 + 2 * q) 2).toInt = (L 1 1).toInt) → va_P D cls (wX cI cS a na nc N L u) H → va_D A (wX cI cS a na nc N L u) → va_S A s.heap H locs → lv_has ls 4 [(0, .ref (a 34)), (1, .ref (a (26 + 2 * q))), (2, .int y71_l2)] → 12 - y71_l2.toInt < (n71 : Int) → W p l e (headSpec wsX9_readFrom ({ frames := 3, cells := 0, slots := 0, locals := 120 })).room s m ([.ref (a 34), .ref (a (26 + 2 * q))]).toArray below meth c H locs 0 0 (MQ below (QF (S := SU) D (wX cI cS a na nc N L u0) (wX cI cS a na nc N L) s.heap.size (fun r _ => Rg 0 1 r ∧ (r ≠ 0 → (L (26 + 2 * q) 2).toInt = (L 1 1).toInt))) ([.ref (a 34), .ref (a (26 + 2 * q))]).toArray s 0 0 (va_A (wX cI cS a na nc N L u0) s.heap.size)) (F0 m 71 ls []) := by
    intro n71
    induction n71 with
    | zero =>
      intro y71_l2 u H locs ls g71_l2 x71_0 hP hD hS hl hm71
      exact absurd rfl (me_z g71_l2 hm71)
    | succ n71 ih71 =>
      intro y71_l2 u H locs ls g71_l2 x71_0 hP hD hS hl hm71
      refine lv_iload_n hx hb dX9_readFrom_71 rfl (lv_at hl 2 rfl) ?_
      refine lv_bipush (v := 12) hx hb dX9_readFrom_72 (by decide) ?_
      refine lv_icmp_ge (tgt := 109) hx hb dX9_readFrom_74 (by decide) (fun c51844 => ?_) (fun c51844 => ?_)
      · have g51845 : Rg 12 12 y71_l2 := rg_ler (by decide : Rg 12 12 (12 : Int32)) g71_l2 c51844 (by decide)
        refine lv_iconst (v := 1) hx hb dX9_readFrom_109 (by decide) ?_
        subst hAe
        exact W.zret (v := 1) hx hb hr (by decide) (fun t ht hW => ⟨⟨_, u, rfl, ⟨(by decide : Rg 0 1 (1 : Int32)), fun _ => (by have y90 : (12 : Int32).toInt ≤ y71_l2.toInt := (lz_le _ _).mp c51844; have y91 : Rg 12 12 y71_l2 := g51845; have y92 : Rg 12 12 y71_l2 := g51845; have y9c3 : (0 : Int32).toInt = 0 := (by decide); have y9c4 : (1 : Int32).toInt = 1 := (by decide); have y9c5 : (12 : Int32).toInt = 12 := (by decide); skip; omega)⟩, by rw [ht]; exact hP, hD⟩, hS.F ht⟩) hS.2.2 dX9_readFrom_110
      · have g51846 : Rg 0 11 y71_l2 := rg_ltl g71_l2 (by decide : Rg 12 12 (12 : Int32)) (rg_nle c51844) (by decide)
        refine lv_aload_n hx hb dX9_readFrom_77 rfl (lv_at hl 0 rfl) ?_
        refine va_get (D := D) (ci := 9) (v := .ref (a 35)) (C := RX9) (T := TX9) (N := 6) hx hb hts hin9 hown hK hP 34 rfl rfl 2 (by decide) (hts (.fieldLink RX9 9 "MissedPoints$Told" "mates" "[I") (by decide +kernel)) (fun _ h9 => h9) rfl dX9_readFrom_78 ?_
        refine lv_iload_n hx hb dX9_readFrom_81 rfl (lv_at hl 2 rfl) ?_
        refine lv_iload_n hx hb dX9_readFrom_82 rfl (lv_at hl 2 rfl) ?_
        refine lv_aload_n hx hb dX9_readFrom_83 rfl (lv_at hl 0 rfl) ?_
        refine va_get (D := D) (ci := 9) (v := .ref (a 1)) (C := RX9) (T := TX9) (N := 6) hx hb hts hin9 hown hK hP 34 rfl rfl 0 (by decide) (hts (.fieldLink RX9 21 "MissedPoints$Told" "net" "LMissedPoints$Net;") (by decide +kernel)) (fun _ h9 => h9) rfl dX9_readFrom_84 ?_
        refine va_getN (D := D) (ci := 2) (v := .int (L 1 1)) (C := RX2) (T := TX2) (N := 3) hx hb hts hin2 hown hK hP 1 rfl rfl 1 (by decide) (va_Nw.use rfl hKK.2.2.2.2.2.2.2.2.2.2.2.2.2.2.2.2.1) (fun _ h9 => h9) rfl dX9_readFrom_87 ?_
        refine lv_icmp_ge (tgt := 101) hx hb dX9_readFrom_90 (by decide) (fun c51847 => ?_) (fun c51847 => ?_)
        · have g51848 : Rg 0 11 (L 1 1) := rg_lel hL.1 g51846 c51847 (by decide)
          refine lv_iconst (v := (-1)) hx hb dX9_readFrom_101 (by decide) ?_
          refine ks_ast hx hb hK hP hD hS rfl (k := 35) rfl sx_35 (rg_in g51846 (by decide) (by decide)) dX9_readFrom_102 (fun u H locs hP hD hS => ?_)
          refine wk_iinc (lv' := fun r => [(2, .int r), (0, .ref (a 34)), (1, .ref (a (26 + 2 * q)))]) (e1 := 1) (f := 12) hx hb dX9_readFrom_103 hl (k := 2) rfl (by decide) g51846 (by decide) (fun _ => rfl) (fun r51849 ls hr51849 er51849 hl => ?_)
          refine lv_goto (tgt := 71) hx hb dX9_readFrom_106 (by decide) ?_
          exact ih71 r51849 u _ _ ls (show Rg 0 12 r51849 from rg_w hr51849 (by decide) (by decide)) (show ((L (26 + 2 * q) 2).toInt = (L 1 1).toInt) from by have y90 : y71_l2.toInt < (12 : Int32).toInt := (lz_lt _ _).mp (rg_nle c51844); have y91 : (L 1 1).toInt ≤ y71_l2.toInt := (lz_le _ _).mp c51847; have y92 : Rg 0 11 y71_l2 := g51846; have y93 : Rg 0 11 (L 1 1) := g51848; have y94 : Rg 1 12 r51849 := hr51849; have y9c5 : (0 : Int32).toInt = 0 := (by decide); have y9c6 : (1 : Int32).toInt = 1 := (by decide); have y9c7 : (12 : Int32).toInt = 12 := (by decide); omega) hP hD hS (lv_sub (l' := [(0, .ref (a 34)), (1, .ref (a (26 + 2 * q))), (2, .int r51849)]) hl [1, 2, 0] rfl) (me_up hm71 er51849 (by decide))
        · have g51850 : Rg 1 12 (L 1 1) := rg_ltr g51846 hL.1 (rg_nle c51847) (by decide)
          refine lv_aload_n hx hb dX9_readFrom_93 rfl (lv_at hl 1 rfl) ?_
          refine lv_iload_n hx hb dX9_readFrom_94 rfl (lv_at hl 2 rfl) ?_
          refine wk_sv (26 + 2 * q) (As := [.int y71_l2]) (rest := [.int y71_l2, .ref (a 35)]) ⟨hx, hb, hml, hown, hts⟩ (k_X6_at l D cI cS a na nc N L u hL hN q hq y71_l2) hKK hP (ci := 6) rfl (gx_sh hq) (cwV 1 hts gX9_readFrom_X6_at rfl rfl rfl (by decide +kernel) ⟨Nat.le_of_ble_eq_true rfl, Nat.le_of_ble_eq_true rfl⟩) rfl hl.1 rfl (Nat.le_of_ble_eq_true rfl) dX9_readFrom_95 ⟨Nat.le_of_ble_eq_true rfl, Nat.le_of_ble_eq_true rfl⟩ (fun r51851 hr51851 => ?_)
          refine lv_goto (tgt := 102) hx hb dX9_readFrom_98 (by decide) ?_
          refine ks_ast hx hb hK hP hD hS rfl (k := 35) rfl sx_35 (rg_in g51846 (by decide) (by decide)) dX9_readFrom_102 (fun u H locs hP hD hS => ?_)
          refine wk_iinc (lv' := fun r => [(2, .int r), (0, .ref (a 34)), (1, .ref (a (26 + 2 * q)))]) (e1 := 1) (f := 12) hx hb dX9_readFrom_103 hl (k := 2) rfl (by decide) g51846 (by decide) (fun _ => rfl) (fun r51852 ls hr51852 er51852 hl => ?_)
          refine lv_goto (tgt := 71) hx hb dX9_readFrom_106 (by decide) ?_
          exact ih71 r51852 u _ _ ls (show Rg 0 12 r51852 from rg_w hr51852 (by decide) (by decide)) (show ((L (26 + 2 * q) 2).toInt = (L 1 1).toInt) from by have y90 : y71_l2.toInt < (12 : Int32).toInt := (lz_lt _ _).mp (rg_nle c51844); have y91 : y71_l2.toInt < (L 1 1).toInt := (lz_lt _ _).mp (rg_nle c51847); have y92 : Rg 0 11 y71_l2 := g51846; have y93 : Rg 1 12 (L 1 1) := g51850; have y94 : Rg 1 12 r51852 := hr51852; have y9c5 : (0 : Int32).toInt = 0 := (by decide); have y9c6 : (1 : Int32).toInt = 1 := (by decide); have y9c7 : (12 : Int32).toInt = 12 := (by decide); omega) hP hD hS (lv_sub (l' := [(0, .ref (a 34)), (1, .ref (a (26 + 2 * q))), (2, .int r51852)]) hl [1, 2, 0] rfl) (me_up hm71 er51852 (by decide))
  have lp18 : ∀ (n18 : Nat) (y18_l2 : Int32) (u : SU) (H : Heap) (locs : List Loc) (ls : Array Slot), Rg 0 12 y18_l2 → ((L (26 + 2 * q) 2).toInt = (L 1 1).toInt) → va_P D cls (wX cI cS a na nc N L u) H → va_D A (wX cI cS a na nc N L u) → va_S A s.heap H locs → lv_has ls 4 [(0, .ref (a 34)), (1, .ref (a (26 + 2 * q))), (2, .int y18_l2)] → 12 - y18_l2.toInt < (n18 : Int) → W p l e (headSpec wsX9_readFrom ({ frames := 3, cells := 0, slots := 0, locals := 120 })).room s m ([.ref (a 34), .ref (a (26 + 2 * q))]).toArray below meth c H locs 0 0 (MQ below (QF (S := SU) D (wX cI cS a na nc N L u0) (wX cI cS a na nc N L) s.heap.size (fun r _ => Rg 0 1 r ∧ (r ≠ 0 → (L (26 + 2 * q) 2).toInt = (L 1 1).toInt))) ([.ref (a 34), .ref (a (26 + 2 * q))]).toArray s 0 0 (va_A (wX cI cS a na nc N L u0) s.heap.size)) (F0 m 18 ls []) := by
    intro n18
    induction n18 with
    | zero =>
      intro y18_l2 u H locs ls g18_l2 x18_0 hP hD hS hl hm18
      exact absurd rfl (me_z g18_l2 hm18)
    | succ n18 ih18 =>
      intro y18_l2 u H locs ls g18_l2 x18_0 hP hD hS hl hm18
      refine lv_iload_n hx hb dX9_readFrom_18 rfl (lv_at hl 2 rfl) ?_
      refine lv_aload_n hx hb dX9_readFrom_19 rfl (lv_at hl 0 rfl) ?_
      refine va_get (D := D) (ci := 9) (v := .ref (a 1)) (C := RX9) (T := TX9) (N := 6) hx hb hts hin9 hown hK hP 34 rfl rfl 0 (by decide) (hts (.fieldLink RX9 21 "MissedPoints$Told" "net" "LMissedPoints$Net;") (by decide +kernel)) (fun _ h9 => h9) rfl dX9_readFrom_20 ?_
      refine va_getN (D := D) (ci := 2) (v := .int (L 1 1)) (C := RX2) (T := TX2) (N := 3) hx hb hts hin2 hown hK hP 1 rfl rfl 1 (by decide) (va_Nw.use rfl hKK.2.2.2.2.2.2.2.2.2.2.2.2.2.2.2.2.1) (fun _ h9 => h9) rfl dX9_readFrom_23 ?_
      refine lv_icmp_ge (tgt := 69) hx hb dX9_readFrom_26 (by decide) (fun c51853 => ?_) (fun c51853 => ?_)
      · refine lv_iconst (v := 0) hx hb dX9_readFrom_69 (by decide) ?_
        refine lv_istore_n (lv' := [(2, .int 0), (0, .ref (a 34)), (1, .ref (a (26 + 2 * q)))]) hx hb dX9_readFrom_70 rfl hl (by decide) rfl (fun ls hl => ?_)
        exact lp71 13 (0 : Int32) u _ _ ls (by decide : Rg 0 12 (0 : Int32)) (show ((L (26 + 2 * q) 2).toInt = (L 1 1).toInt) from by have y90 : (L 1 1).toInt ≤ y18_l2.toInt := (lz_le _ _).mp c51853; have y9c1 : (0 : Int32).toInt = 0 := (by decide); have y9c2 : (1 : Int32).toInt = 1 := (by decide); omega) hP hD hS (lv_sub (l' := [(0, .ref (a 34)), (1, .ref (a (26 + 2 * q))), (2, .int 0)]) hl [1, 2, 0] rfl) (me_i (by decide : Rg 0 12 (0 : Int32)) (by decide))
      · have g51854 : Rg 1 12 (L 1 1) := rg_ltr g18_l2 hL.1 (rg_nle c51853) (by decide)
        have g51855 : Rg 0 11 y18_l2 := rg_ltl g18_l2 hL.1 (rg_nle c51853) (by decide)
        refine lv_aload_n hx hb dX9_readFrom_29 rfl (lv_at hl 1 rfl) ?_
        refine lv_iload_n hx hb dX9_readFrom_30 rfl (lv_at hl 2 rfl) ?_
        refine wk_sv (26 + 2 * q) (As := [.int y18_l2]) (rest := []) ⟨hx, hb, hml, hown, hts⟩ (k_X6_at l D cI cS a na nc N L u hL hN q hq y18_l2) hKK hP (ci := 6) rfl (gx_sh hq) (cwV 1 hts gX9_readFrom_X6_at rfl rfl rfl (by decide +kernel) ⟨Nat.le_of_ble_eq_true rfl, Nat.le_of_ble_eq_true rfl⟩) rfl hl.1 rfl (Nat.le_of_ble_eq_true rfl) dX9_readFrom_31 ⟨Nat.le_of_ble_eq_true rfl, Nat.le_of_ble_eq_true rfl⟩ (fun r51856 hr51856 => ?_)
        refine lv_istore_n (lv' := [(3, .int r51856), (0, .ref (a 34)), (1, .ref (a (26 + 2 * q))), (2, .int y18_l2)]) hx hb dX9_readFrom_34 rfl hl (by decide) rfl (fun ls hl => ?_)
        refine lv_iload_n hx hb dX9_readFrom_35 rfl (lv_at hl 0 rfl) ?_
        refine lv_iconst (v := (-1)) hx hb dX9_readFrom_36 (by decide) ?_
        refine lv_icmp_eq (tgt := 63) hx hb dX9_readFrom_37 (by decide) (fun c51857 => ?_) (fun c51857 => ?_)
        · have g51858 : Rg (-1) (-1) r51856 := wk_eql hr51856.1 (by decide : Rg (-1) (-1) ((-1) : Int32)) c51857 (by decide)
          refine wk_iinc (lv' := fun r => [(2, .int r), (3, .int r51856), (0, .ref (a 34)), (1, .ref (a (26 + 2 * q)))]) (e1 := 1) (f := 12) hx hb dX9_readFrom_63 hl (k := 3) rfl (by decide) g51855 (by decide) (fun _ => rfl) (fun r51859 ls hr51859 er51859 hl => ?_)
          refine lv_goto (tgt := 18) hx hb dX9_readFrom_66 (by decide) ?_
          exact ih18 r51859 u _ _ ls (show Rg 0 12 r51859 from rg_w hr51859 (by decide) (by decide)) (show ((L (26 + 2 * q) 2).toInt = (L 1 1).toInt) from by have y90 : y18_l2.toInt < (L 1 1).toInt := (lz_lt _ _).mp (rg_nle c51853); have y91 : r51856.toInt = ((-1) : Int32).toInt := congrArg Int32.toInt c51857; have y92 : Rg 1 12 (L 1 1) := g51854; have y93 : Rg 0 11 y18_l2 := g51855; have y94 : Rg (-1) (-1) r51856 := g51858; have y95 : Rg 1 12 r51859 := hr51859; have y96 : Rg (-1) (-1) r51856 := g51858; have y9c7 : ((-1) : Int32).toInt = -1 := (by decide); have y9c8 : (0 : Int32).toInt = 0 := (by decide); have y9c9 : (1 : Int32).toInt = 1 := (by decide); omega) hP hD hS (lv_sub (l' := [(0, .ref (a 34)), (1, .ref (a (26 + 2 * q))), (2, .int r51859)]) hl [2, 3, 0] rfl) (me_up hm18 er51859 (by decide))
        · refine lv_aload_n hx hb dX9_readFrom_40 rfl (lv_at hl 1 rfl) ?_
          refine va_get (D := D) (ci := 9) (v := .ref (a 1)) (C := RX9) (T := TX9) (N := 6) hx hb hts hin9 hown hK hP 34 rfl rfl 0 (by decide) (hts (.fieldLink RX9 21 "MissedPoints$Told" "net" "LMissedPoints$Net;") (by decide +kernel)) (fun _ h9 => h9) rfl dX9_readFrom_41 ?_
          refine lv_iload_n hx hb dX9_readFrom_44 rfl (lv_at hl 3 rfl) ?_
          refine lv_iload_n hx hb dX9_readFrom_45 rfl (lv_at hl 0 rfl) ?_
          refine wk_sv 1 (As := [.int y18_l2, .int r51856]) (rest := []) ⟨hx, hb, hml, hown, hts⟩ (k_X2_joined l D cI cS a na nc N L u hL hN y18_l2 r51856) hKK hP (ci := 2) rfl rfl (cwV 2 hts gX9_readFrom_X2_joined rfl rfl rfl (by decide +kernel) ⟨Nat.le_of_ble_eq_true rfl, Nat.le_of_ble_eq_true rfl⟩) rfl hl.1 rfl (Nat.le_of_ble_eq_true rfl) dX9_readFrom_46 ⟨Nat.le_of_ble_eq_true rfl, Nat.le_of_ble_eq_true rfl⟩ (fun r51860 hr51860 => ?_)
          refine lv_if_eq (tgt := 61) hx hb dX9_readFrom_49 (by decide) (fun c51861 => ?_) (fun c51861 => ?_)
          · have g51862 : Rg 0 0 r51860 := wk_eql hr51860.1 (by decide : Rg 0 0 (0 : Int32)) c51861 (by decide)
            refine lv_iconst (v := 0) hx hb dX9_readFrom_61 (by decide) ?_
            subst hAe
            exact W.zret (v := 0) hx hb hr (by decide) (fun t ht hW => ⟨⟨_, u, rfl, ⟨(by decide : Rg 0 1 (0 : Int32)), fun h9 => absurd rfl h9⟩, by rw [ht]; exact hP, hD⟩, hS.F ht⟩) hS.2.2 dX9_readFrom_62
          · have g51863 : Rg 0 11 r51856 := (hr51860.2 c51861).2
            have g51864 : Rg 1 1 r51860 := rg_ne_lo (k := 0) hr51860.1 (by decide) c51861 (by decide)
            refine lv_aload_n hx hb dX9_readFrom_52 rfl (lv_at hl 2 rfl) ?_
            refine lv_iload_n hx hb dX9_readFrom_53 rfl (lv_at hl 0 rfl) ?_
            refine wk_sv (26 + 2 * q) (As := [.int r51856]) (rest := []) ⟨hx, hb, hml, hown, hts⟩ (k_X6_at l D cI cS a na nc N L u hL hN q hq r51856) hKK hP (ci := 6) rfl (gx_sh hq) (cwV 1 hts gX9_readFrom_X6_at rfl rfl rfl (by decide +kernel) ⟨Nat.le_of_ble_eq_true rfl, Nat.le_of_ble_eq_true rfl⟩) rfl hl.1 rfl (Nat.le_of_ble_eq_true rfl) dX9_readFrom_54 ⟨Nat.le_of_ble_eq_true rfl, Nat.le_of_ble_eq_true rfl⟩ (fun r51865 hr51865 => ?_)
            refine lv_iload_n hx hb dX9_readFrom_57 rfl (lv_at hl 3 rfl) ?_
            refine lv_icmp_eq (tgt := 63) hx hb dX9_readFrom_58 (by decide) (fun c51866 => ?_) (fun c51866 => ?_)
            · have g51867 : Rg 0 11 r51865 := wk_eql hr51865.1 g51855 c51866 (by decide)
              refine wk_iinc (lv' := fun r => [(2, .int r), (3, .int r51856), (0, .ref (a 34)), (1, .ref (a (26 + 2 * q)))]) (e1 := 1) (f := 12) hx hb dX9_readFrom_63 hl (k := 3) rfl (by decide) g51855 (by decide) (fun _ => rfl) (fun r51868 ls hr51868 er51868 hl => ?_)
              refine lv_goto (tgt := 18) hx hb dX9_readFrom_66 (by decide) ?_
              exact ih18 r51868 u _ _ ls (show Rg 0 12 r51868 from rg_w hr51868 (by decide) (by decide)) (show ((L (26 + 2 * q) 2).toInt = (L 1 1).toInt) from by have y90 : y18_l2.toInt < (L 1 1).toInt := (lz_lt _ _).mp (rg_nle c51853); have y91 : ¬ r51856.toInt = ((-1) : Int32).toInt := fun z => c51857 (Int32.toInt_inj.mp z); have y92 : ¬ r51860.toInt = (0 : Int32).toInt := fun z => c51861 (Int32.toInt_inj.mp z); have y93 : r51865.toInt = y18_l2.toInt := congrArg Int32.toInt c51866; have y94 : Rg 1 12 (L 1 1) := g51854; have y95 : Rg 0 11 y18_l2 := g51855; have y96 : Rg 0 11 r51856 := g51863; have y97 : Rg 1 1 r51860 := g51864; have y98 : Rg 0 11 r51865 := g51867; have y99 : Rg 1 12 r51868 := hr51868; have y910 : Rg 0 11 r51856 := g51863; have y9c11 : ((-1) : Int32).toInt = -1 := (by decide); have y9c12 : (0 : Int32).toInt = 0 := (by decide); have y9c13 : (1 : Int32).toInt = 1 := (by decide); omega) hP hD hS (lv_sub (l' := [(0, .ref (a 34)), (1, .ref (a (26 + 2 * q))), (2, .int r51868)]) hl [2, 3, 0] rfl) (me_up hm18 er51868 (by decide))
            · refine lv_iconst (v := 0) hx hb dX9_readFrom_61 (by decide) ?_
              subst hAe
              exact W.zret (v := 0) hx hb hr (by decide) (fun t ht hW => ⟨⟨_, u, rfl, ⟨(by decide : Rg 0 1 (0 : Int32)), fun h9 => absurd rfl h9⟩, by rw [ht]; exact hP, hD⟩, hS.F ht⟩) hS.2.2 dX9_readFrom_62
  refine lv_aload_n hx hb dX9_readFrom_0 rfl (lv_at hl 1 rfl) ?_
  refine va_getN (D := D) (ci := 6) (v := .int ((L (26 + 2 * q) 2))) (C := RX6) (T := TX6) (N := 3) hx hb hts hin6 hown hK hP (26 + 2 * q) (gx_sh hq) rfl 2 (by decide) (va_Nw.use rfl hKK.2.2.2.2.2.2.2.2.2.2.2.2.2.2.2.1) (fun _ h9 => h9) rfl dX9_readFrom_1 ?_
  refine lv_aload_n hx hb dX9_readFrom_4 rfl (lv_at hl 0 rfl) ?_
  refine va_get (D := D) (ci := 9) (v := .ref (a 1)) (C := RX9) (T := TX9) (N := 6) hx hb hts hin9 hown hK hP 34 rfl rfl 0 (by decide) (hts (.fieldLink RX9 21 "MissedPoints$Told" "net" "LMissedPoints$Net;") (by decide +kernel)) (fun _ h9 => h9) rfl dX9_readFrom_5 ?_
  refine va_getN (D := D) (ci := 2) (v := .int (L 1 1)) (C := RX2) (T := TX2) (N := 3) hx hb hts hin2 hown hK hP 1 rfl rfl 1 (by decide) (va_Nw.use rfl hKK.2.2.2.2.2.2.2.2.2.2.2.2.2.2.2.2.1) (fun _ h9 => h9) rfl dX9_readFrom_8 ?_
  refine lv_icmp_eq (tgt := 16) hx hb dX9_readFrom_11 (by decide) (fun c51869 => ?_) (fun c51869 => ?_)
  · have g51870 : Rg 0 12 ((L (26 + 2 * q) 2)) := wk_eql (hL.sh hq) hL.1 c51869 (by decide)
    refine lv_iconst (v := 0) hx hb dX9_readFrom_16 (by decide) ?_
    refine lv_istore_n (lv' := [(2, .int 0), (0, .ref (a 34)), (1, .ref (a (26 + 2 * q)))]) hx hb dX9_readFrom_17 rfl hl (by decide) rfl (fun ls hl => ?_)
    exact lp18 13 (0 : Int32) u _ _ ls (by decide : Rg 0 12 (0 : Int32)) (show ((L (26 + 2 * q) 2).toInt = (L 1 1).toInt) from by have y90 : ((L (26 + 2 * q) 2)).toInt = (L 1 1).toInt := congrArg Int32.toInt c51869; have y91 : Rg 0 12 ((L (26 + 2 * q) 2)) := g51870; have y9c2 : (0 : Int32).toInt = 0 := (by decide); have y9c3 : (1 : Int32).toInt = 1 := (by decide); omega) hP hD hS (lv_sub (l' := [(0, .ref (a 34)), (1, .ref (a (26 + 2 * q))), (2, .int 0)]) hl [1, 2, 0] rfl) (me_i (by decide : Rg 0 12 (0 : Int32)) (by decide))
  · refine lv_iconst (v := 0) hx hb dX9_readFrom_14 (by decide) ?_
    subst hAe
    exact W.zret (v := 0) hx hb hr (by decide) (fun t ht hW => ⟨⟨_, u, rfl, ⟨(by decide : Rg 0 1 (0 : Int32)), fun h9 => absurd rfl h9⟩, by rw [ht]; exact hP, hD⟩, hS.F ht⟩) hS.2.2 dX9_readFrom_15
set_option maxHeartbeats 4000000 in
set_option maxRecDepth 100000 in
theorem k_X11_refusalOfTold_z (l : Launch) (D : va_G) (cI cS : ClassId) (sz : Nat) (a : Nat → Nat) (na nc N : Nat) (L u0 : SU) (hL : TyX L) (hN : N = 0 ∨ N = 24576) (x0 : Int32) : Met l yX11_refusalOfTold wsX11_refusalOfTold ({ frames := 4, cells := 0, slots := 0, locals := 160 }) (PQ D cI cS (wX cI cS a na nc N L u0) sz [.ref (a 0), .int x0]) (QF (S := SU) D (wX cI cS a na nc N L u0) (wX cI cS a na nc N L) sz (fun r _ => Rg (-11) 0 r ∧ (r = 0 → Rg 0 3 x0) ∧ (r = 0 → ((L (26 + 2 * x0.toNatClampNeg) 2).toInt = (L 1 1).toInt)))) 0 0 (va_A (wX cI cS a na nc N L u0) sz) := by
  refine Met.ofW (cc := cX11_refusalOfTold) (maxL := 3) (ret := (some .int)) (by decide) rfl ?_
  intro p e s m args below meth c s₁ B hml hv
  obtain ⟨rfl, hsz, hP, hKK, hD0⟩ := hv
  have hx := B.exec
  have hb := B.bytes
  have hr := B.returns
  have hts := atoms_spec (ws := wsX11_refusalOfTold) B.pre
  have hown : s.vm.findClass RX11 = some m.cls := findClass_of_methodNamed B.named
  have hlocks := B.notSynchronized
  have hK := hKK.1
  have hin11 : ∀ w ∈ wsX110, w ∈ wsX11_refusalOfTold := by decide +kernel
  subst hsz
  have hD := hD0.self (sz := s.heap.size)
  obtain ⟨A, hAe⟩ : ∃ A, A = va_A (wX cI cS a na nc N L u0) s.heap.size := ⟨_, rfl⟩
  rw [← hAe] at hD
  have hA : ∀ q : Nat, s.heap.size ≤ q → A q := fun q h => by rw [hAe]; exact Or.inr h
  have hS : va_S A s.heap s.heap [] := va_S.rf
  have hl := lv_entry ([.ref (a 0), .int x0]) (n := 3) (Nat.le_of_ble_eq_true rfl)
  rw [lg_entry_eq]
  generalize (lg_sl ([.ref (a 0), .int x0]) ++ List.replicate (3 - (lg_sl ([.ref (a 0), .int x0])).length) Slot.unset).toArray = ls at hl ⊢
  have hl : lv_has ls 3 [(0, .ref (a 0)), (1, .int x0)] := hl
  obtain ⟨u, hu9⟩ : ∃ u : SU, u = u0 := ⟨_, rfl⟩
  rw [← hu9] at hP hD
  refine lv_aload_n hx hb dX11_refusalOfTold_0 rfl (lv_at hl 0 rfl) ?_
  refine lv_iload_n hx hb dX11_refusalOfTold_1 rfl (lv_at hl 1 rfl) ?_
  refine wk_sv 0 (As := [.int x0]) (rest := []) ⟨hx, hb, hml, hown, hts⟩ (k_X11_refusalOfSheet l D cI cS a na nc N L u hL hN x0) hKK hP (ci := 11) rfl rfl (cwV 1 hts gX11_refusalOfTold_X11_refusalOfSheet rfl rfl rfl (by decide +kernel) ⟨Nat.le_of_ble_eq_true rfl, Nat.le_of_ble_eq_true rfl⟩) rfl hl.1 rfl (Nat.le_of_ble_eq_true rfl) dX11_refusalOfTold_2 ⟨Nat.le_of_ble_eq_true rfl, Nat.le_of_ble_eq_true rfl⟩ (fun r51881 hr51881 => ?_)
  refine lv_istore_n (lv' := [(2, .int r51881), (0, .ref (a 0)), (1, .int x0)]) hx hb dX11_refusalOfTold_5 rfl hl (by decide) rfl (fun ls hl => ?_)
  refine lv_iload_n hx hb dX11_refusalOfTold_6 rfl (lv_at hl 0 rfl) ?_
  refine lv_if_eq (tgt := 12) hx hb dX11_refusalOfTold_7 (by decide) (fun c51882 => ?_) (fun c51882 => ?_)
  · have g51883 : Rg 0 3 x0 := (hr51881.2 c51882)
    have g51884 : Rg 0 0 r51881 := wk_eql hr51881.1 (by decide : Rg 0 0 (0 : Int32)) c51882 (by decide)
    refine lv_aload_n hx hb dX11_refusalOfTold_12 rfl (lv_at hl 1 rfl) ?_
    refine va_get (D := D) (ci := 11) (v := .ref (a 34)) (C := RX11) (T := TX11) (N := 16) hx hb hts hin11 hown hK hP 0 rfl rfl 13 (by decide) (hts (.fieldLink RX11 82 "MissedPoints" "told" "LMissedPoints$Told;") (by decide +kernel)) (fun _ h9 => h9) rfl dX11_refusalOfTold_13 ?_
    refine lv_aload_n hx hb dX11_refusalOfTold_16 rfl (lv_at hl 1 rfl) ?_
    refine va_get (D := D) (ci := 11) (v := .ref (a 25)) (C := RX11) (T := TX11) (N := 16) hx hb hts hin11 hown hK hP 0 rfl rfl 12 (by decide) (hts (.fieldLink RX11 75 "MissedPoints" "sheets" "[LMissedPoints$Sheet;") (by decide +kernel)) (fun _ h9 => h9) rfl dX11_refusalOfTold_17 ?_
    refine lv_iload_n hx hb dX11_refusalOfTold_20 rfl (lv_at hl 2 rfl) ?_
    obtain ⟨q51885, hq51885, eq51885, zq51885⟩ := ks_sh (a := a) g51883
    refine va_aldq hx hb hK hP 25 1 rfl rfl (rg_in g51883 (by decide) (by decide)) dX11_refusalOfTold_21 ?_
    refine lz_va (y := .ref (a (26 + 2 * q51885))) (by show va_rf _ = _; rw [zq51885]; rfl) ?_
    refine wk_qi (wX cI cS a na nc N L) u (As := [.ref (a (26 + 2 * q51885))]) (rest := []) ⟨hx, hb, hml, hown, hts⟩ (k_X9_readFrom_z l D cI cS _ a na nc N L u hL hN q51885 hq51885) hKK hP hD hS hA 34 (ci := 9) rfl rfl (cwV 1 hts gX11_refusalOfTold_X9_readFrom rfl rfl rfl (by decide +kernel) ⟨Nat.le_of_ble_eq_true rfl, Nat.le_of_ble_eq_true rfl⟩) rfl hl.1 rfl (Nat.le_of_ble_eq_true rfl) dX11_refusalOfTold_22 ⟨Nat.le_of_ble_eq_true rfl, Nat.le_of_ble_eq_true rfl⟩ (fun r51886 u H locs hr51886 hP hD hS => ?_)
    refine lv_if_eq (tgt := 32) hx hb dX11_refusalOfTold_25 (by decide) (fun c51887 => ?_) (fun c51887 => ?_)
    · have g51888 : Rg 0 0 r51886 := wk_eql hr51886.1 (by decide : Rg 0 0 (0 : Int32)) c51887 (by decide)
      refine lv_bipush (v := (-3)) hx hb dX11_refusalOfTold_32 (by decide) ?_
      subst hAe
      exact W.iret (v := (-3)) hx hb hr (fun t ht hW => ⟨⟨_, u, rfl, ⟨(by decide : Rg (-11) 0 ((-3) : Int32)), fun h9 => absurd h9 (by decide), fun h9 => absurd h9 (by decide)⟩, by rw [ht]; exact hP, hD⟩, hS.F ht⟩) hS.2.2 dX11_refusalOfTold_34
    · have g51889 : Rg 1 1 r51886 := rg_ne_lo (k := 0) hr51886.1 (by decide) c51887 (by decide)
      refine lv_iconst (v := 0) hx hb dX11_refusalOfTold_28 (by decide) ?_
      refine lv_goto (tgt := 34) hx hb dX11_refusalOfTold_29 (by decide) ?_
      subst hAe
      exact W.iret (v := 0) hx hb hr (fun t ht hW => ⟨⟨_, u, rfl, ⟨(by decide : Rg (-11) 0 (0 : Int32)), fun _ => g51883, fun _ => (by rw [eq51885]; exact hr51886.2 c51887)⟩, by rw [ht]; exact hP, hD⟩, hS.F ht⟩) hS.2.2 dX11_refusalOfTold_34
  · have g51890 : Rg (-11) (-1) r51881 := rg_ne_hi (k := 0) hr51881.1 (by decide) c51882 (by decide)
    refine lv_iload_n hx hb dX11_refusalOfTold_10 rfl (lv_at hl 0 rfl) ?_
    subst hAe
    exact W.iret (v := r51881) hx hb hr (fun t ht hW => ⟨⟨_, u, rfl, ⟨(show Rg (-11) 0 r51881 from rg_w g51890 (by decide) (by decide)), fun h9 => absurd h9 (wk_nz g51890 (by decide)), fun h9 => absurd h9 (wk_nz g51890 (by decide))⟩, by rw [ht]; exact hP, hD⟩, hS.F ht⟩) hS.2.2 dX11_refusalOfTold_11
set_option maxRecDepth 20000 in
theorem ggX11_grow_X11_refusalOfTold : GoodIn wsX11_grow wsX11_refusalOfTold := goodIn_r _ [7, 1, 2, 8, 9, 10, 6, 11, 12, 13, 14, 15, 16, 17, 18, 19, 20, 21, 22, 23, 24, 25, 26, 27, 28, 29, 30, 31, 32, 33, 34, 35, 36, 37, 38, 39, 40, 41, 42, 43, 44, 45, 46, 47, 48, 49, 50, 51, 52, 154, 155, 156, 157, 158, 159, 160, 161, 162, 163, 164, 165, 166, 167, 168, 169, 170, 171, 172, 173, 174, 175, 176, 177, 178, 179, 180, 181] (by decide +kernel) (by decide +kernel)
set_option maxRecDepth 20000 in
theorem gX11_grow_X11_refusalOfTold : GoodIn wsX11_grow (wsV RX11 225 RX11 yX11_refusalOfTold wsX11_refusalOfTold) := goodIn_app (goodIn_of _ (by decide +kernel)) ggX11_grow_X11_refusalOfTold
set_option maxRecDepth 20000 in
theorem ggX11_grow_X9_lineCount : GoodIn wsX11_grow wsX9_lineCount := goodIn_r _ [62, 26, 63, 64, 65, 24, 66, 27, 67, 68, 69, 70, 71, 72, 73, 173, 174, 175, 176, 177, 178, 179, 180, 181] (by decide +kernel) (by decide +kernel)
set_option maxRecDepth 20000 in
theorem gX11_grow_X9_lineCount : GoodIn wsX11_grow (wsV RX11 247 RX9 yX9_lineCount wsX9_lineCount) := goodIn_app (goodIn_of _ (by decide +kernel)) ggX11_grow_X9_lineCount
set_option maxRecDepth 20000 in
theorem ggX11_grow_X9_seekWay : GoodIn wsX11_grow wsX9_seekWay := goodIn_r _ [56, 57, 58, 26, 59, 60, 61, 24, 62, 63, 64, 65, 66, 27, 67, 68, 69, 70, 71, 72, 73, 74, 75, 76, 41, 77, 52, 78, 79, 80, 81, 82, 83, 84, 85, 86, 87, 88, 89, 90, 91, 92, 93, 94, 95, 96, 97, 98, 99, 100, 101, 102, 103, 104, 105, 106, 107, 108, 109, 110, 111, 112, 113, 114, 115, 116, 117, 118, 119, 120, 121, 122, 123, 124, 125, 126, 127, 128, 43, 48, 49, 50, 51, 173, 174, 175, 176, 177, 178, 179, 180, 181, 182, 183, 184, 185, 186, 187] (by decide +kernel) (by decide +kernel)
set_option maxRecDepth 20000 in
theorem gX11_grow_X9_seekWay : GoodIn wsX11_grow (wsV RX11 231 RX9 yX9_seekWay wsX9_seekWay) := goodIn_app (goodIn_of _ (by decide +kernel)) ggX11_grow_X9_seekWay
set_option maxRecDepth 20000 in
theorem ggX11_grow_X9_turnWay : GoodIn wsX11_grow wsX9_turnWay := goodIn_r _ [132, 57, 120, 26, 27, 133, 45, 46, 41, 47, 48, 49, 50, 51, 52, 173, 174, 175, 176, 177, 178, 179, 180, 181] (by decide +kernel) (by decide +kernel)
set_option maxRecDepth 20000 in
theorem gX11_grow_X9_turnWay : GoodIn wsX11_grow (wsV RX11 237 RX9 yX9_turnWay wsX9_turnWay) := goodIn_app (goodIn_of _ (by decide +kernel)) ggX11_grow_X9_turnWay
set_option maxRecDepth 20000 in
theorem ggX11_grow_X9_writeTo : GoodIn wsX11_grow wsX9_writeTo := goodIn_r _ [137, 26, 27, 138, 139, 140, 18, 141, 20, 142, 143, 144, 145, 146, 147, 148, 37, 32, 149, 150, 151, 152, 33, 34, 35, 36, 173, 174, 175, 176, 177, 178, 179, 180, 181, 170, 171, 172] (by decide +kernel) (by decide +kernel)
set_option maxRecDepth 20000 in
theorem gX11_grow_X9_writeTo : GoodIn wsX11_grow (wsV RX11 243 RX9 yX9_writeTo wsX9_writeTo) := goodIn_app (goodIn_of _ (by decide +kernel)) ggX11_grow_X9_writeTo
theorem dX11_grow_0 : decode cX11_grow 0 = .ok (.aload_n 0, 1) := by decide +kernel
theorem dX11_grow_1 : decode cX11_grow 1 = .ok (.iload_n 1, 1) := by decide +kernel
theorem dX11_grow_10 : decode cX11_grow 10 = .ok (.iload_n 2, 1) := by decide +kernel
theorem dX11_grow_11 : decode cX11_grow 11 = .ok (.ireturn, 1) := by decide +kernel
theorem dX11_grow_12 : decode cX11_grow 12 = .ok (.aload_n 0, 1) := by decide +kernel
theorem dX11_grow_13 : decode cX11_grow 13 = .ok (.getfield 82, 3) := by decide +kernel
theorem dX11_grow_16 : decode cX11_grow 16 = .ok (.invokevirtual 231, 3) := by decide +kernel
theorem dX11_grow_19 : decode cX11_grow 19 = .ok (.ifCond .ne 5, 3) := by decide +kernel
theorem dX11_grow_2 : decode cX11_grow 2 = .ok (.invokevirtual 225, 3) := by decide +kernel
theorem dX11_grow_22 : decode cX11_grow 22 = .ok (.iconst (-1), 1) := by decide +kernel
theorem dX11_grow_23 : decode cX11_grow 23 = .ok (.ireturn, 1) := by decide +kernel
theorem dX11_grow_24 : decode cX11_grow 24 = .ok (.aload_n 0, 1) := by decide +kernel
theorem dX11_grow_25 : decode cX11_grow 25 = .ok (.getfield 82, 3) := by decide +kernel
theorem dX11_grow_28 : decode cX11_grow 28 = .ok (.invokevirtual 237, 3) := by decide +kernel
theorem dX11_grow_31 : decode cX11_grow 31 = .ok (.aload_n 0, 1) := by decide +kernel
theorem dX11_grow_32 : decode cX11_grow 32 = .ok (.getfield 82, 3) := by decide +kernel
theorem dX11_grow_35 : decode cX11_grow 35 = .ok (.aload_n 0, 1) := by decide +kernel
theorem dX11_grow_36 : decode cX11_grow 36 = .ok (.getfield 75, 3) := by decide +kernel
theorem dX11_grow_39 : decode cX11_grow 39 = .ok (.iload_n 1, 1) := by decide +kernel
theorem dX11_grow_40 : decode cX11_grow 40 = .ok (.aaload, 1) := by decide +kernel
theorem dX11_grow_41 : decode cX11_grow 41 = .ok (.aload_n 0, 1) := by decide +kernel
theorem dX11_grow_42 : decode cX11_grow 42 = .ok (.getfield 75, 3) := by decide +kernel
theorem dX11_grow_45 : decode cX11_grow 45 = .ok (.iload_n 1, 1) := by decide +kernel
theorem dX11_grow_46 : decode cX11_grow 46 = .ok (.aaload, 1) := by decide +kernel
theorem dX11_grow_47 : decode cX11_grow 47 = .ok (.getfield 240, 3) := by decide +kernel
theorem dX11_grow_5 : decode cX11_grow 5 = .ok (.istore_n 2, 1) := by decide +kernel
theorem dX11_grow_50 : decode cX11_grow 50 = .ok (.invokevirtual 243, 3) := by decide +kernel
theorem dX11_grow_53 : decode cX11_grow 53 = .ok (.aload_n 0, 1) := by decide +kernel
theorem dX11_grow_54 : decode cX11_grow 54 = .ok (.getfield 82, 3) := by decide +kernel
theorem dX11_grow_57 : decode cX11_grow 57 = .ok (.invokevirtual 247, 3) := by decide +kernel
theorem dX11_grow_6 : decode cX11_grow 6 = .ok (.iload_n 2, 1) := by decide +kernel
theorem dX11_grow_60 : decode cX11_grow 60 = .ok (.ireturn, 1) := by decide +kernel
theorem dX11_grow_7 : decode cX11_grow 7 = .ok (.ifCond .eq 5, 3) := by decide +kernel
set_option maxHeartbeats 4000000 in
set_option maxRecDepth 100000 in
theorem k_X11_grow (l : Launch) (D : va_G) (cI cS : ClassId) (sz : Nat) (a : Nat → Nat) (na nc N : Nat) (l_s l_t l_i l_kp l_iz l_z l_tp l_o0 l_o1 l_o2 l_o3 l_n0 l_n1 l_n2 l_n3 : Int32) (u0 : SU) (hL : TyX (mkL l_s l_t l_i l_kp l_iz l_z l_tp l_o0 l_o1 l_o2 l_o3 l_n0 l_n1 l_n2 l_n3)) (hN : N = 0 ∨ N = 24576) (x0 : Int32) : Met l yX11_grow wsX11_grow ({ frames := 17, cells := 0, slots := 0, locals := 680 }) (PQ D cI cS (wX cI cS a na nc N (mkL l_s l_t l_i l_kp l_iz l_z l_tp l_o0 l_o1 l_o2 l_o3 l_n0 l_n1 l_n2 l_n3) u0) sz [.ref (a 0), .int x0]) (QF (S := Int32 × Int32 × Int32 × Int32 × Int32 × Int32 × Int32 × Int32 × SU) D (wX cI cS a na nc N (mkL l_s l_t l_i l_kp l_iz l_z l_tp l_o0 l_o1 l_o2 l_o3 l_n0 l_n1 l_n2 l_n3) u0) (fun q => wX cI cS a na nc N (mkL l_s l_t l_i l_kp l_iz l_z l_tp q.1 q.2.1 q.2.2.1 q.2.2.2.1 q.2.2.2.2.1 q.2.2.2.2.2.1 q.2.2.2.2.2.2.1 q.2.2.2.2.2.2.2.1) q.2.2.2.2.2.2.2.2) sz (fun r q => Rg (-2147483648) 2147483647 r ∧ Rg 0 40 q.2.2.2.2.1 ∧ Rg 0 40 q.2.2.2.2.2.1 ∧ Rg 0 40 q.2.2.2.2.2.2.1 ∧ Rg 0 40 q.2.2.2.2.2.2.2.1 ∧ (q.1.toInt = l_o0.toInt ∧ q.2.2.2.2.1.toInt = l_n0.toInt) ∧ (q.2.1.toInt = l_o1.toInt ∧ q.2.2.2.2.2.1.toInt = l_n1.toInt) ∧ (q.2.2.1.toInt = l_o2.toInt ∧ q.2.2.2.2.2.2.1.toInt = l_n2.toInt) ∧ (q.2.2.2.1.toInt = l_o3.toInt ∧ q.2.2.2.2.2.2.2.1.toInt = l_n3.toInt))) 0 0 (va_A (wX cI cS a na nc N (mkL l_s l_t l_i l_kp l_iz l_z l_tp l_o0 l_o1 l_o2 l_o3 l_n0 l_n1 l_n2 l_n3) u0) sz) := by
  refine Met.ofW (cc := cX11_grow) (maxL := 3) (ret := (some .int)) (by decide) rfl ?_
  intro p e s m args below meth c s₁ B hml hv
  obtain ⟨rfl, hsz, hP, hKK, hD0⟩ := hv
  have hx := B.exec
  have hb := B.bytes
  have hr := B.returns
  have hts := atoms_spec (ws := wsX11_grow) B.pre
  have hown : s.vm.findClass RX11 = some m.cls := findClass_of_methodNamed B.named
  have hlocks := B.notSynchronized
  have hK := hKK.1
  have hin6 : ∀ w ∈ wsX60, w ∈ wsX11_grow := by decide +kernel
  have hin11 : ∀ w ∈ wsX110, w ∈ wsX11_grow := by decide +kernel
  subst hsz
  have hD := hD0.self (sz := s.heap.size)
  obtain ⟨A, hAe⟩ : ∃ A, A = va_A (wX cI cS a na nc N (mkL l_s l_t l_i l_kp l_iz l_z l_tp l_o0 l_o1 l_o2 l_o3 l_n0 l_n1 l_n2 l_n3) u0) s.heap.size := ⟨_, rfl⟩
  rw [← hAe] at hD
  have hA : ∀ q : Nat, s.heap.size ≤ q → A q := fun q h => by rw [hAe]; exact Or.inr h
  have hS : va_S A s.heap s.heap [] := va_S.rf
  have hl := lv_entry ([.ref (a 0), .int x0]) (n := 3) (Nat.le_of_ble_eq_true rfl)
  rw [lg_entry_eq]
  generalize (lg_sl ([.ref (a 0), .int x0]) ++ List.replicate (3 - (lg_sl ([.ref (a 0), .int x0])).length) Slot.unset).toArray = ls at hl ⊢
  have hl : lv_has ls 3 [(0, .ref (a 0)), (1, .int x0)] := hl
  obtain ⟨u, hu9⟩ : ∃ u : SU, u = u0 := ⟨_, rfl⟩
  rw [← hu9] at hP hD
  have p_s : Rg 0 12 l_s := hL.1
  have p_t : Rg 0 12 l_t := hL.2.1
  have p_i : Rg 0 12 l_i := hL.2.2.1
  have p_tp : Rg 0 120 l_tp := hL.2.2.2.1
  have p_n0 : Rg 0 40 l_n0 := hL.2.2.2.2.1
  have p_n1 : Rg 0 40 l_n1 := hL.2.2.2.2.2.1
  have p_n2 : Rg 0 40 l_n2 := hL.2.2.2.2.2.2.1
  have p_n3 : Rg 0 40 l_n3 := hL.2.2.2.2.2.2.2
  refine lv_aload_n hx hb dX11_grow_0 rfl (lv_at hl 0 rfl) ?_
  refine lv_iload_n hx hb dX11_grow_1 rfl (lv_at hl 1 rfl) ?_
  refine wk_qi (wX cI cS a na nc N (mkL l_s l_t l_i l_kp l_iz l_z l_tp l_o0 l_o1 l_o2 l_o3 l_n0 l_n1 l_n2 l_n3)) u (As := [.int x0]) (rest := []) ⟨hx, hb, hml, hown, hts⟩ (k_X11_refusalOfTold_z l D cI cS _ a na nc N (mkL l_s l_t l_i l_kp l_iz l_z l_tp l_o0 l_o1 l_o2 l_o3 l_n0 l_n1 l_n2 l_n3) u (show TyX (mkL l_s l_t l_i l_kp l_iz l_z l_tp l_o0 l_o1 l_o2 l_o3 l_n0 l_n1 l_n2 l_n3) from ⟨p_s, p_t, p_i, p_tp, p_n0, p_n1, p_n2, p_n3⟩) hN x0) hKK hP hD hS hA 0 (ci := 11) rfl rfl (cwV 1 hts gX11_grow_X11_refusalOfTold rfl rfl rfl (by decide +kernel) ⟨Nat.le_of_ble_eq_true rfl, Nat.le_of_ble_eq_true rfl⟩) rfl hl.1 rfl (Nat.le_of_ble_eq_true rfl) dX11_grow_2 ⟨Nat.le_of_ble_eq_true rfl, Nat.le_of_ble_eq_true rfl⟩ (fun r51921 u H locs hr51921 hP hD hS => ?_)
  refine lv_istore_n (lv' := [(2, .int r51921), (0, .ref (a 0)), (1, .int x0)]) hx hb dX11_grow_5 rfl hl (by decide) rfl (fun ls hl => ?_)
  refine lv_iload_n hx hb dX11_grow_6 rfl (lv_at hl 0 rfl) ?_
  refine lv_if_eq (tgt := 12) hx hb dX11_grow_7 (by decide) (fun c51922 => ?_) (fun c51922 => ?_)
  · have g51923 : Rg 0 3 x0 := (hr51921.2.1 c51922)
    have zt51924 : (((mkL l_s l_t l_i l_kp l_iz l_z l_tp l_o0 l_o1 l_o2 l_o3 l_n0 l_n1 l_n2 l_n3) (26 + 2 * x0.toNatClampNeg) 2).toInt = l_s.toInt) := hr51921.2.2 c51922
    have g51925 : Rg 0 0 r51921 := wk_eql hr51921.1 (by decide : Rg 0 0 (0 : Int32)) c51922 (by decide)
    refine lv_aload_n hx hb dX11_grow_12 rfl (lv_at hl 1 rfl) ?_
    refine va_get (D := D) (ci := 11) (v := .ref (a 34)) (C := RX11) (T := TX11) (N := 16) hx hb hts hin11 hown hK hP 0 rfl rfl 13 (by decide) (hts (.fieldLink RX11 82 "MissedPoints" "told" "LMissedPoints$Told;") (by decide +kernel)) (fun _ h9 => h9) rfl dX11_grow_13 ?_
    refine wk_qi (wX cI cS a na nc N (mkL l_s l_t l_i l_kp l_iz l_z l_tp l_o0 l_o1 l_o2 l_o3 l_n0 l_n1 l_n2 l_n3)) u (As := []) (rest := []) ⟨hx, hb, hml, hown, hts⟩ (k_X9_seekWay l D cI cS _ a na nc N (mkL l_s l_t l_i l_kp l_iz l_z l_tp l_o0 l_o1 l_o2 l_o3 l_n0 l_n1 l_n2 l_n3) u (show TyX (mkL l_s l_t l_i l_kp l_iz l_z l_tp l_o0 l_o1 l_o2 l_o3 l_n0 l_n1 l_n2 l_n3) from ⟨p_s, p_t, p_i, p_tp, p_n0, p_n1, p_n2, p_n3⟩) hN) hKK hP hD hS hA 34 (ci := 9) rfl rfl (cwV 0 hts gX11_grow_X9_seekWay rfl rfl rfl (by decide +kernel) ⟨Nat.le_of_ble_eq_true rfl, Nat.le_of_ble_eq_true rfl⟩) rfl hl.1 rfl (Nat.le_of_ble_eq_true rfl) dX11_grow_16 ⟨Nat.le_of_ble_eq_true rfl, Nat.le_of_ble_eq_true rfl⟩ (fun r51926 u H locs hr51926 hP hD hS => ?_)
    refine lv_if_ne (tgt := 24) hx hb dX11_grow_19 (by decide) (fun c51927 => ?_) (fun c51927 => ?_)
    · refine lv_aload_n hx hb dX11_grow_24 rfl (lv_at hl 1 rfl) ?_
      refine va_get (D := D) (ci := 11) (v := .ref (a 34)) (C := RX11) (T := TX11) (N := 16) hx hb hts hin11 hown hK hP 0 rfl rfl 13 (by decide) (hts (.fieldLink RX11 82 "MissedPoints" "told" "LMissedPoints$Told;") (by decide +kernel)) (fun _ h9 => h9) rfl dX11_grow_25 ?_
      refine wk_qv (wX cI cS a na nc N (mkL l_s l_t l_i l_kp l_iz l_z l_tp l_o0 l_o1 l_o2 l_o3 l_n0 l_n1 l_n2 l_n3)) u (As := []) (rest := []) ⟨hx, hb, hml, hown, hts⟩ (k_X9_turnWay l D cI cS _ a na nc N (mkL l_s l_t l_i l_kp l_iz l_z l_tp l_o0 l_o1 l_o2 l_o3 l_n0 l_n1 l_n2 l_n3) u (show TyX (mkL l_s l_t l_i l_kp l_iz l_z l_tp l_o0 l_o1 l_o2 l_o3 l_n0 l_n1 l_n2 l_n3) from ⟨p_s, p_t, p_i, p_tp, p_n0, p_n1, p_n2, p_n3⟩) hN) hKK hP hD hS hA 34 (ci := 9) rfl rfl (cwV 0 hts gX11_grow_X9_turnWay rfl rfl rfl (by decide +kernel) ⟨Nat.le_of_ble_eq_true rfl, Nat.le_of_ble_eq_true rfl⟩) rfl hl.1 rfl (Nat.le_of_ble_eq_true rfl) dX11_grow_28 ⟨Nat.le_of_ble_eq_true rfl, Nat.le_of_ble_eq_true rfl⟩ (fun u H locs hr51928 hP hD hS => ?_)
      refine lv_aload_n hx hb dX11_grow_31 rfl (lv_at hl 1 rfl) ?_
      refine va_get (D := D) (ci := 11) (v := .ref (a 34)) (C := RX11) (T := TX11) (N := 16) hx hb hts hin11 hown hK hP 0 rfl rfl 13 (by decide) (hts (.fieldLink RX11 82 "MissedPoints" "told" "LMissedPoints$Told;") (by decide +kernel)) (fun _ h9 => h9) rfl dX11_grow_32 ?_
      refine lv_aload_n hx hb dX11_grow_35 rfl (lv_at hl 1 rfl) ?_
      refine va_get (D := D) (ci := 11) (v := .ref (a 25)) (C := RX11) (T := TX11) (N := 16) hx hb hts hin11 hown hK hP 0 rfl rfl 12 (by decide) (hts (.fieldLink RX11 75 "MissedPoints" "sheets" "[LMissedPoints$Sheet;") (by decide +kernel)) (fun _ h9 => h9) rfl dX11_grow_36 ?_
      refine lv_iload_n hx hb dX11_grow_39 rfl (lv_at hl 2 rfl) ?_
      by_cases k51929 : x0 = 0
      · refine va_aldq hx hb hK hP 25 1 rfl rfl (rg_in g51923 (by decide) (by decide)) dX11_grow_40 ?_
        refine lz_va (y := .ref (a 26)) (by rw [k51929]; rfl) ?_
        have sj : l_n0.toInt = l_s.toInt := by have z := zt51924; rw [k51929] at z; exact z
        refine lv_aload_n hx hb dX11_grow_41 rfl (lv_at hl 1 rfl) ?_
        refine va_get (D := D) (ci := 11) (v := .ref (a 25)) (C := RX11) (T := TX11) (N := 16) hx hb hts hin11 hown hK hP 0 rfl rfl 12 (by decide) (hts (.fieldLink RX11 75 "MissedPoints" "sheets" "[LMissedPoints$Sheet;") (by decide +kernel)) (fun _ h9 => h9) rfl dX11_grow_42 ?_
        refine lv_iload_n hx hb dX11_grow_45 rfl (lv_at hl 2 rfl) ?_
        refine va_aldq hx hb hK hP 25 1 rfl rfl (rg_in g51923 (by decide) (by decide)) dX11_grow_46 ?_
        refine lz_va (y := .ref (a 26)) (by rw [k51929]; rfl) ?_
        have sj : l_n0.toInt = l_s.toInt := by have z := zt51924; rw [k51929] at z; exact z
        refine va_getN (D := D) (ci := 6) (v := .int l_o0) (C := RX6) (T := TX6) (N := 3) hx hb hts hin6 hown hK hP 26 rfl rfl 1 (by decide) (va_Nw.use rfl hKK.2.2.2.2.2.2.2.1) (fun _ h9 => h9) rfl dX11_grow_47 ?_
        refine wk_qv (S := Int32 × Int32 × SU) (fun q => wX cI cS a na nc N (mkL l_s l_t l_i l_kp l_iz l_z l_tp q.1 l_o1 l_o2 l_o3 q.2.1 l_n1 l_n2 l_n3) q.2.2) (l_o0, l_n0, u) (As := [.ref (a 26), .int l_o0]) (rest := []) ⟨hx, hb, hml, hown, hts⟩ (k_X9_writeTo_0 l D cI cS _ a na nc N l_s l_t l_i l_kp l_iz l_z l_tp l_o0 l_o1 l_o2 l_o3 l_n0 l_n1 l_n2 l_n3 u (show TyX (mkL l_s l_t l_i l_kp l_iz l_z l_tp l_o0 l_o1 l_o2 l_o3 l_n0 l_n1 l_n2 l_n3) from ⟨p_s, p_t, p_i, p_tp, p_n0, p_n1, p_n2, p_n3⟩) hN l_o0) hKK hP hD hS hA 34 (ci := 9) rfl rfl (cwV 2 hts gX11_grow_X9_writeTo rfl rfl rfl (by decide +kernel) ⟨Nat.le_of_ble_eq_true rfl, Nat.le_of_ble_eq_true rfl⟩) rfl hl.1 rfl (Nat.le_of_ble_eq_true rfl) dX11_grow_50 ⟨Nat.le_of_ble_eq_true rfl, Nat.le_of_ble_eq_true rfl⟩ (fun q9 H locs hr51930 hP hD hS => ?_)
        obtain ⟨r51931, r51932, u⟩ := q9
        have hr51930 : Rg 0 40 r51932 ∧ (r51931.toInt = l_o0.toInt ∧ r51932.toInt = l_s.toInt) := hr51930
        have hP : va_P D cls (wX cI cS a na nc N (mkL l_s l_t l_i l_kp l_iz l_z l_tp r51931 l_o1 l_o2 l_o3 r51932 l_n1 l_n2 l_n3) u) H := hP
        have hD : va_D A (wX cI cS a na nc N (mkL l_s l_t l_i l_kp l_iz l_z l_tp r51931 l_o1 l_o2 l_o3 r51932 l_n1 l_n2 l_n3) u) := hD
        have kr51930_0 := hr51930.2
        refine lv_aload_n hx hb dX11_grow_53 rfl (lv_at hl 1 rfl) ?_
        refine va_get (D := D) (ci := 11) (v := .ref (a 34)) (C := RX11) (T := TX11) (N := 16) hx hb hts hin11 hown hK hP 0 rfl rfl 13 (by decide) (hts (.fieldLink RX11 82 "MissedPoints" "told" "LMissedPoints$Told;") (by decide +kernel)) (fun _ h9 => h9) rfl dX11_grow_54 ?_
        refine wk_sv 34 (As := []) (rest := []) ⟨hx, hb, hml, hown, hts⟩ (k_X9_lineCount l D cI cS a na nc N (mkL l_s l_t l_i l_kp l_iz l_z l_tp r51931 l_o1 l_o2 l_o3 r51932 l_n1 l_n2 l_n3) u (show TyX (mkL l_s l_t l_i l_kp l_iz l_z l_tp r51931 l_o1 l_o2 l_o3 r51932 l_n1 l_n2 l_n3) from ⟨p_s, p_t, p_i, p_tp, hr51930.1, p_n1, p_n2, p_n3⟩) hN) hKK hP (ci := 9) rfl rfl (cwV 0 hts gX11_grow_X9_lineCount rfl rfl rfl (by decide +kernel) ⟨Nat.le_of_ble_eq_true rfl, Nat.le_of_ble_eq_true rfl⟩) rfl hl.1 rfl (Nat.le_of_ble_eq_true rfl) dX11_grow_57 ⟨Nat.le_of_ble_eq_true rfl, Nat.le_of_ble_eq_true rfl⟩ (fun r51933 hr51933 => ?_)
        subst hAe
        exact W.iret (v := r51933) hx hb hr (fun t ht hW => ⟨⟨_, (r51931, l_o1, l_o2, l_o3, r51932, l_n1, l_n2, l_n3, u), rfl, ⟨hr51933.1, hr51930.1, p_n1, p_n2, p_n3, (show r51931.toInt = l_o0.toInt ∧ r51932.toInt = l_n0.toInt from by have y90 : r51921.toInt = (0 : Int32).toInt := congrArg Int32.toInt c51922; have y91 : ¬ r51926.toInt = (0 : Int32).toInt := fun z => c51927 (Int32.toInt_inj.mp z); have y92 : x0.toInt = (0 : Int32).toInt := congrArg Int32.toInt k51929; have y93 : Rg 0 3 x0 := g51923; have y94 : Rg 0 0 r51921 := g51925; have y95 : Rg 0 40 l_n0 := p_n0; have y96 : Rg 0 3 x0 := g51923; have y97 : Rg 0 0 r51921 := g51925; have y98 : Rg (-2147483648) 2147483647 r51933 := hr51933.1; have y99 : Rg 0 12 l_s := p_s; have y910 : Rg 0 12 l_t := p_t; have y911 : Rg 0 12 l_i := p_i; have y912 : Rg 0 120 l_tp := p_tp; have y913 : Rg 0 40 r51932 := hr51930.1; have y914 : Rg 0 40 l_n1 := p_n1; have y915 : Rg 0 40 l_n2 := p_n2; have y916 : Rg 0 40 l_n3 := p_n3; have y917 : Rg (-2147483648) 2147483647 r51933 := hr51933.1; have y9c18 : (0 : Int32).toInt = 0 := (by decide); have y9c19 : (1 : Int32).toInt = 1 := (by decide); omega), (show l_o1.toInt = l_o1.toInt ∧ l_n1.toInt = l_n1.toInt from by have y90 : r51921.toInt = (0 : Int32).toInt := congrArg Int32.toInt c51922; have y91 : ¬ r51926.toInt = (0 : Int32).toInt := fun z => c51927 (Int32.toInt_inj.mp z); have y92 : x0.toInt = (0 : Int32).toInt := congrArg Int32.toInt k51929; have y93 : Rg 0 3 x0 := g51923; have y94 : Rg 0 0 r51921 := g51925; have y95 : Rg 0 40 l_n0 := p_n0; have y96 : Rg 0 3 x0 := g51923; have y97 : Rg 0 0 r51921 := g51925; have y98 : Rg (-2147483648) 2147483647 r51933 := hr51933.1; have y99 : Rg 0 12 l_s := p_s; have y910 : Rg 0 12 l_t := p_t; have y911 : Rg 0 12 l_i := p_i; have y912 : Rg 0 120 l_tp := p_tp; have y913 : Rg 0 40 r51932 := hr51930.1; have y914 : Rg 0 40 l_n1 := p_n1; have y915 : Rg 0 40 l_n2 := p_n2; have y916 : Rg 0 40 l_n3 := p_n3; have y917 : Rg (-2147483648) 2147483647 r51933 := hr51933.1; have y9c18 : (0 : Int32).toInt = 0 := (by decide); have y9c19 : (1 : Int32).toInt = 1 := (by decide); omega), (show l_o2.toInt = l_o2.toInt ∧ l_n2.toInt = l_n2.toInt from by have y90 : r51921.toInt = (0 : Int32).toInt := congrArg Int32.toInt c51922; have y91 : ¬ r51926.toInt = (0 : Int32).toInt := fun z => c51927 (Int32.toInt_inj.mp z); have y92 : x0.toInt = (0 : Int32).toInt := congrArg Int32.toInt k51929; have y93 : Rg 0 3 x0 := g51923; have y94 : Rg 0 0 r51921 := g51925; have y95 : Rg 0 40 l_n0 := p_n0; have y96 : Rg 0 3 x0 := g51923; have y97 : Rg 0 0 r51921 := g51925; have y98 : Rg (-2147483648) 2147483647 r51933 := hr51933.1; have y99 : Rg 0 12 l_s := p_s; have y910 : Rg 0 12 l_t := p_t; have y911 : Rg 0 12 l_i := p_i; have y912 : Rg 0 120 l_tp := p_tp; have y913 : Rg 0 40 r51932 := hr51930.1; have y914 : Rg 0 40 l_n1 := p_n1; have y915 : Rg 0 40 l_n2 := p_n2; have y916 : Rg 0 40 l_n3 := p_n3; have y917 : Rg (-2147483648) 2147483647 r51933 := hr51933.1; have y9c18 : (0 : Int32).toInt = 0 := (by decide); have y9c19 : (1 : Int32).toInt = 1 := (by decide); omega), (show l_o3.toInt = l_o3.toInt ∧ l_n3.toInt = l_n3.toInt from by have y90 : r51921.toInt = (0 : Int32).toInt := congrArg Int32.toInt c51922; have y91 : ¬ r51926.toInt = (0 : Int32).toInt := fun z => c51927 (Int32.toInt_inj.mp z); have y92 : x0.toInt = (0 : Int32).toInt := congrArg Int32.toInt k51929; have y93 : Rg 0 3 x0 := g51923; have y94 : Rg 0 0 r51921 := g51925; have y95 : Rg 0 40 l_n0 := p_n0; have y96 : Rg 0 3 x0 := g51923; have y97 : Rg 0 0 r51921 := g51925; have y98 : Rg (-2147483648) 2147483647 r51933 := hr51933.1; have y99 : Rg 0 12 l_s := p_s; have y910 : Rg 0 12 l_t := p_t; have y911 : Rg 0 12 l_i := p_i; have y912 : Rg 0 120 l_tp := p_tp; have y913 : Rg 0 40 r51932 := hr51930.1; have y914 : Rg 0 40 l_n1 := p_n1; have y915 : Rg 0 40 l_n2 := p_n2; have y916 : Rg 0 40 l_n3 := p_n3; have y917 : Rg (-2147483648) 2147483647 r51933 := hr51933.1; have y9c18 : (0 : Int32).toInt = 0 := (by decide); have y9c19 : (1 : Int32).toInt = 1 := (by decide); omega)⟩, by rw [ht]; exact hP, hD⟩, hS.F ht⟩) hS.2.2 dX11_grow_60
      by_cases k51934 : x0 = 1
      · refine va_aldq hx hb hK hP 25 1 rfl rfl (rg_in g51923 (by decide) (by decide)) dX11_grow_40 ?_
        refine lz_va (y := .ref (a 28)) (by rw [k51934]; rfl) ?_
        have sj : l_n1.toInt = l_s.toInt := by have z := zt51924; rw [k51934] at z; exact z
        refine lv_aload_n hx hb dX11_grow_41 rfl (lv_at hl 1 rfl) ?_
        refine va_get (D := D) (ci := 11) (v := .ref (a 25)) (C := RX11) (T := TX11) (N := 16) hx hb hts hin11 hown hK hP 0 rfl rfl 12 (by decide) (hts (.fieldLink RX11 75 "MissedPoints" "sheets" "[LMissedPoints$Sheet;") (by decide +kernel)) (fun _ h9 => h9) rfl dX11_grow_42 ?_
        refine lv_iload_n hx hb dX11_grow_45 rfl (lv_at hl 2 rfl) ?_
        refine va_aldq hx hb hK hP 25 1 rfl rfl (rg_in g51923 (by decide) (by decide)) dX11_grow_46 ?_
        refine lz_va (y := .ref (a 28)) (by rw [k51934]; rfl) ?_
        have sj : l_n1.toInt = l_s.toInt := by have z := zt51924; rw [k51934] at z; exact z
        refine va_getN (D := D) (ci := 6) (v := .int l_o1) (C := RX6) (T := TX6) (N := 3) hx hb hts hin6 hown hK hP 28 rfl rfl 1 (by decide) (va_Nw.use rfl hKK.2.2.2.2.2.2.2.1) (fun _ h9 => h9) rfl dX11_grow_47 ?_
        refine wk_qv (S := Int32 × Int32 × SU) (fun q => wX cI cS a na nc N (mkL l_s l_t l_i l_kp l_iz l_z l_tp l_o0 q.1 l_o2 l_o3 l_n0 q.2.1 l_n2 l_n3) q.2.2) (l_o1, l_n1, u) (As := [.ref (a 28), .int l_o1]) (rest := []) ⟨hx, hb, hml, hown, hts⟩ (k_X9_writeTo_1 l D cI cS _ a na nc N l_s l_t l_i l_kp l_iz l_z l_tp l_o0 l_o1 l_o2 l_o3 l_n0 l_n1 l_n2 l_n3 u (show TyX (mkL l_s l_t l_i l_kp l_iz l_z l_tp l_o0 l_o1 l_o2 l_o3 l_n0 l_n1 l_n2 l_n3) from ⟨p_s, p_t, p_i, p_tp, p_n0, p_n1, p_n2, p_n3⟩) hN l_o1) hKK hP hD hS hA 34 (ci := 9) rfl rfl (cwV 2 hts gX11_grow_X9_writeTo rfl rfl rfl (by decide +kernel) ⟨Nat.le_of_ble_eq_true rfl, Nat.le_of_ble_eq_true rfl⟩) rfl hl.1 rfl (Nat.le_of_ble_eq_true rfl) dX11_grow_50 ⟨Nat.le_of_ble_eq_true rfl, Nat.le_of_ble_eq_true rfl⟩ (fun q9 H locs hr51935 hP hD hS => ?_)
        obtain ⟨r51936, r51937, u⟩ := q9
        have hr51935 : Rg 0 40 r51937 ∧ (r51936.toInt = l_o1.toInt ∧ r51937.toInt = l_s.toInt) := hr51935
        have hP : va_P D cls (wX cI cS a na nc N (mkL l_s l_t l_i l_kp l_iz l_z l_tp l_o0 r51936 l_o2 l_o3 l_n0 r51937 l_n2 l_n3) u) H := hP
        have hD : va_D A (wX cI cS a na nc N (mkL l_s l_t l_i l_kp l_iz l_z l_tp l_o0 r51936 l_o2 l_o3 l_n0 r51937 l_n2 l_n3) u) := hD
        have kr51935_0 := hr51935.2
        refine lv_aload_n hx hb dX11_grow_53 rfl (lv_at hl 1 rfl) ?_
        refine va_get (D := D) (ci := 11) (v := .ref (a 34)) (C := RX11) (T := TX11) (N := 16) hx hb hts hin11 hown hK hP 0 rfl rfl 13 (by decide) (hts (.fieldLink RX11 82 "MissedPoints" "told" "LMissedPoints$Told;") (by decide +kernel)) (fun _ h9 => h9) rfl dX11_grow_54 ?_
        refine wk_sv 34 (As := []) (rest := []) ⟨hx, hb, hml, hown, hts⟩ (k_X9_lineCount l D cI cS a na nc N (mkL l_s l_t l_i l_kp l_iz l_z l_tp l_o0 r51936 l_o2 l_o3 l_n0 r51937 l_n2 l_n3) u (show TyX (mkL l_s l_t l_i l_kp l_iz l_z l_tp l_o0 r51936 l_o2 l_o3 l_n0 r51937 l_n2 l_n3) from ⟨p_s, p_t, p_i, p_tp, p_n0, hr51935.1, p_n2, p_n3⟩) hN) hKK hP (ci := 9) rfl rfl (cwV 0 hts gX11_grow_X9_lineCount rfl rfl rfl (by decide +kernel) ⟨Nat.le_of_ble_eq_true rfl, Nat.le_of_ble_eq_true rfl⟩) rfl hl.1 rfl (Nat.le_of_ble_eq_true rfl) dX11_grow_57 ⟨Nat.le_of_ble_eq_true rfl, Nat.le_of_ble_eq_true rfl⟩ (fun r51938 hr51938 => ?_)
        subst hAe
        exact W.iret (v := r51938) hx hb hr (fun t ht hW => ⟨⟨_, (l_o0, r51936, l_o2, l_o3, l_n0, r51937, l_n2, l_n3, u), rfl, ⟨hr51938.1, p_n0, hr51935.1, p_n2, p_n3, (show l_o0.toInt = l_o0.toInt ∧ l_n0.toInt = l_n0.toInt from by have y90 : r51921.toInt = (0 : Int32).toInt := congrArg Int32.toInt c51922; have y91 : ¬ r51926.toInt = (0 : Int32).toInt := fun z => c51927 (Int32.toInt_inj.mp z); have y92 : ¬ x0.toInt = (0 : Int32).toInt := fun z => k51929 (Int32.toInt_inj.mp z); have y93 : x0.toInt = (1 : Int32).toInt := congrArg Int32.toInt k51934; have y94 : Rg 0 3 x0 := g51923; have y95 : Rg 0 0 r51921 := g51925; have y96 : Rg 0 40 l_n1 := p_n1; have y97 : Rg 0 3 x0 := g51923; have y98 : Rg 0 0 r51921 := g51925; have y99 : Rg (-2147483648) 2147483647 r51938 := hr51938.1; have y910 : Rg 0 12 l_s := p_s; have y911 : Rg 0 12 l_t := p_t; have y912 : Rg 0 12 l_i := p_i; have y913 : Rg 0 120 l_tp := p_tp; have y914 : Rg 0 40 l_n0 := p_n0; have y915 : Rg 0 40 r51937 := hr51935.1; have y916 : Rg 0 40 l_n2 := p_n2; have y917 : Rg 0 40 l_n3 := p_n3; have y918 : Rg (-2147483648) 2147483647 r51938 := hr51938.1; have y9c19 : (0 : Int32).toInt = 0 := (by decide); have y9c20 : (1 : Int32).toInt = 1 := (by decide); omega), (show r51936.toInt = l_o1.toInt ∧ r51937.toInt = l_n1.toInt from by have y90 : r51921.toInt = (0 : Int32).toInt := congrArg Int32.toInt c51922; have y91 : ¬ r51926.toInt = (0 : Int32).toInt := fun z => c51927 (Int32.toInt_inj.mp z); have y92 : ¬ x0.toInt = (0 : Int32).toInt := fun z => k51929 (Int32.toInt_inj.mp z); have y93 : x0.toInt = (1 : Int32).toInt := congrArg Int32.toInt k51934; have y94 : Rg 0 3 x0 := g51923; have y95 : Rg 0 0 r51921 := g51925; have y96 : Rg 0 40 l_n1 := p_n1; have y97 : Rg 0 3 x0 := g51923; have y98 : Rg 0 0 r51921 := g51925; have y99 : Rg (-2147483648) 2147483647 r51938 := hr51938.1; have y910 : Rg 0 12 l_s := p_s; have y911 : Rg 0 12 l_t := p_t; have y912 : Rg 0 12 l_i := p_i; have y913 : Rg 0 120 l_tp := p_tp; have y914 : Rg 0 40 l_n0 := p_n0; have y915 : Rg 0 40 r51937 := hr51935.1; have y916 : Rg 0 40 l_n2 := p_n2; have y917 : Rg 0 40 l_n3 := p_n3; have y918 : Rg (-2147483648) 2147483647 r51938 := hr51938.1; have y9c19 : (0 : Int32).toInt = 0 := (by decide); have y9c20 : (1 : Int32).toInt = 1 := (by decide); omega), (show l_o2.toInt = l_o2.toInt ∧ l_n2.toInt = l_n2.toInt from by have y90 : r51921.toInt = (0 : Int32).toInt := congrArg Int32.toInt c51922; have y91 : ¬ r51926.toInt = (0 : Int32).toInt := fun z => c51927 (Int32.toInt_inj.mp z); have y92 : ¬ x0.toInt = (0 : Int32).toInt := fun z => k51929 (Int32.toInt_inj.mp z); have y93 : x0.toInt = (1 : Int32).toInt := congrArg Int32.toInt k51934; have y94 : Rg 0 3 x0 := g51923; have y95 : Rg 0 0 r51921 := g51925; have y96 : Rg 0 40 l_n1 := p_n1; have y97 : Rg 0 3 x0 := g51923; have y98 : Rg 0 0 r51921 := g51925; have y99 : Rg (-2147483648) 2147483647 r51938 := hr51938.1; have y910 : Rg 0 12 l_s := p_s; have y911 : Rg 0 12 l_t := p_t; have y912 : Rg 0 12 l_i := p_i; have y913 : Rg 0 120 l_tp := p_tp; have y914 : Rg 0 40 l_n0 := p_n0; have y915 : Rg 0 40 r51937 := hr51935.1; have y916 : Rg 0 40 l_n2 := p_n2; have y917 : Rg 0 40 l_n3 := p_n3; have y918 : Rg (-2147483648) 2147483647 r51938 := hr51938.1; have y9c19 : (0 : Int32).toInt = 0 := (by decide); have y9c20 : (1 : Int32).toInt = 1 := (by decide); omega), (show l_o3.toInt = l_o3.toInt ∧ l_n3.toInt = l_n3.toInt from by have y90 : r51921.toInt = (0 : Int32).toInt := congrArg Int32.toInt c51922; have y91 : ¬ r51926.toInt = (0 : Int32).toInt := fun z => c51927 (Int32.toInt_inj.mp z); have y92 : ¬ x0.toInt = (0 : Int32).toInt := fun z => k51929 (Int32.toInt_inj.mp z); have y93 : x0.toInt = (1 : Int32).toInt := congrArg Int32.toInt k51934; have y94 : Rg 0 3 x0 := g51923; have y95 : Rg 0 0 r51921 := g51925; have y96 : Rg 0 40 l_n1 := p_n1; have y97 : Rg 0 3 x0 := g51923; have y98 : Rg 0 0 r51921 := g51925; have y99 : Rg (-2147483648) 2147483647 r51938 := hr51938.1; have y910 : Rg 0 12 l_s := p_s; have y911 : Rg 0 12 l_t := p_t; have y912 : Rg 0 12 l_i := p_i; have y913 : Rg 0 120 l_tp := p_tp; have y914 : Rg 0 40 l_n0 := p_n0; have y915 : Rg 0 40 r51937 := hr51935.1; have y916 : Rg 0 40 l_n2 := p_n2; have y917 : Rg 0 40 l_n3 := p_n3; have y918 : Rg (-2147483648) 2147483647 r51938 := hr51938.1; have y9c19 : (0 : Int32).toInt = 0 := (by decide); have y9c20 : (1 : Int32).toInt = 1 := (by decide); omega)⟩, by rw [ht]; exact hP, hD⟩, hS.F ht⟩) hS.2.2 dX11_grow_60
      by_cases k51939 : x0 = 2
      · refine va_aldq hx hb hK hP 25 1 rfl rfl (rg_in g51923 (by decide) (by decide)) dX11_grow_40 ?_
        refine lz_va (y := .ref (a 30)) (by rw [k51939]; rfl) ?_
        have sj : l_n2.toInt = l_s.toInt := by have z := zt51924; rw [k51939] at z; exact z
        refine lv_aload_n hx hb dX11_grow_41 rfl (lv_at hl 1 rfl) ?_
        refine va_get (D := D) (ci := 11) (v := .ref (a 25)) (C := RX11) (T := TX11) (N := 16) hx hb hts hin11 hown hK hP 0 rfl rfl 12 (by decide) (hts (.fieldLink RX11 75 "MissedPoints" "sheets" "[LMissedPoints$Sheet;") (by decide +kernel)) (fun _ h9 => h9) rfl dX11_grow_42 ?_
        refine lv_iload_n hx hb dX11_grow_45 rfl (lv_at hl 2 rfl) ?_
        refine va_aldq hx hb hK hP 25 1 rfl rfl (rg_in g51923 (by decide) (by decide)) dX11_grow_46 ?_
        refine lz_va (y := .ref (a 30)) (by rw [k51939]; rfl) ?_
        have sj : l_n2.toInt = l_s.toInt := by have z := zt51924; rw [k51939] at z; exact z
        refine va_getN (D := D) (ci := 6) (v := .int l_o2) (C := RX6) (T := TX6) (N := 3) hx hb hts hin6 hown hK hP 30 rfl rfl 1 (by decide) (va_Nw.use rfl hKK.2.2.2.2.2.2.2.1) (fun _ h9 => h9) rfl dX11_grow_47 ?_
        refine wk_qv (S := Int32 × Int32 × SU) (fun q => wX cI cS a na nc N (mkL l_s l_t l_i l_kp l_iz l_z l_tp l_o0 l_o1 q.1 l_o3 l_n0 l_n1 q.2.1 l_n3) q.2.2) (l_o2, l_n2, u) (As := [.ref (a 30), .int l_o2]) (rest := []) ⟨hx, hb, hml, hown, hts⟩ (k_X9_writeTo_2 l D cI cS _ a na nc N l_s l_t l_i l_kp l_iz l_z l_tp l_o0 l_o1 l_o2 l_o3 l_n0 l_n1 l_n2 l_n3 u (show TyX (mkL l_s l_t l_i l_kp l_iz l_z l_tp l_o0 l_o1 l_o2 l_o3 l_n0 l_n1 l_n2 l_n3) from ⟨p_s, p_t, p_i, p_tp, p_n0, p_n1, p_n2, p_n3⟩) hN l_o2) hKK hP hD hS hA 34 (ci := 9) rfl rfl (cwV 2 hts gX11_grow_X9_writeTo rfl rfl rfl (by decide +kernel) ⟨Nat.le_of_ble_eq_true rfl, Nat.le_of_ble_eq_true rfl⟩) rfl hl.1 rfl (Nat.le_of_ble_eq_true rfl) dX11_grow_50 ⟨Nat.le_of_ble_eq_true rfl, Nat.le_of_ble_eq_true rfl⟩ (fun q9 H locs hr51940 hP hD hS => ?_)
        obtain ⟨r51941, r51942, u⟩ := q9
        have hr51940 : Rg 0 40 r51942 ∧ (r51941.toInt = l_o2.toInt ∧ r51942.toInt = l_s.toInt) := hr51940
        have hP : va_P D cls (wX cI cS a na nc N (mkL l_s l_t l_i l_kp l_iz l_z l_tp l_o0 l_o1 r51941 l_o3 l_n0 l_n1 r51942 l_n3) u) H := hP
        have hD : va_D A (wX cI cS a na nc N (mkL l_s l_t l_i l_kp l_iz l_z l_tp l_o0 l_o1 r51941 l_o3 l_n0 l_n1 r51942 l_n3) u) := hD
        have kr51940_0 := hr51940.2
        refine lv_aload_n hx hb dX11_grow_53 rfl (lv_at hl 1 rfl) ?_
        refine va_get (D := D) (ci := 11) (v := .ref (a 34)) (C := RX11) (T := TX11) (N := 16) hx hb hts hin11 hown hK hP 0 rfl rfl 13 (by decide) (hts (.fieldLink RX11 82 "MissedPoints" "told" "LMissedPoints$Told;") (by decide +kernel)) (fun _ h9 => h9) rfl dX11_grow_54 ?_
        refine wk_sv 34 (As := []) (rest := []) ⟨hx, hb, hml, hown, hts⟩ (k_X9_lineCount l D cI cS a na nc N (mkL l_s l_t l_i l_kp l_iz l_z l_tp l_o0 l_o1 r51941 l_o3 l_n0 l_n1 r51942 l_n3) u (show TyX (mkL l_s l_t l_i l_kp l_iz l_z l_tp l_o0 l_o1 r51941 l_o3 l_n0 l_n1 r51942 l_n3) from ⟨p_s, p_t, p_i, p_tp, p_n0, p_n1, hr51940.1, p_n3⟩) hN) hKK hP (ci := 9) rfl rfl (cwV 0 hts gX11_grow_X9_lineCount rfl rfl rfl (by decide +kernel) ⟨Nat.le_of_ble_eq_true rfl, Nat.le_of_ble_eq_true rfl⟩) rfl hl.1 rfl (Nat.le_of_ble_eq_true rfl) dX11_grow_57 ⟨Nat.le_of_ble_eq_true rfl, Nat.le_of_ble_eq_true rfl⟩ (fun r51943 hr51943 => ?_)
        subst hAe
        exact W.iret (v := r51943) hx hb hr (fun t ht hW => ⟨⟨_, (l_o0, l_o1, r51941, l_o3, l_n0, l_n1, r51942, l_n3, u), rfl, ⟨hr51943.1, p_n0, p_n1, hr51940.1, p_n3, (show l_o0.toInt = l_o0.toInt ∧ l_n0.toInt = l_n0.toInt from by have y90 : r51921.toInt = (0 : Int32).toInt := congrArg Int32.toInt c51922; have y91 : ¬ r51926.toInt = (0 : Int32).toInt := fun z => c51927 (Int32.toInt_inj.mp z); have y92 : ¬ x0.toInt = (0 : Int32).toInt := fun z => k51929 (Int32.toInt_inj.mp z); have y93 : ¬ x0.toInt = (1 : Int32).toInt := fun z => k51934 (Int32.toInt_inj.mp z); have y94 : x0.toInt = (2 : Int32).toInt := congrArg Int32.toInt k51939; have y95 : Rg 0 3 x0 := g51923; have y96 : Rg 0 0 r51921 := g51925; have y97 : Rg 0 40 l_n2 := p_n2; have y98 : Rg 0 3 x0 := g51923; have y99 : Rg 0 0 r51921 := g51925; have y910 : Rg (-2147483648) 2147483647 r51943 := hr51943.1; have y911 : Rg 0 12 l_s := p_s; have y912 : Rg 0 12 l_t := p_t; have y913 : Rg 0 12 l_i := p_i; have y914 : Rg 0 120 l_tp := p_tp; have y915 : Rg 0 40 l_n0 := p_n0; have y916 : Rg 0 40 l_n1 := p_n1; have y917 : Rg 0 40 r51942 := hr51940.1; have y918 : Rg 0 40 l_n3 := p_n3; have y919 : Rg (-2147483648) 2147483647 r51943 := hr51943.1; have y9c20 : (0 : Int32).toInt = 0 := (by decide); have y9c21 : (1 : Int32).toInt = 1 := (by decide); have y9c22 : (2 : Int32).toInt = 2 := (by decide); omega), (show l_o1.toInt = l_o1.toInt ∧ l_n1.toInt = l_n1.toInt from by have y90 : r51921.toInt = (0 : Int32).toInt := congrArg Int32.toInt c51922; have y91 : ¬ r51926.toInt = (0 : Int32).toInt := fun z => c51927 (Int32.toInt_inj.mp z); have y92 : ¬ x0.toInt = (0 : Int32).toInt := fun z => k51929 (Int32.toInt_inj.mp z); have y93 : ¬ x0.toInt = (1 : Int32).toInt := fun z => k51934 (Int32.toInt_inj.mp z); have y94 : x0.toInt = (2 : Int32).toInt := congrArg Int32.toInt k51939; have y95 : Rg 0 3 x0 := g51923; have y96 : Rg 0 0 r51921 := g51925; have y97 : Rg 0 40 l_n2 := p_n2; have y98 : Rg 0 3 x0 := g51923; have y99 : Rg 0 0 r51921 := g51925; have y910 : Rg (-2147483648) 2147483647 r51943 := hr51943.1; have y911 : Rg 0 12 l_s := p_s; have y912 : Rg 0 12 l_t := p_t; have y913 : Rg 0 12 l_i := p_i; have y914 : Rg 0 120 l_tp := p_tp; have y915 : Rg 0 40 l_n0 := p_n0; have y916 : Rg 0 40 l_n1 := p_n1; have y917 : Rg 0 40 r51942 := hr51940.1; have y918 : Rg 0 40 l_n3 := p_n3; have y919 : Rg (-2147483648) 2147483647 r51943 := hr51943.1; have y9c20 : (0 : Int32).toInt = 0 := (by decide); have y9c21 : (1 : Int32).toInt = 1 := (by decide); have y9c22 : (2 : Int32).toInt = 2 := (by decide); omega), (show r51941.toInt = l_o2.toInt ∧ r51942.toInt = l_n2.toInt from by have y90 : r51921.toInt = (0 : Int32).toInt := congrArg Int32.toInt c51922; have y91 : ¬ r51926.toInt = (0 : Int32).toInt := fun z => c51927 (Int32.toInt_inj.mp z); have y92 : ¬ x0.toInt = (0 : Int32).toInt := fun z => k51929 (Int32.toInt_inj.mp z); have y93 : ¬ x0.toInt = (1 : Int32).toInt := fun z => k51934 (Int32.toInt_inj.mp z); have y94 : x0.toInt = (2 : Int32).toInt := congrArg Int32.toInt k51939; have y95 : Rg 0 3 x0 := g51923; have y96 : Rg 0 0 r51921 := g51925; have y97 : Rg 0 40 l_n2 := p_n2; have y98 : Rg 0 3 x0 := g51923; have y99 : Rg 0 0 r51921 := g51925; have y910 : Rg (-2147483648) 2147483647 r51943 := hr51943.1; have y911 : Rg 0 12 l_s := p_s; have y912 : Rg 0 12 l_t := p_t; have y913 : Rg 0 12 l_i := p_i; have y914 : Rg 0 120 l_tp := p_tp; have y915 : Rg 0 40 l_n0 := p_n0; have y916 : Rg 0 40 l_n1 := p_n1; have y917 : Rg 0 40 r51942 := hr51940.1; have y918 : Rg 0 40 l_n3 := p_n3; have y919 : Rg (-2147483648) 2147483647 r51943 := hr51943.1; have y9c20 : (0 : Int32).toInt = 0 := (by decide); have y9c21 : (1 : Int32).toInt = 1 := (by decide); have y9c22 : (2 : Int32).toInt = 2 := (by decide); omega), (show l_o3.toInt = l_o3.toInt ∧ l_n3.toInt = l_n3.toInt from by have y90 : r51921.toInt = (0 : Int32).toInt := congrArg Int32.toInt c51922; have y91 : ¬ r51926.toInt = (0 : Int32).toInt := fun z => c51927 (Int32.toInt_inj.mp z); have y92 : ¬ x0.toInt = (0 : Int32).toInt := fun z => k51929 (Int32.toInt_inj.mp z); have y93 : ¬ x0.toInt = (1 : Int32).toInt := fun z => k51934 (Int32.toInt_inj.mp z); have y94 : x0.toInt = (2 : Int32).toInt := congrArg Int32.toInt k51939; have y95 : Rg 0 3 x0 := g51923; have y96 : Rg 0 0 r51921 := g51925; have y97 : Rg 0 40 l_n2 := p_n2; have y98 : Rg 0 3 x0 := g51923; have y99 : Rg 0 0 r51921 := g51925; have y910 : Rg (-2147483648) 2147483647 r51943 := hr51943.1; have y911 : Rg 0 12 l_s := p_s; have y912 : Rg 0 12 l_t := p_t; have y913 : Rg 0 12 l_i := p_i; have y914 : Rg 0 120 l_tp := p_tp; have y915 : Rg 0 40 l_n0 := p_n0; have y916 : Rg 0 40 l_n1 := p_n1; have y917 : Rg 0 40 r51942 := hr51940.1; have y918 : Rg 0 40 l_n3 := p_n3; have y919 : Rg (-2147483648) 2147483647 r51943 := hr51943.1; have y9c20 : (0 : Int32).toInt = 0 := (by decide); have y9c21 : (1 : Int32).toInt = 1 := (by decide); have y9c22 : (2 : Int32).toInt = 2 := (by decide); omega)⟩, by rw [ht]; exact hP, hD⟩, hS.F ht⟩) hS.2.2 dX11_grow_60
      by_cases k51944 : x0 = 3
      · refine va_aldq hx hb hK hP 25 1 rfl rfl (rg_in g51923 (by decide) (by decide)) dX11_grow_40 ?_
        refine lz_va (y := .ref (a 32)) (by rw [k51944]; rfl) ?_
        have sj : l_n3.toInt = l_s.toInt := by have z := zt51924; rw [k51944] at z; exact z
        refine lv_aload_n hx hb dX11_grow_41 rfl (lv_at hl 1 rfl) ?_
        refine va_get (D := D) (ci := 11) (v := .ref (a 25)) (C := RX11) (T := TX11) (N := 16) hx hb hts hin11 hown hK hP 0 rfl rfl 12 (by decide) (hts (.fieldLink RX11 75 "MissedPoints" "sheets" "[LMissedPoints$Sheet;") (by decide +kernel)) (fun _ h9 => h9) rfl dX11_grow_42 ?_
        refine lv_iload_n hx hb dX11_grow_45 rfl (lv_at hl 2 rfl) ?_
        refine va_aldq hx hb hK hP 25 1 rfl rfl (rg_in g51923 (by decide) (by decide)) dX11_grow_46 ?_
        refine lz_va (y := .ref (a 32)) (by rw [k51944]; rfl) ?_
        have sj : l_n3.toInt = l_s.toInt := by have z := zt51924; rw [k51944] at z; exact z
        refine va_getN (D := D) (ci := 6) (v := .int l_o3) (C := RX6) (T := TX6) (N := 3) hx hb hts hin6 hown hK hP 32 rfl rfl 1 (by decide) (va_Nw.use rfl hKK.2.2.2.2.2.2.2.1) (fun _ h9 => h9) rfl dX11_grow_47 ?_
        refine wk_qv (S := Int32 × Int32 × SU) (fun q => wX cI cS a na nc N (mkL l_s l_t l_i l_kp l_iz l_z l_tp l_o0 l_o1 l_o2 q.1 l_n0 l_n1 l_n2 q.2.1) q.2.2) (l_o3, l_n3, u) (As := [.ref (a 32), .int l_o3]) (rest := []) ⟨hx, hb, hml, hown, hts⟩ (k_X9_writeTo_3 l D cI cS _ a na nc N l_s l_t l_i l_kp l_iz l_z l_tp l_o0 l_o1 l_o2 l_o3 l_n0 l_n1 l_n2 l_n3 u (show TyX (mkL l_s l_t l_i l_kp l_iz l_z l_tp l_o0 l_o1 l_o2 l_o3 l_n0 l_n1 l_n2 l_n3) from ⟨p_s, p_t, p_i, p_tp, p_n0, p_n1, p_n2, p_n3⟩) hN l_o3) hKK hP hD hS hA 34 (ci := 9) rfl rfl (cwV 2 hts gX11_grow_X9_writeTo rfl rfl rfl (by decide +kernel) ⟨Nat.le_of_ble_eq_true rfl, Nat.le_of_ble_eq_true rfl⟩) rfl hl.1 rfl (Nat.le_of_ble_eq_true rfl) dX11_grow_50 ⟨Nat.le_of_ble_eq_true rfl, Nat.le_of_ble_eq_true rfl⟩ (fun q9 H locs hr51945 hP hD hS => ?_)
        obtain ⟨r51946, r51947, u⟩ := q9
        have hr51945 : Rg 0 40 r51947 ∧ (r51946.toInt = l_o3.toInt ∧ r51947.toInt = l_s.toInt) := hr51945
        have hP : va_P D cls (wX cI cS a na nc N (mkL l_s l_t l_i l_kp l_iz l_z l_tp l_o0 l_o1 l_o2 r51946 l_n0 l_n1 l_n2 r51947) u) H := hP
        have hD : va_D A (wX cI cS a na nc N (mkL l_s l_t l_i l_kp l_iz l_z l_tp l_o0 l_o1 l_o2 r51946 l_n0 l_n1 l_n2 r51947) u) := hD
        have kr51945_0 := hr51945.2
        refine lv_aload_n hx hb dX11_grow_53 rfl (lv_at hl 1 rfl) ?_
        refine va_get (D := D) (ci := 11) (v := .ref (a 34)) (C := RX11) (T := TX11) (N := 16) hx hb hts hin11 hown hK hP 0 rfl rfl 13 (by decide) (hts (.fieldLink RX11 82 "MissedPoints" "told" "LMissedPoints$Told;") (by decide +kernel)) (fun _ h9 => h9) rfl dX11_grow_54 ?_
        refine wk_sv 34 (As := []) (rest := []) ⟨hx, hb, hml, hown, hts⟩ (k_X9_lineCount l D cI cS a na nc N (mkL l_s l_t l_i l_kp l_iz l_z l_tp l_o0 l_o1 l_o2 r51946 l_n0 l_n1 l_n2 r51947) u (show TyX (mkL l_s l_t l_i l_kp l_iz l_z l_tp l_o0 l_o1 l_o2 r51946 l_n0 l_n1 l_n2 r51947) from ⟨p_s, p_t, p_i, p_tp, p_n0, p_n1, p_n2, hr51945.1⟩) hN) hKK hP (ci := 9) rfl rfl (cwV 0 hts gX11_grow_X9_lineCount rfl rfl rfl (by decide +kernel) ⟨Nat.le_of_ble_eq_true rfl, Nat.le_of_ble_eq_true rfl⟩) rfl hl.1 rfl (Nat.le_of_ble_eq_true rfl) dX11_grow_57 ⟨Nat.le_of_ble_eq_true rfl, Nat.le_of_ble_eq_true rfl⟩ (fun r51948 hr51948 => ?_)
        subst hAe
        exact W.iret (v := r51948) hx hb hr (fun t ht hW => ⟨⟨_, (l_o0, l_o1, l_o2, r51946, l_n0, l_n1, l_n2, r51947, u), rfl, ⟨hr51948.1, p_n0, p_n1, p_n2, hr51945.1, (show l_o0.toInt = l_o0.toInt ∧ l_n0.toInt = l_n0.toInt from by have y90 : r51921.toInt = (0 : Int32).toInt := congrArg Int32.toInt c51922; have y91 : ¬ r51926.toInt = (0 : Int32).toInt := fun z => c51927 (Int32.toInt_inj.mp z); have y92 : ¬ x0.toInt = (0 : Int32).toInt := fun z => k51929 (Int32.toInt_inj.mp z); have y93 : ¬ x0.toInt = (1 : Int32).toInt := fun z => k51934 (Int32.toInt_inj.mp z); have y94 : ¬ x0.toInt = (2 : Int32).toInt := fun z => k51939 (Int32.toInt_inj.mp z); have y95 : x0.toInt = (3 : Int32).toInt := congrArg Int32.toInt k51944; have y96 : Rg 0 3 x0 := g51923; have y97 : Rg 0 0 r51921 := g51925; have y98 : Rg 0 40 l_n3 := p_n3; have y99 : Rg 0 3 x0 := g51923; have y910 : Rg 0 0 r51921 := g51925; have y911 : Rg (-2147483648) 2147483647 r51948 := hr51948.1; have y912 : Rg 0 12 l_s := p_s; have y913 : Rg 0 12 l_t := p_t; have y914 : Rg 0 12 l_i := p_i; have y915 : Rg 0 120 l_tp := p_tp; have y916 : Rg 0 40 l_n0 := p_n0; have y917 : Rg 0 40 l_n1 := p_n1; have y918 : Rg 0 40 l_n2 := p_n2; have y919 : Rg 0 40 r51947 := hr51945.1; have y920 : Rg (-2147483648) 2147483647 r51948 := hr51948.1; have y9c21 : (0 : Int32).toInt = 0 := (by decide); have y9c22 : (1 : Int32).toInt = 1 := (by decide); have y9c23 : (2 : Int32).toInt = 2 := (by decide); have y9c24 : (3 : Int32).toInt = 3 := (by decide); omega), (show l_o1.toInt = l_o1.toInt ∧ l_n1.toInt = l_n1.toInt from by have y90 : r51921.toInt = (0 : Int32).toInt := congrArg Int32.toInt c51922; have y91 : ¬ r51926.toInt = (0 : Int32).toInt := fun z => c51927 (Int32.toInt_inj.mp z); have y92 : ¬ x0.toInt = (0 : Int32).toInt := fun z => k51929 (Int32.toInt_inj.mp z); have y93 : ¬ x0.toInt = (1 : Int32).toInt := fun z => k51934 (Int32.toInt_inj.mp z); have y94 : ¬ x0.toInt = (2 : Int32).toInt := fun z => k51939 (Int32.toInt_inj.mp z); have y95 : x0.toInt = (3 : Int32).toInt := congrArg Int32.toInt k51944; have y96 : Rg 0 3 x0 := g51923; have y97 : Rg 0 0 r51921 := g51925; have y98 : Rg 0 40 l_n3 := p_n3; have y99 : Rg 0 3 x0 := g51923; have y910 : Rg 0 0 r51921 := g51925; have y911 : Rg (-2147483648) 2147483647 r51948 := hr51948.1; have y912 : Rg 0 12 l_s := p_s; have y913 : Rg 0 12 l_t := p_t; have y914 : Rg 0 12 l_i := p_i; have y915 : Rg 0 120 l_tp := p_tp; have y916 : Rg 0 40 l_n0 := p_n0; have y917 : Rg 0 40 l_n1 := p_n1; have y918 : Rg 0 40 l_n2 := p_n2; have y919 : Rg 0 40 r51947 := hr51945.1; have y920 : Rg (-2147483648) 2147483647 r51948 := hr51948.1; have y9c21 : (0 : Int32).toInt = 0 := (by decide); have y9c22 : (1 : Int32).toInt = 1 := (by decide); have y9c23 : (2 : Int32).toInt = 2 := (by decide); have y9c24 : (3 : Int32).toInt = 3 := (by decide); omega), (show l_o2.toInt = l_o2.toInt ∧ l_n2.toInt = l_n2.toInt from by have y90 : r51921.toInt = (0 : Int32).toInt := congrArg Int32.toInt c51922; have y91 : ¬ r51926.toInt = (0 : Int32).toInt := fun z => c51927 (Int32.toInt_inj.mp z); have y92 : ¬ x0.toInt = (0 : Int32).toInt := fun z => k51929 (Int32.toInt_inj.mp z); have y93 : ¬ x0.toInt = (1 : Int32).toInt := fun z => k51934 (Int32.toInt_inj.mp z); have y94 : ¬ x0.toInt = (2 : Int32).toInt := fun z => k51939 (Int32.toInt_inj.mp z); have y95 : x0.toInt = (3 : Int32).toInt := congrArg Int32.toInt k51944; have y96 : Rg 0 3 x0 := g51923; have y97 : Rg 0 0 r51921 := g51925; have y98 : Rg 0 40 l_n3 := p_n3; have y99 : Rg 0 3 x0 := g51923; have y910 : Rg 0 0 r51921 := g51925; have y911 : Rg (-2147483648) 2147483647 r51948 := hr51948.1; have y912 : Rg 0 12 l_s := p_s; have y913 : Rg 0 12 l_t := p_t; have y914 : Rg 0 12 l_i := p_i; have y915 : Rg 0 120 l_tp := p_tp; have y916 : Rg 0 40 l_n0 := p_n0; have y917 : Rg 0 40 l_n1 := p_n1; have y918 : Rg 0 40 l_n2 := p_n2; have y919 : Rg 0 40 r51947 := hr51945.1; have y920 : Rg (-2147483648) 2147483647 r51948 := hr51948.1; have y9c21 : (0 : Int32).toInt = 0 := (by decide); have y9c22 : (1 : Int32).toInt = 1 := (by decide); have y9c23 : (2 : Int32).toInt = 2 := (by decide); have y9c24 : (3 : Int32).toInt = 3 := (by decide); omega), (show r51946.toInt = l_o3.toInt ∧ r51947.toInt = l_n3.toInt from by have y90 : r51921.toInt = (0 : Int32).toInt := congrArg Int32.toInt c51922; have y91 : ¬ r51926.toInt = (0 : Int32).toInt := fun z => c51927 (Int32.toInt_inj.mp z); have y92 : ¬ x0.toInt = (0 : Int32).toInt := fun z => k51929 (Int32.toInt_inj.mp z); have y93 : ¬ x0.toInt = (1 : Int32).toInt := fun z => k51934 (Int32.toInt_inj.mp z); have y94 : ¬ x0.toInt = (2 : Int32).toInt := fun z => k51939 (Int32.toInt_inj.mp z); have y95 : x0.toInt = (3 : Int32).toInt := congrArg Int32.toInt k51944; have y96 : Rg 0 3 x0 := g51923; have y97 : Rg 0 0 r51921 := g51925; have y98 : Rg 0 40 l_n3 := p_n3; have y99 : Rg 0 3 x0 := g51923; have y910 : Rg 0 0 r51921 := g51925; have y911 : Rg (-2147483648) 2147483647 r51948 := hr51948.1; have y912 : Rg 0 12 l_s := p_s; have y913 : Rg 0 12 l_t := p_t; have y914 : Rg 0 12 l_i := p_i; have y915 : Rg 0 120 l_tp := p_tp; have y916 : Rg 0 40 l_n0 := p_n0; have y917 : Rg 0 40 l_n1 := p_n1; have y918 : Rg 0 40 l_n2 := p_n2; have y919 : Rg 0 40 r51947 := hr51945.1; have y920 : Rg (-2147483648) 2147483647 r51948 := hr51948.1; have y9c21 : (0 : Int32).toInt = 0 := (by decide); have y9c22 : (1 : Int32).toInt = 1 := (by decide); have y9c23 : (2 : Int32).toInt = 2 := (by decide); have y9c24 : (3 : Int32).toInt = 3 := (by decide); omega)⟩, by rw [ht]; exact hP, hD⟩, hS.F ht⟩) hS.2.2 dX11_grow_60
      exact False.elim (by have y90 : r51921.toInt = (0 : Int32).toInt := congrArg Int32.toInt c51922; have y91 : ¬ r51926.toInt = (0 : Int32).toInt := fun z => c51927 (Int32.toInt_inj.mp z); have y92 : ¬ x0.toInt = (0 : Int32).toInt := fun z => k51929 (Int32.toInt_inj.mp z); have y93 : ¬ x0.toInt = (1 : Int32).toInt := fun z => k51934 (Int32.toInt_inj.mp z); have y94 : ¬ x0.toInt = (2 : Int32).toInt := fun z => k51939 (Int32.toInt_inj.mp z); have y95 : ¬ x0.toInt = (3 : Int32).toInt := fun z => k51944 (Int32.toInt_inj.mp z); have y96 : Rg 0 3 x0 := g51923; have y97 : Rg 0 0 r51921 := g51925; have y98 : Rg 0 3 x0 := g51923; have y99 : Rg 0 0 r51921 := g51925; have y910 : Rg 0 12 l_s := p_s; have y911 : Rg 0 12 l_t := p_t; have y912 : Rg 0 12 l_i := p_i; have y913 : Rg 0 120 l_tp := p_tp; have y914 : Rg 0 40 l_n0 := p_n0; have y915 : Rg 0 40 l_n1 := p_n1; have y916 : Rg 0 40 l_n2 := p_n2; have y917 : Rg 0 40 l_n3 := p_n3; have y9c18 : (0 : Int32).toInt = 0 := (by decide); have y9c19 : (1 : Int32).toInt = 1 := (by decide); have y9c20 : (2 : Int32).toInt = 2 := (by decide); have y9c21 : (3 : Int32).toInt = 3 := (by decide); have z9 := g51923; omega)
    · have g51949 : Rg 0 0 r51926 := wk_eql hr51926.1 (by decide : Rg 0 0 (0 : Int32)) c51927 (by decide)
      refine lv_iconst (v := (-1)) hx hb dX11_grow_22 (by decide) ?_
      subst hAe
      exact W.iret (v := (-1)) hx hb hr (fun t ht hW => ⟨⟨_, (l_o0, l_o1, l_o2, l_o3, l_n0, l_n1, l_n2, l_n3, u), rfl, ⟨(by decide : Rg (-2147483648) 2147483647 ((-1) : Int32)), p_n0, p_n1, p_n2, p_n3, (show l_o0.toInt = l_o0.toInt ∧ l_n0.toInt = l_n0.toInt from by have y90 : r51921.toInt = (0 : Int32).toInt := congrArg Int32.toInt c51922; have y91 : r51926.toInt = (0 : Int32).toInt := congrArg Int32.toInt c51927; have y92 : Rg 0 3 x0 := g51923; have y93 : Rg 0 0 r51921 := g51925; have y94 : Rg 0 0 r51926 := g51949; have y95 : Rg 0 3 x0 := g51923; have y96 : Rg 0 0 r51921 := g51925; have y97 : Rg 0 12 l_s := p_s; have y98 : Rg 0 12 l_t := p_t; have y99 : Rg 0 12 l_i := p_i; have y910 : Rg 0 120 l_tp := p_tp; have y911 : Rg 0 40 l_n0 := p_n0; have y912 : Rg 0 40 l_n1 := p_n1; have y913 : Rg 0 40 l_n2 := p_n2; have y914 : Rg 0 40 l_n3 := p_n3; have y9c15 : ((-1) : Int32).toInt = -1 := (by decide); have y9c16 : (0 : Int32).toInt = 0 := (by decide); have y9c17 : (1 : Int32).toInt = 1 := (by decide); omega), (show l_o1.toInt = l_o1.toInt ∧ l_n1.toInt = l_n1.toInt from by have y90 : r51921.toInt = (0 : Int32).toInt := congrArg Int32.toInt c51922; have y91 : r51926.toInt = (0 : Int32).toInt := congrArg Int32.toInt c51927; have y92 : Rg 0 3 x0 := g51923; have y93 : Rg 0 0 r51921 := g51925; have y94 : Rg 0 0 r51926 := g51949; have y95 : Rg 0 3 x0 := g51923; have y96 : Rg 0 0 r51921 := g51925; have y97 : Rg 0 12 l_s := p_s; have y98 : Rg 0 12 l_t := p_t; have y99 : Rg 0 12 l_i := p_i; have y910 : Rg 0 120 l_tp := p_tp; have y911 : Rg 0 40 l_n0 := p_n0; have y912 : Rg 0 40 l_n1 := p_n1; have y913 : Rg 0 40 l_n2 := p_n2; have y914 : Rg 0 40 l_n3 := p_n3; have y9c15 : ((-1) : Int32).toInt = -1 := (by decide); have y9c16 : (0 : Int32).toInt = 0 := (by decide); have y9c17 : (1 : Int32).toInt = 1 := (by decide); omega), (show l_o2.toInt = l_o2.toInt ∧ l_n2.toInt = l_n2.toInt from by have y90 : r51921.toInt = (0 : Int32).toInt := congrArg Int32.toInt c51922; have y91 : r51926.toInt = (0 : Int32).toInt := congrArg Int32.toInt c51927; have y92 : Rg 0 3 x0 := g51923; have y93 : Rg 0 0 r51921 := g51925; have y94 : Rg 0 0 r51926 := g51949; have y95 : Rg 0 3 x0 := g51923; have y96 : Rg 0 0 r51921 := g51925; have y97 : Rg 0 12 l_s := p_s; have y98 : Rg 0 12 l_t := p_t; have y99 : Rg 0 12 l_i := p_i; have y910 : Rg 0 120 l_tp := p_tp; have y911 : Rg 0 40 l_n0 := p_n0; have y912 : Rg 0 40 l_n1 := p_n1; have y913 : Rg 0 40 l_n2 := p_n2; have y914 : Rg 0 40 l_n3 := p_n3; have y9c15 : ((-1) : Int32).toInt = -1 := (by decide); have y9c16 : (0 : Int32).toInt = 0 := (by decide); have y9c17 : (1 : Int32).toInt = 1 := (by decide); omega), (show l_o3.toInt = l_o3.toInt ∧ l_n3.toInt = l_n3.toInt from by have y90 : r51921.toInt = (0 : Int32).toInt := congrArg Int32.toInt c51922; have y91 : r51926.toInt = (0 : Int32).toInt := congrArg Int32.toInt c51927; have y92 : Rg 0 3 x0 := g51923; have y93 : Rg 0 0 r51921 := g51925; have y94 : Rg 0 0 r51926 := g51949; have y95 : Rg 0 3 x0 := g51923; have y96 : Rg 0 0 r51921 := g51925; have y97 : Rg 0 12 l_s := p_s; have y98 : Rg 0 12 l_t := p_t; have y99 : Rg 0 12 l_i := p_i; have y910 : Rg 0 120 l_tp := p_tp; have y911 : Rg 0 40 l_n0 := p_n0; have y912 : Rg 0 40 l_n1 := p_n1; have y913 : Rg 0 40 l_n2 := p_n2; have y914 : Rg 0 40 l_n3 := p_n3; have y9c15 : ((-1) : Int32).toInt = -1 := (by decide); have y9c16 : (0 : Int32).toInt = 0 := (by decide); have y9c17 : (1 : Int32).toInt = 1 := (by decide); omega)⟩, by rw [ht]; exact hP, hD⟩, hS.F ht⟩) hS.2.2 dX11_grow_23
  · have g51950 : Rg (-11) (-1) r51921 := rg_ne_hi (k := 0) hr51921.1 (by decide) c51922 (by decide)
    refine lv_iload_n hx hb dX11_grow_10 rfl (lv_at hl 0 rfl) ?_
    subst hAe
    exact W.iret (v := r51921) hx hb hr (fun t ht hW => ⟨⟨_, (l_o0, l_o1, l_o2, l_o3, l_n0, l_n1, l_n2, l_n3, u), rfl, ⟨(rg_any r51921), p_n0, p_n1, p_n2, p_n3, (show l_o0.toInt = l_o0.toInt ∧ l_n0.toInt = l_n0.toInt from by have y90 : ¬ r51921.toInt = (0 : Int32).toInt := fun z => c51922 (Int32.toInt_inj.mp z); have y91 : Rg (-11) (-1) r51921 := g51950; have y92 : Rg (-11) (-1) r51921 := g51950; have y93 : Rg (-11) (-1) r51921 := g51950; have y94 : Rg 0 12 l_s := p_s; have y95 : Rg 0 12 l_t := p_t; have y96 : Rg 0 12 l_i := p_i; have y97 : Rg 0 120 l_tp := p_tp; have y98 : Rg 0 40 l_n0 := p_n0; have y99 : Rg 0 40 l_n1 := p_n1; have y910 : Rg 0 40 l_n2 := p_n2; have y911 : Rg 0 40 l_n3 := p_n3; have y912 : Rg (-11) (-1) r51921 := g51950; have y9c13 : (0 : Int32).toInt = 0 := (by decide); have y9c14 : (1 : Int32).toInt = 1 := (by decide); omega), (show l_o1.toInt = l_o1.toInt ∧ l_n1.toInt = l_n1.toInt from by have y90 : ¬ r51921.toInt = (0 : Int32).toInt := fun z => c51922 (Int32.toInt_inj.mp z); have y91 : Rg (-11) (-1) r51921 := g51950; have y92 : Rg (-11) (-1) r51921 := g51950; have y93 : Rg (-11) (-1) r51921 := g51950; have y94 : Rg 0 12 l_s := p_s; have y95 : Rg 0 12 l_t := p_t; have y96 : Rg 0 12 l_i := p_i; have y97 : Rg 0 120 l_tp := p_tp; have y98 : Rg 0 40 l_n0 := p_n0; have y99 : Rg 0 40 l_n1 := p_n1; have y910 : Rg 0 40 l_n2 := p_n2; have y911 : Rg 0 40 l_n3 := p_n3; have y912 : Rg (-11) (-1) r51921 := g51950; have y9c13 : (0 : Int32).toInt = 0 := (by decide); have y9c14 : (1 : Int32).toInt = 1 := (by decide); omega), (show l_o2.toInt = l_o2.toInt ∧ l_n2.toInt = l_n2.toInt from by have y90 : ¬ r51921.toInt = (0 : Int32).toInt := fun z => c51922 (Int32.toInt_inj.mp z); have y91 : Rg (-11) (-1) r51921 := g51950; have y92 : Rg (-11) (-1) r51921 := g51950; have y93 : Rg (-11) (-1) r51921 := g51950; have y94 : Rg 0 12 l_s := p_s; have y95 : Rg 0 12 l_t := p_t; have y96 : Rg 0 12 l_i := p_i; have y97 : Rg 0 120 l_tp := p_tp; have y98 : Rg 0 40 l_n0 := p_n0; have y99 : Rg 0 40 l_n1 := p_n1; have y910 : Rg 0 40 l_n2 := p_n2; have y911 : Rg 0 40 l_n3 := p_n3; have y912 : Rg (-11) (-1) r51921 := g51950; have y9c13 : (0 : Int32).toInt = 0 := (by decide); have y9c14 : (1 : Int32).toInt = 1 := (by decide); omega), (show l_o3.toInt = l_o3.toInt ∧ l_n3.toInt = l_n3.toInt from by have y90 : ¬ r51921.toInt = (0 : Int32).toInt := fun z => c51922 (Int32.toInt_inj.mp z); have y91 : Rg (-11) (-1) r51921 := g51950; have y92 : Rg (-11) (-1) r51921 := g51950; have y93 : Rg (-11) (-1) r51921 := g51950; have y94 : Rg 0 12 l_s := p_s; have y95 : Rg 0 12 l_t := p_t; have y96 : Rg 0 12 l_i := p_i; have y97 : Rg 0 120 l_tp := p_tp; have y98 : Rg 0 40 l_n0 := p_n0; have y99 : Rg 0 40 l_n1 := p_n1; have y910 : Rg 0 40 l_n2 := p_n2; have y911 : Rg 0 40 l_n3 := p_n3; have y912 : Rg (-11) (-1) r51921 := g51950; have y9c13 : (0 : Int32).toInt = 0 := (by decide); have y9c14 : (1 : Int32).toInt = 1 := (by decide); omega)⟩, by rw [ht]; exact hP, hD⟩, hS.F ht⟩) hS.2.2 dX11_grow_11
set_option maxHeartbeats 4000000 in
set_option maxRecDepth 100000 in
theorem k_X6_hasRange_z (l : Launch) (D : va_G) (cI cS : ClassId) (a : Nat → Nat) (na nc N : Nat) (L u : SU) (hL : TyX L) (hN : N = 0 ∨ N = 24576) (q : Nat) (hq : q < 4) (x0 x1 : Int32) : Met l yX6_hasRange wsX6_hasRange ({ frames := 0, cells := 0, slots := 0, locals := 0 }) (PS D cI cS (wX cI cS a na nc N L u) [.ref (a (26 + 2 * q)), .int x0, .int x1]) (vp_Si (fun r => Rg 0 1 r ∧ (r ≠ 0 → Rg 0 40 x0 ∧ Rg 0 40 x1) ∧ ((r ≠ 0 → (0 ≤ x0.toInt ∧ 0 ≤ x1.toInt ∧ x0.toInt + x1.toInt ≤ (L (26 + 2 * q) 2).toInt)) ∧ (r = 0 → ¬ (0 ≤ x0.toInt ∧ 0 ≤ x1.toInt ∧ x0.toInt + x1.toInt ≤ (L (26 + 2 * q) 2).toInt))))) 0 0 (fun _ => False) := by
  refine Met.ofW (cc := cX6_hasRange) (maxL := 3) (ret := (some .boolean)) (by decide) rfl ?_
  intro p e s m args below meth c s₁ B hml hv
  obtain ⟨rfl, hP, hKK⟩ := hv
  have hx := B.exec
  have hb := B.bytes
  have hr := B.returns
  have hts := atoms_spec (ws := wsX6_hasRange) B.pre
  have hown : s.vm.findClass RX6 = some m.cls := findClass_of_methodNamed B.named
  have hlocks := B.notSynchronized
  have hK := hKK.1
  have hin6 : ∀ w ∈ wsX60, w ∈ wsX6_hasRange := by decide +kernel
  have hl := lv_entry ([.ref (a (26 + 2 * q)), .int x0, .int x1]) (n := 3) (Nat.le_of_ble_eq_true rfl)
  rw [lg_entry_eq]
  generalize (lg_sl ([.ref (a (26 + 2 * q)), .int x0, .int x1]) ++ List.replicate (3 - (lg_sl ([.ref (a (26 + 2 * q)), .int x0, .int x1])).length) Slot.unset).toArray = ls at hl ⊢
  have hl : lv_has ls 3 [(0, .ref (a (26 + 2 * q))), (1, .int x0), (2, .int x1)] := hl
  refine lv_iload_n hx hb dX6_hasRange_0 rfl (lv_at hl 1 rfl) ?_
  refine lv_if_lt (tgt := 30) hx hb dX6_hasRange_1 (by decide) (fun c51964 => ?_) (fun c51964 => ?_)
  · have g51965 : Rg (-2147483648) (-1) x0 := rg_ltl (rg_any x0) (by decide : Rg 0 0 (0 : Int32)) c51964 (by decide)
    refine lv_iconst (v := 0) hx hb dX6_hasRange_30 (by decide) ?_
    exact W.zret (v := 0) hx hb hr (by decide) (fun t ht hW => ⟨_, rfl, ⟨(by decide : Rg 0 1 (0 : Int32)), fun h9 => absurd rfl h9, ⟨fun h9 => absurd rfl h9, fun _ => (by have y90 : x0.toInt < (0 : Int32).toInt := (lz_lt _ _).mp c51964; have y91 : Rg (-2147483648) (-1) x0 := g51965; have y92 : Rg (-2147483648) (-1) x0 := g51965; have y9c3 : (0 : Int32).toInt = 0 := (by decide); have y9c4 : (1 : Int32).toInt = 1 := (by decide); skip; omega)⟩⟩, ht⟩) (fun q hq => absurd hq List.not_mem_nil) dX6_hasRange_31
  · have g51966 : Rg 0 2147483647 x0 := rg_ler (by decide : Rg 0 0 (0 : Int32)) (rg_any x0) (rg_nlt c51964) (by decide)
    refine lv_iload_n hx hb dX6_hasRange_4 rfl (lv_at hl 2 rfl) ?_
    refine lv_if_lt (tgt := 30) hx hb dX6_hasRange_5 (by decide) (fun c51967 => ?_) (fun c51967 => ?_)
    · have g51968 : Rg (-2147483648) (-1) x1 := rg_ltl (rg_any x1) (by decide : Rg 0 0 (0 : Int32)) c51967 (by decide)
      refine lv_iconst (v := 0) hx hb dX6_hasRange_30 (by decide) ?_
      exact W.zret (v := 0) hx hb hr (by decide) (fun t ht hW => ⟨_, rfl, ⟨(by decide : Rg 0 1 (0 : Int32)), fun h9 => absurd rfl h9, ⟨fun h9 => absurd rfl h9, fun _ => (by have y90 : (0 : Int32).toInt ≤ x0.toInt := (lz_le _ _).mp (rg_nlt c51964); have y91 : x1.toInt < (0 : Int32).toInt := (lz_lt _ _).mp c51967; have y92 : Rg 0 2147483647 x0 := g51966; have y93 : Rg (-2147483648) (-1) x1 := g51968; have y94 : Rg 0 2147483647 x0 := g51966; have y95 : Rg (-2147483648) (-1) x1 := g51968; have y9c6 : (0 : Int32).toInt = 0 := (by decide); have y9c7 : (1 : Int32).toInt = 1 := (by decide); skip; omega)⟩⟩, ht⟩) (fun q hq => absurd hq List.not_mem_nil) dX6_hasRange_31
    · have g51969 : Rg 0 2147483647 x1 := rg_ler (by decide : Rg 0 0 (0 : Int32)) (rg_any x1) (rg_nlt c51967) (by decide)
      refine lv_iload_n hx hb dX6_hasRange_8 rfl (lv_at hl 2 rfl) ?_
      refine lv_aload_n hx hb dX6_hasRange_9 rfl (lv_at hl 0 rfl) ?_
      refine va_get (D := D) (ci := 6) (v := .int ((L (26 + 2 * q) 2))) (C := RX6) (T := TX6) (N := 3) hx hb hts hin6 hown hK hP (26 + 2 * q) (gx_sh hq) rfl 2 (by decide) (hts (.fieldLink RX6 28 "MissedPoints$Sheet" "size" "I") (by decide +kernel)) (fun _ h9 => h9) rfl dX6_hasRange_10 ?_
      refine lv_icmp_gt (tgt := 30) hx hb dX6_hasRange_13 (by decide) (fun c51970 => ?_) (fun c51970 => ?_)
      · have g51971 : Rg 1 2147483647 x1 := rg_ltr (hL.sh hq) g51969 c51970 (by decide)
        refine lv_iconst (v := 0) hx hb dX6_hasRange_30 (by decide) ?_
        exact W.zret (v := 0) hx hb hr (by decide) (fun t ht hW => ⟨_, rfl, ⟨(by decide : Rg 0 1 (0 : Int32)), fun h9 => absurd rfl h9, ⟨fun h9 => absurd rfl h9, fun _ => (by have y90 : (0 : Int32).toInt ≤ x0.toInt := (lz_le _ _).mp (rg_nlt c51964); have y91 : (0 : Int32).toInt ≤ x1.toInt := (lz_le _ _).mp (rg_nlt c51967); have y92 : ((L (26 + 2 * q) 2)).toInt < x1.toInt := (lz_lt _ _).mp c51970; have y93 : Rg 0 2147483647 x0 := g51966; have y94 : Rg 1 2147483647 x1 := g51971; have y95 : Rg 0 2147483647 x0 := g51966; have y96 : Rg 1 2147483647 x1 := g51971; have y9c7 : (0 : Int32).toInt = 0 := (by decide); have y9c8 : (1 : Int32).toInt = 1 := (by decide); skip; omega)⟩⟩, ht⟩) (fun q hq => absurd hq List.not_mem_nil) dX6_hasRange_31
      · have g51972 : Rg 0 40 x1 := rg_lel g51969 (hL.sh hq) (rg_nlt c51970) (by decide)
        refine lv_iload_n hx hb dX6_hasRange_16 rfl (lv_at hl 1 rfl) ?_
        refine lv_aload_n hx hb dX6_hasRange_17 rfl (lv_at hl 0 rfl) ?_
        refine va_get (D := D) (ci := 6) (v := .int ((L (26 + 2 * q) 2))) (C := RX6) (T := TX6) (N := 3) hx hb hts hin6 hown hK hP (26 + 2 * q) (gx_sh hq) rfl 2 (by decide) (hts (.fieldLink RX6 28 "MissedPoints$Sheet" "size" "I") (by decide +kernel)) (fun _ h9 => h9) rfl dX6_hasRange_18 ?_
        refine lv_iload_n hx hb dX6_hasRange_21 rfl (lv_at hl 2 rfl) ?_
        refine wk_isub (e1 := (-40)) (f := 40) hx hb dX6_hasRange_22 (hL.sh hq) g51972 (by decide) (fun r51973 hr51973 er51973 qr51973 => ?_)
        refine lv_icmp_gt (tgt := 30) hx hb dX6_hasRange_23 (by decide) (fun c51974 => ?_) (fun c51974 => ?_)
        · refine lv_iconst (v := 0) hx hb dX6_hasRange_30 (by decide) ?_
          exact W.zret (v := 0) hx hb hr (by decide) (fun t ht hW => ⟨_, rfl, ⟨(by decide : Rg 0 1 (0 : Int32)), fun h9 => absurd rfl h9, ⟨fun h9 => absurd rfl h9, fun _ => (by have y90 : (0 : Int32).toInt ≤ x0.toInt := (lz_le _ _).mp (rg_nlt c51964); have y91 : (0 : Int32).toInt ≤ x1.toInt := (lz_le _ _).mp (rg_nlt c51967); have y92 : x1.toInt ≤ ((L (26 + 2 * q) 2)).toInt := (lz_le _ _).mp (rg_nlt c51970); have y93 : r51973.toInt < x0.toInt := (lz_lt _ _).mp c51974; have y94 : Rg 0 2147483647 x0 := g51966; have y95 : Rg 0 40 x1 := g51972; have y96 : Rg 0 2147483647 x0 := g51966; have y97 : Rg 0 40 x1 := g51972; have y9c8 : (0 : Int32).toInt = 0 := (by decide); have y9c9 : (1 : Int32).toInt = 1 := (by decide); skip; omega)⟩⟩, ht⟩) (fun q hq => absurd hq List.not_mem_nil) dX6_hasRange_31
        · have g51975 : Rg 0 40 r51973 := rg_ler g51966 hr51973 (rg_nlt c51974) (by decide)
          have g51976 : Rg 0 40 x0 := rg_lel g51966 hr51973 (rg_nlt c51974) (by decide)
          refine lv_iconst (v := 1) hx hb dX6_hasRange_26 (by decide) ?_
          refine lv_goto (tgt := 31) hx hb dX6_hasRange_27 (by decide) ?_
          exact W.zret (v := 1) hx hb hr (by decide) (fun t ht hW => ⟨_, rfl, ⟨(by decide : Rg 0 1 (1 : Int32)), fun _ => ⟨g51976, g51972⟩, ⟨fun _ => (by have y90 : (0 : Int32).toInt ≤ x0.toInt := (lz_le _ _).mp (rg_nlt c51964); have y91 : (0 : Int32).toInt ≤ x1.toInt := (lz_le _ _).mp (rg_nlt c51967); have y92 : x1.toInt ≤ ((L (26 + 2 * q) 2)).toInt := (lz_le _ _).mp (rg_nlt c51970); have y93 : x0.toInt ≤ r51973.toInt := (lz_le _ _).mp (rg_nlt c51974); have y94 : Rg 0 40 x0 := g51976; have y95 : Rg 0 40 x1 := g51972; have y96 : Rg 0 40 r51973 := g51975; have y97 : Rg 0 40 x0 := g51976; have y98 : Rg 0 40 x1 := g51972; have y9c9 : (0 : Int32).toInt = 0 := (by decide); have y9c10 : (1 : Int32).toInt = 1 := (by decide); skip; omega), fun h9 => absurd h9 (by decide)⟩⟩, ht⟩) (fun q hq => absurd hq List.not_mem_nil) dX6_hasRange_31
set_option maxRecDepth 20000 in
theorem ggX6_copyTo_X6_hasRange : GoodIn wsX6_copyTo wsX6_hasRange := goodIn_r _ [10, 11, 12, 13, 14] (by decide +kernel) (by decide +kernel)
set_option maxRecDepth 20000 in
theorem gX6_copyTo_X6_hasRange : GoodIn wsX6_copyTo (wsV RX6 31 RX6 yX6_hasRange wsX6_hasRange) := goodIn_app (goodIn_of _ (by decide +kernel)) ggX6_copyTo_X6_hasRange
theorem dX6_copyTo_0 : decode cX6_copyTo 0 = .ok (.aload_n 0, 1) := by decide +kernel
theorem dX6_copyTo_1 : decode cX6_copyTo 1 = .ok (.iload_n 1, 1) := by decide +kernel
theorem dX6_copyTo_10 : decode cX6_copyTo 10 = .ok (.aload_n 2, 1) := by decide +kernel
theorem dX6_copyTo_11 : decode cX6_copyTo 11 = .ok (.iload_n 3, 1) := by decide +kernel
theorem dX6_copyTo_12 : decode cX6_copyTo 12 = .ok (.iload 4, 2) := by decide +kernel
theorem dX6_copyTo_14 : decode cX6_copyTo 14 = .ok (.invokevirtual 31, 3) := by decide +kernel
theorem dX6_copyTo_17 : decode cX6_copyTo 17 = .ok (.ifCond .eq 18, 3) := by decide +kernel
theorem dX6_copyTo_2 : decode cX6_copyTo 2 = .ok (.iload 4, 2) := by decide +kernel
theorem dX6_copyTo_20 : decode cX6_copyTo 20 = .ok (.aload_n 0, 1) := by decide +kernel
theorem dX6_copyTo_21 : decode cX6_copyTo 21 = .ok (.getfield 9, 3) := by decide +kernel
theorem dX6_copyTo_24 : decode cX6_copyTo 24 = .ok (.iload_n 1, 1) := by decide +kernel
theorem dX6_copyTo_25 : decode cX6_copyTo 25 = .ok (.aload_n 2, 1) := by decide +kernel
theorem dX6_copyTo_26 : decode cX6_copyTo 26 = .ok (.getfield 9, 3) := by decide +kernel
theorem dX6_copyTo_29 : decode cX6_copyTo 29 = .ok (.iload_n 3, 1) := by decide +kernel
theorem dX6_copyTo_30 : decode cX6_copyTo 30 = .ok (.iload 4, 2) := by decide +kernel
theorem dX6_copyTo_32 : decode cX6_copyTo 32 = .ok (.invokestatic 35, 3) := by decide +kernel
theorem dX6_copyTo_35 : decode cX6_copyTo 35 = .ok (.return_, 1) := by decide +kernel
theorem dX6_copyTo_4 : decode cX6_copyTo 4 = .ok (.invokevirtual 31, 3) := by decide +kernel
theorem dX6_copyTo_7 : decode cX6_copyTo 7 = .ok (.ifCond .eq 28, 3) := by decide +kernel
set_option maxHeartbeats 4000000 in
set_option maxRecDepth 100000 in
theorem k_X6_copyTo (l : Launch) (D : va_G) (cI cS : ClassId) (sz : Nat) (a : Nat → Nat) (na nc N : Nat) (L u0 : SU) (hL : TyX L) (hN : N = 0 ∨ N = 24576) (q : Nat) (hq : q < 4) (q2 : Nat) (hq2 : q2 < 4) (x0 x1 x2 : Int32) : Met l yX6_copyTo wsX6_copyTo ({ frames := 1, cells := 0, slots := 0, locals := 40 }) (PQ D cI cS (wX cI cS a na nc N L u0) sz [.ref (a (26 + 2 * q)), .int x0, .ref (a (26 + 2 * q2)), .int x1, .int x2]) (QE (S := SU) D (wX cI cS a na nc N L u0) (wX cI cS a na nc N L) sz (fun _ => True)) 0 0 (va_A (wX cI cS a na nc N L u0) sz) := by
  refine Met.ofW (cc := cX6_copyTo) (maxL := 5) (ret := none) (by decide) rfl ?_
  intro p e s m args below meth c s₁ B hml hv
  obtain ⟨rfl, hsz, hP, hKK, hD0⟩ := hv
  have hx := B.exec
  have hb := B.bytes
  have hr := B.returns
  have hts := atoms_spec (ws := wsX6_copyTo) B.pre
  have hown : s.vm.findClass RX6 = some m.cls := findClass_of_methodNamed B.named
  have hlocks := B.notSynchronized
  have hK := hKK.1
  have hin6 : ∀ w ∈ wsX60, w ∈ wsX6_copyTo := by decide +kernel
  subst hsz
  have hD := hD0.self (sz := s.heap.size)
  obtain ⟨A, hAe⟩ : ∃ A, A = va_A (wX cI cS a na nc N L u0) s.heap.size := ⟨_, rfl⟩
  rw [← hAe] at hD
  have hA : ∀ q : Nat, s.heap.size ≤ q → A q := fun q h => by rw [hAe]; exact Or.inr h
  have hS : va_S A s.heap s.heap [] := va_S.rf
  have hl := lv_entry ([.ref (a (26 + 2 * q)), .int x0, .ref (a (26 + 2 * q2)), .int x1, .int x2]) (n := 5) (Nat.le_of_ble_eq_true rfl)
  rw [lg_entry_eq]
  generalize (lg_sl ([.ref (a (26 + 2 * q)), .int x0, .ref (a (26 + 2 * q2)), .int x1, .int x2]) ++ List.replicate (5 - (lg_sl ([.ref (a (26 + 2 * q)), .int x0, .ref (a (26 + 2 * q2)), .int x1, .int x2])).length) Slot.unset).toArray = ls at hl ⊢
  have hl : lv_has ls 5 [(0, .ref (a (26 + 2 * q))), (1, .int x0), (2, .ref (a (26 + 2 * q2))), (3, .int x1), (4, .int x2)] := hl
  obtain ⟨u, hu9⟩ : ∃ u : SU, u = u0 := ⟨_, rfl⟩
  rw [← hu9] at hP hD
  refine lv_aload_n hx hb dX6_copyTo_0 rfl (lv_at hl 0 rfl) ?_
  refine lv_iload_n hx hb dX6_copyTo_1 rfl (lv_at hl 1 rfl) ?_
  refine lv_iload hx hb dX6_copyTo_2 (lv_at hl 4 rfl) ?_
  refine wk_sv (26 + 2 * q) (As := [.int x0, .int x2]) (rest := []) ⟨hx, hb, hml, hown, hts⟩ (k_X6_hasRange_z l D cI cS a na nc N L u hL hN q hq x0 x2) hKK hP (ci := 6) rfl (gx_sh hq) (cwV 2 hts gX6_copyTo_X6_hasRange rfl rfl rfl (by decide +kernel) ⟨Nat.le_of_ble_eq_true rfl, Nat.le_of_ble_eq_true rfl⟩) rfl hl.1 rfl (Nat.le_of_ble_eq_true rfl) dX6_copyTo_4 ⟨Nat.le_of_ble_eq_true rfl, Nat.le_of_ble_eq_true rfl⟩ (fun r51992 hr51992 => ?_)
  refine lv_if_eq (tgt := 35) hx hb dX6_copyTo_7 (by decide) (fun c51993 => ?_) (fun c51993 => ?_)
  · have zn51994 : ¬ (0 ≤ x0.toInt ∧ 0 ≤ x2.toInt ∧ x0.toInt + x2.toInt ≤ (L (26 + 2 * q) 2).toInt) := hr51992.2.2 c51993
    have g51995 : Rg 0 0 r51992 := wk_eql hr51992.1 (by decide : Rg 0 0 (0 : Int32)) c51993 (by decide)
    subst hAe
    exact W.vret hx hb hr (fun t ht hW => ⟨⟨u, rfl, trivial, by rw [ht]; exact hP, hD⟩, hS.F ht⟩) hS.2.2 dX6_copyTo_35
  · have g51996 : Rg 0 40 x0 := (hr51992.2.1 c51993).1
    have g51997 : Rg 0 40 x2 := (hr51992.2.1 c51993).2
    have zn51998 : (0 ≤ x0.toInt ∧ 0 ≤ x2.toInt ∧ x0.toInt + x2.toInt ≤ (L (26 + 2 * q) 2).toInt) := hr51992.2.1 c51993
    have g51999 : Rg 1 1 r51992 := rg_ne_lo (k := 0) hr51992.1 (by decide) c51993 (by decide)
    refine lv_aload_n hx hb dX6_copyTo_10 rfl (lv_at hl 2 rfl) ?_
    refine lv_iload_n hx hb dX6_copyTo_11 rfl (lv_at hl 3 rfl) ?_
    refine lv_iload hx hb dX6_copyTo_12 (lv_at hl 4 rfl) ?_
    refine wk_sv (26 + 2 * q2) (As := [.int x1, .int x2]) (rest := []) ⟨hx, hb, hml, hown, hts⟩ (k_X6_hasRange_z l D cI cS a na nc N L u hL hN q2 hq2 x1 x2) hKK hP (ci := 6) rfl (gx_sh hq2) (cwV 2 hts gX6_copyTo_X6_hasRange rfl rfl rfl (by decide +kernel) ⟨Nat.le_of_ble_eq_true rfl, Nat.le_of_ble_eq_true rfl⟩) rfl hl.1 rfl (Nat.le_of_ble_eq_true rfl) dX6_copyTo_14 ⟨Nat.le_of_ble_eq_true rfl, Nat.le_of_ble_eq_true rfl⟩ (fun r52000 hr52000 => ?_)
    refine lv_if_eq (tgt := 35) hx hb dX6_copyTo_17 (by decide) (fun c52001 => ?_) (fun c52001 => ?_)
    · have zn52002 : ¬ (0 ≤ x1.toInt ∧ 0 ≤ x2.toInt ∧ x1.toInt + x2.toInt ≤ (L (26 + 2 * q2) 2).toInt) := hr52000.2.2 c52001
      have g52003 : Rg 0 0 r52000 := wk_eql hr52000.1 (by decide : Rg 0 0 (0 : Int32)) c52001 (by decide)
      subst hAe
      exact W.vret hx hb hr (fun t ht hW => ⟨⟨u, rfl, trivial, by rw [ht]; exact hP, hD⟩, hS.F ht⟩) hS.2.2 dX6_copyTo_35
    · have g52004 : Rg 0 40 x1 := (hr52000.2.1 c52001).1
      have zn52005 : (0 ≤ x1.toInt ∧ 0 ≤ x2.toInt ∧ x1.toInt + x2.toInt ≤ (L (26 + 2 * q2) 2).toInt) := hr52000.2.1 c52001
      have g52006 : Rg 1 1 r52000 := rg_ne_lo (k := 0) hr52000.1 (by decide) c52001 (by decide)
      refine lv_aload_n hx hb dX6_copyTo_20 rfl (lv_at hl 0 rfl) ?_
      refine va_get (D := D) (ci := 6) (v := .ref (a (27 + 2 * q))) (C := RX6) (T := TX6) (N := 3) hx hb hts hin6 hown hK hP (26 + 2 * q) (gx_sh hq) rfl 0 (by decide) (hts (.fieldLink RX6 9 "MissedPoints$Sheet" "numbers" "[I") (by decide +kernel)) (fun _ h9 => h9) rfl dX6_copyTo_21 ?_
      refine lv_iload_n hx hb dX6_copyTo_24 rfl (lv_at hl 1 rfl) ?_
      refine lv_aload_n hx hb dX6_copyTo_25 rfl (lv_at hl 2 rfl) ?_
      refine va_get (D := D) (ci := 6) (v := .ref (a (27 + 2 * q2))) (C := RX6) (T := TX6) (N := 3) hx hb hts hin6 hown hK hP (26 + 2 * q2) (gx_sh hq2) rfl 0 (by decide) (hts (.fieldLink RX6 9 "MissedPoints$Sheet" "numbers" "[I") (by decide +kernel)) (fun _ h9 => h9) rfl dX6_copyTo_26 ?_
      refine lv_iload_n hx hb dX6_copyTo_29 rfl (lv_at hl 3 rfl) ?_
      refine lv_iload hx hb dX6_copyTo_30 (lv_at hl 4 rfl) ?_
      refine va_copyi hx hb (by rw [hml]; exact hl.1.symm) hown (hts (.methodLink RX6 35 arraycopyName) (by decide +kernel)) (hts (.native arraycopyName) (by decide +kernel)) (hts (.static arraycopyName) (by decide +kernel)) (hts (.initialized "java/lang/System") (by decide +kernel)) hK hP hD hS (27 + 2 * q) (27 + 2 * q2) 0 0 (gx_shn hq) (gx_shn hq2) rfl rfl rfl (fun z => absurd ((lz_lt _ _).mp z) (by have z1 := g51996; have z2 : (0 : Int32).toInt = 0 := (by decide); omega)) (fun z => absurd ((lz_lt _ _).mp z) (by have z1 := g52004; have z2 : (0 : Int32).toInt = 0 := (by decide); omega)) (fun z => absurd ((lz_lt _ _).mp z) (by have z1 := g51997; have z2 : (0 : Int32).toInt = 0 := (by decide); omega)) (wk_cpy g51996 g51997 (by decide) (by decide) (by have y90 : ¬ r51992.toInt = (0 : Int32).toInt := fun z => c51993 (Int32.toInt_inj.mp z); have y91 : ¬ r52000.toInt = (0 : Int32).toInt := fun z => c52001 (Int32.toInt_inj.mp z); have y92 : Rg 0 40 x0 := g51996; have y93 : Rg 0 40 x2 := g51997; have y94 : Rg 1 1 r51992 := g51999; have y95 : Rg 0 40 x1 := g52004; have y96 : Rg 1 1 r52000 := g52006; have y97 : Rg 0 40 x0 := g51996; have y98 : Rg 0 40 x1 := g52004; have y99 : Rg 0 40 x2 := g51997; have y910 : Rg 0 40 x2 := g51997; have y911 : Rg 0 40 x1 := g52004; have y912 : Rg 0 40 x0 := g51996; have y9c13 : (0 : Int32).toInt = 0 := (by decide); have y9c14 : (1 : Int32).toInt = 1 := (by decide); omega)) (wk_cpy g52004 g51997 (by decide) (by decide) (by have y90 : ¬ r51992.toInt = (0 : Int32).toInt := fun z => c51993 (Int32.toInt_inj.mp z); have y91 : ¬ r52000.toInt = (0 : Int32).toInt := fun z => c52001 (Int32.toInt_inj.mp z); have y92 : Rg 0 40 x0 := g51996; have y93 : Rg 0 40 x2 := g51997; have y94 : Rg 1 1 r51992 := g51999; have y95 : Rg 0 40 x1 := g52004; have y96 : Rg 1 1 r52000 := g52006; have y97 : Rg 0 40 x0 := g51996; have y98 : Rg 0 40 x1 := g52004; have y99 : Rg 0 40 x2 := g51997; have y910 : Rg 0 40 x2 := g51997; have y911 : Rg 0 40 x1 := g52004; have y912 : Rg 0 40 x0 := g51996; have y9c13 : (0 : Int32).toInt = 0 := (by decide); have y9c14 : (1 : Int32).toInt = 1 := (by decide); omega)) (fun _ _ => rfl) (Nat.le_of_ble_eq_true rfl) (Nat.le_of_ble_eq_true rfl) dX6_copyTo_32 (fun H locs hP hD hS => ?_)
      rw [sx_shn hq2] at hP hD
      generalize sU u (27 + 2 * q2) _ = u at hP hD
      subst hAe
      exact W.vret hx hb hr (fun t ht hW => ⟨⟨u, rfl, trivial, by rw [ht]; exact hP, hD⟩, hS.F ht⟩) hS.2.2 dX6_copyTo_35
set_option maxHeartbeats 4000000 in
set_option maxRecDepth 100000 in
theorem k_X6_isMissing_z (l : Launch) (D : va_G) (cI cS : ClassId) (a : Nat → Nat) (na nc N : Nat) (L u : SU) (hL : TyX L) (hN : N = 0 ∨ N = 24576) (q : Nat) (hq : q < 4) : Met l yX6_isMissing wsX6_isMissing ({ frames := 0, cells := 0, slots := 0, locals := 0 }) (PS D cI cS (wX cI cS a na nc N L u) [.ref (a (26 + 2 * q))]) (vp_Si (fun r => Rg 0 1 r ∧ ((r ≠ 0 → (L (26 + 2 * q) 1).toInt = -1) ∧ (r = 0 → ¬ (L (26 + 2 * q) 1).toInt = -1)))) 0 0 (fun _ => False) := by
  refine Met.ofW (cc := cX6_isMissing) (maxL := 1) (ret := (some .boolean)) (by decide) rfl ?_
  intro p e s m args below meth c s₁ B hml hv
  obtain ⟨rfl, hP, hKK⟩ := hv
  have hx := B.exec
  have hb := B.bytes
  have hr := B.returns
  have hts := atoms_spec (ws := wsX6_isMissing) B.pre
  have hown : s.vm.findClass RX6 = some m.cls := findClass_of_methodNamed B.named
  have hlocks := B.notSynchronized
  have hK := hKK.1
  have hin6 : ∀ w ∈ wsX60, w ∈ wsX6_isMissing := by decide +kernel
  have hl := lv_entry ([.ref (a (26 + 2 * q))]) (n := 1) (Nat.le_of_ble_eq_true rfl)
  rw [lg_entry_eq]
  generalize (lg_sl ([.ref (a (26 + 2 * q))]) ++ List.replicate (1 - (lg_sl ([.ref (a (26 + 2 * q))])).length) Slot.unset).toArray = ls at hl ⊢
  have hl : lv_has ls 1 [(0, .ref (a (26 + 2 * q)))] := hl
  refine lv_aload_n hx hb dX6_isMissing_0 rfl (lv_at hl 0 rfl) ?_
  refine va_get (D := D) (ci := 6) (v := .int ((L (26 + 2 * q) 1))) (C := RX6) (T := TX6) (N := 3) hx hb hts hin6 hown hK hP (26 + 2 * q) (gx_sh hq) rfl 1 (by decide) (hts (.fieldLink RX6 15 "MissedPoints$Sheet" "sort" "I") (by decide +kernel)) (fun _ h9 => h9) rfl dX6_isMissing_1 ?_
  refine lv_iconst (v := (-1)) hx hb dX6_isMissing_4 (by decide) ?_
  refine lv_icmp_ne (tgt := 12) hx hb dX6_isMissing_5 (by decide) (fun c52009 => ?_) (fun c52009 => ?_)
  · refine lv_iconst (v := 0) hx hb dX6_isMissing_12 (by decide) ?_
    exact W.zret (v := 0) hx hb hr (by decide) (fun t ht hW => ⟨_, rfl, ⟨(by decide : Rg 0 1 (0 : Int32)), ⟨fun h9 => absurd rfl h9, fun _ => (by have y90 : ¬ ((L (26 + 2 * q) 1)).toInt = ((-1) : Int32).toInt := fun z => c52009 (Int32.toInt_inj.mp z); have y9c1 : ((-1) : Int32).toInt = -1 := (by decide); have y9c2 : (0 : Int32).toInt = 0 := (by decide); have y9c3 : (1 : Int32).toInt = 1 := (by decide); have z5 : (-1 : Int32).toInt = -1 := (by decide); omega)⟩⟩, ht⟩) (fun q hq => absurd hq List.not_mem_nil) dX6_isMissing_13
  · have g52010 : Rg (-1) (-1) ((L (26 + 2 * q) 1)) := wk_eql (rg_any ((L (26 + 2 * q) 1))) (by decide : Rg (-1) (-1) ((-1) : Int32)) c52009 (by decide)
    refine lv_iconst (v := 1) hx hb dX6_isMissing_8 (by decide) ?_
    refine lv_goto (tgt := 13) hx hb dX6_isMissing_9 (by decide) ?_
    exact W.zret (v := 1) hx hb hr (by decide) (fun t ht hW => ⟨_, rfl, ⟨(by decide : Rg 0 1 (1 : Int32)), ⟨fun _ => (by have y90 : ((L (26 + 2 * q) 1)).toInt = ((-1) : Int32).toInt := congrArg Int32.toInt c52009; have y91 : Rg (-1) (-1) ((L (26 + 2 * q) 1)) := g52010; have y9c2 : ((-1) : Int32).toInt = -1 := (by decide); have y9c3 : (0 : Int32).toInt = 0 := (by decide); have y9c4 : (1 : Int32).toInt = 1 := (by decide); have z5 : (-1 : Int32).toInt = -1 := (by decide); omega), fun h9 => absurd h9 (by decide)⟩⟩, ht⟩) (fun q hq => absurd hq List.not_mem_nil) dX6_isMissing_13
set_option maxHeartbeats 4000000 in
set_option maxRecDepth 100000 in
theorem k_X11_refusalOfSheet_E (l : Launch) (D : va_G) (cI cS : ClassId) (a : Nat → Nat) (na nc N : Nat) (L u : SU) (hL : TyX L) (hN : N = 0 ∨ N = 24576) (x0 : Int32) : Met l yX11_refusalOfSheet wsX11_refusalOfSheet ({ frames := 1, cells := 0, slots := 0, locals := 40 }) (PS D cI cS (wX cI cS a na nc N L u) [.ref (a 0), .int x0]) (vp_Si (fun r => Rg (-11) 0 r ∧ (r = 0 → Rg 0 3 x0) ∧ ((x0.toInt < 0 ∨ 3 < x0.toInt → r.toInt = -2) ∧ (0 ≤ x0.toInt → x0.toInt ≤ 3 → (L (26 + 2 * x0.toNatClampNeg) 1).toInt = -1 → r.toInt = -11) ∧ (0 ≤ x0.toInt → x0.toInt ≤ 3 → ¬ (L (26 + 2 * x0.toNatClampNeg) 1).toInt = -1 → r.toInt = 0)))) 0 0 (fun _ => False) := by
  refine Met.ofW (cc := cX11_refusalOfSheet) (maxL := 2) (ret := (some .int)) (by decide) rfl ?_
  intro p e s m args below meth c s₁ B hml hv
  obtain ⟨rfl, hP, hKK⟩ := hv
  have hx := B.exec
  have hb := B.bytes
  have hr := B.returns
  have hts := atoms_spec (ws := wsX11_refusalOfSheet) B.pre
  have hown : s.vm.findClass RX11 = some m.cls := findClass_of_methodNamed B.named
  have hlocks := B.notSynchronized
  have hK := hKK.1
  have hin11 : ∀ w ∈ wsX110, w ∈ wsX11_refusalOfSheet := by decide +kernel
  have hl := lv_entry ([.ref (a 0), .int x0]) (n := 2) (Nat.le_of_ble_eq_true rfl)
  rw [lg_entry_eq]
  generalize (lg_sl ([.ref (a 0), .int x0]) ++ List.replicate (2 - (lg_sl ([.ref (a 0), .int x0])).length) Slot.unset).toArray = ls at hl ⊢
  have hl : lv_has ls 2 [(0, .ref (a 0)), (1, .int x0)] := hl
  refine lv_iload_n hx hb dX11_refusalOfSheet_0 rfl (lv_at hl 1 rfl) ?_
  refine lz_ss (As := [.int x0]) (rest := []) ⟨hx, hb, hml, hown, hts⟩ (k_X11_isSheet_z l D cI cS x0) hKK (hP.sub (ws' := []) [] rfl) (va_cwS 1 hts gX11_refusalOfSheet_X11_isSheet rfl rfl rfl (by decide +kernel) ⟨Nat.le_of_ble_eq_true rfl, Nat.le_of_ble_eq_true rfl⟩) rfl hl.1 rfl (Nat.le_of_ble_eq_true rfl) dX11_refusalOfSheet_1 ⟨Nat.le_of_ble_eq_true rfl, Nat.le_of_ble_eq_true rfl⟩ (fun r52024 hr52024 => ?_)
  refine lv_if_ne (tgt := 10) hx hb dX11_refusalOfSheet_4 (by decide) (fun c52025 => ?_) (fun c52025 => ?_)
  · have g52026 : Rg 0 3 x0 := (hr52024.2.1 c52025)
    have g52027 : Rg 1 1 r52024 := rg_ne_lo (k := 0) hr52024.1 (by decide) c52025 (by decide)
    refine lv_aload_n hx hb dX11_refusalOfSheet_10 rfl (lv_at hl 0 rfl) ?_
    refine va_get (D := D) (ci := 11) (v := .ref (a 25)) (C := RX11) (T := TX11) (N := 16) hx hb hts hin11 hown hK hP 0 rfl rfl 12 (by decide) (hts (.fieldLink RX11 75 "MissedPoints" "sheets" "[LMissedPoints$Sheet;") (by decide +kernel)) (fun _ h9 => h9) rfl dX11_refusalOfSheet_11 ?_
    refine lv_iload_n hx hb dX11_refusalOfSheet_14 rfl (lv_at hl 1 rfl) ?_
    obtain ⟨q52028, hq52028, eq52028, zq52028⟩ := ks_sh (a := a) g52026
    refine va_aldq hx hb hK hP 25 1 rfl rfl (rg_in g52026 (by decide) (by decide)) dX11_refusalOfSheet_15 ?_
    refine lz_va (y := .ref (a (26 + 2 * q52028))) (by show va_rf _ = _; rw [zq52028]; rfl) ?_
    have esq52028_1 : (L (26 + 2 * x0.toNatClampNeg) 1).toInt = (L (26 + 2 * q52028) 1).toInt := by rw [eq52028]
    have esq52028_2 : (L (26 + 2 * x0.toNatClampNeg) 2).toInt = (L (26 + 2 * q52028) 2).toInt := by rw [eq52028]
    refine wk_sv (26 + 2 * q52028) (As := []) (rest := []) ⟨hx, hb, hml, hown, hts⟩ (k_X6_isMissing_z l D cI cS a na nc N L u hL hN q52028 hq52028) hKK hP (ci := 6) rfl (gx_sh hq52028) (cwV 0 hts gX11_refusalOfSheet_X6_isMissing rfl rfl rfl (by decide +kernel) ⟨Nat.le_of_ble_eq_true rfl, Nat.le_of_ble_eq_true rfl⟩) rfl hl.1 rfl (Nat.le_of_ble_eq_true rfl) dX11_refusalOfSheet_16 ⟨Nat.le_of_ble_eq_true rfl, Nat.le_of_ble_eq_true rfl⟩ (fun r52029 hr52029 => ?_)
    refine lv_if_eq (tgt := 27) hx hb dX11_refusalOfSheet_19 (by decide) (fun c52030 => ?_) (fun c52030 => ?_)
    · have zn52031 : ¬ (L (26 + 2 * q52028) 1).toInt = -1 := hr52029.2.2 c52030
      have g52032 : Rg 0 0 r52029 := wk_eql hr52029.1 (by decide : Rg 0 0 (0 : Int32)) c52030 (by decide)
      refine lv_iconst (v := 0) hx hb dX11_refusalOfSheet_27 (by decide) ?_
      exact W.iret (v := 0) hx hb hr (fun t ht hW => ⟨_, rfl, ⟨(by decide : Rg (-11) 0 (0 : Int32)), fun _ => g52026, (by have y90 : ¬ r52024.toInt = (0 : Int32).toInt := fun z => c52025 (Int32.toInt_inj.mp z); have y91 : r52029.toInt = (0 : Int32).toInt := congrArg Int32.toInt c52030; have y92 : Rg 0 3 x0 := g52026; have y93 : Rg 1 1 r52024 := g52027; have y94 : Rg 0 0 r52029 := g52032; have y95 : Rg 0 3 x0 := g52026; have y9c6 : (0 : Int32).toInt = 0 := (by decide); have y9c7 : (1 : Int32).toInt = 1 := (by decide); skip; omega)⟩, ht⟩) (fun q hq => absurd hq List.not_mem_nil) dX11_refusalOfSheet_28
    · have zn52033 : (L (26 + 2 * q52028) 1).toInt = -1 := hr52029.2.1 c52030
      have g52034 : Rg 1 1 r52029 := rg_ne_lo (k := 0) hr52029.1 (by decide) c52030 (by decide)
      refine lv_bipush (v := (-11)) hx hb dX11_refusalOfSheet_22 (by decide) ?_
      refine lv_goto (tgt := 28) hx hb dX11_refusalOfSheet_24 (by decide) ?_
      exact W.iret (v := (-11)) hx hb hr (fun t ht hW => ⟨_, rfl, ⟨(by decide : Rg (-11) 0 ((-11) : Int32)), fun h9 => absurd h9 (by decide), (by have y90 : ¬ r52024.toInt = (0 : Int32).toInt := fun z => c52025 (Int32.toInt_inj.mp z); have y91 : ¬ r52029.toInt = (0 : Int32).toInt := fun z => c52030 (Int32.toInt_inj.mp z); have y92 : Rg 0 3 x0 := g52026; have y93 : Rg 1 1 r52024 := g52027; have y94 : Rg 1 1 r52029 := g52034; have y95 : Rg 0 3 x0 := g52026; have y9c6 : ((-11) : Int32).toInt = -11 := (by decide); have y9c7 : (0 : Int32).toInt = 0 := (by decide); have y9c8 : (1 : Int32).toInt = 1 := (by decide); skip; omega)⟩, ht⟩) (fun q hq => absurd hq List.not_mem_nil) dX11_refusalOfSheet_28
  · have zt52035 : (x0.toInt < 0 ∨ 3 < x0.toInt) := hr52024.2.2 c52025
    have g52036 : Rg 0 0 r52024 := wk_eql hr52024.1 (by decide : Rg 0 0 (0 : Int32)) c52025 (by decide)
    refine lv_bipush (v := (-2)) hx hb dX11_refusalOfSheet_7 (by decide) ?_
    exact W.iret (v := (-2)) hx hb hr (fun t ht hW => ⟨_, rfl, ⟨(by decide : Rg (-11) 0 ((-2) : Int32)), fun h9 => absurd h9 (by decide), (by have y90 : r52024.toInt = (0 : Int32).toInt := congrArg Int32.toInt c52025; have y91 : Rg 0 0 r52024 := g52036; have y9c2 : ((-2) : Int32).toInt = -2 := (by decide); have y9c3 : (0 : Int32).toInt = 0 := (by decide); have y9c4 : (1 : Int32).toInt = 1 := (by decide); skip; omega)⟩, ht⟩) (fun q hq => absurd hq List.not_mem_nil) dX11_refusalOfSheet_9
set_option maxHeartbeats 4000000 in
set_option maxRecDepth 100000 in
theorem k_X11_refusalOfNumber_E (l : Launch) (D : va_G) (cI cS : ClassId) (a : Nat → Nat) (na nc N : Nat) (L u : SU) (hL : TyX L) (hN : N = 0 ∨ N = 24576) (x0 x1 : Int32) : Met l yX11_refusalOfNumber wsX11_refusalOfNumber ({ frames := 2, cells := 0, slots := 0, locals := 80 }) (PS D cI cS (wX cI cS a na nc N L u) [.ref (a 0), .int x0, .int x1]) (vp_Si (fun r => Rg (-12) 0 r ∧ (r = 0 → Rg 0 3 x0 ∧ Rg 0 40 x1) ∧ ((x0.toInt < 0 ∨ 3 < x0.toInt → r.toInt = -2) ∧ (0 ≤ x0.toInt → x0.toInt ≤ 3 → (L (26 + 2 * x0.toNatClampNeg) 1).toInt = -1 → r.toInt = -11) ∧ (0 ≤ x0.toInt → x0.toInt ≤ 3 → ¬ (L (26 + 2 * x0.toNatClampNeg) 1).toInt = -1 → (x1.toInt < 0 ∨ (L (26 + 2 * x0.toNatClampNeg) 2).toInt ≤ x1.toInt) → r.toInt = -12) ∧ (0 ≤ x0.toInt → x0.toInt ≤ 3 → ¬ (L (26 + 2 * x0.toNatClampNeg) 1).toInt = -1 → 0 ≤ x1.toInt → x1.toInt < (L (26 + 2 * x0.toNatClampNeg) 2).toInt → r.toInt = 0)))) 0 0 (fun _ => False) := by
  refine Met.ofW (cc := cX11_refusalOfNumber) (maxL := 4) (ret := (some .int)) (by decide) rfl ?_
  intro p e s m args below meth c s₁ B hml hv
  obtain ⟨rfl, hP, hKK⟩ := hv
  have hx := B.exec
  have hb := B.bytes
  have hr := B.returns
  have hts := atoms_spec (ws := wsX11_refusalOfNumber) B.pre
  have hown : s.vm.findClass RX11 = some m.cls := findClass_of_methodNamed B.named
  have hlocks := B.notSynchronized
  have hK := hKK.1
  have hin11 : ∀ w ∈ wsX110, w ∈ wsX11_refusalOfNumber := by decide +kernel
  have hl := lv_entry ([.ref (a 0), .int x0, .int x1]) (n := 4) (Nat.le_of_ble_eq_true rfl)
  rw [lg_entry_eq]
  generalize (lg_sl ([.ref (a 0), .int x0, .int x1]) ++ List.replicate (4 - (lg_sl ([.ref (a 0), .int x0, .int x1])).length) Slot.unset).toArray = ls at hl ⊢
  have hl : lv_has ls 4 [(0, .ref (a 0)), (1, .int x0), (2, .int x1)] := hl
  refine lv_aload_n hx hb dX11_refusalOfNumber_0 rfl (lv_at hl 0 rfl) ?_
  refine lv_iload_n hx hb dX11_refusalOfNumber_1 rfl (lv_at hl 1 rfl) ?_
  refine wk_sv 0 (As := [.int x0]) (rest := []) ⟨hx, hb, hml, hown, hts⟩ (k_X11_refusalOfSheet_E l D cI cS a na nc N L u hL hN x0) hKK hP (ci := 11) rfl rfl (cwV 1 hts gX11_refusalOfNumber_X11_refusalOfSheet rfl rfl rfl (by decide +kernel) ⟨Nat.le_of_ble_eq_true rfl, Nat.le_of_ble_eq_true rfl⟩) rfl hl.1 rfl (Nat.le_of_ble_eq_true rfl) dX11_refusalOfNumber_2 ⟨Nat.le_of_ble_eq_true rfl, Nat.le_of_ble_eq_true rfl⟩ (fun r52051 hr52051 => ?_)
  have wq52052 : ((x0.toInt < 0 ∨ 3 < x0.toInt → r52051.toInt = -2) ∧ (0 ≤ x0.toInt → x0.toInt ≤ 3 → (L (26 + 2 * x0.toNatClampNeg) 1).toInt = -1 → r52051.toInt = -11) ∧ (0 ≤ x0.toInt → x0.toInt ≤ 3 → ¬ (L (26 + 2 * x0.toNatClampNeg) 1).toInt = -1 → r52051.toInt = 0)) := hr52051.2
  refine lv_istore_n (lv' := [(3, .int r52051), (0, .ref (a 0)), (1, .int x0), (2, .int x1)]) hx hb dX11_refusalOfNumber_5 rfl hl (by decide) rfl (fun ls hl => ?_)
  refine lv_iload_n hx hb dX11_refusalOfNumber_6 rfl (lv_at hl 0 rfl) ?_
  refine lv_if_eq (tgt := 12) hx hb dX11_refusalOfNumber_7 (by decide) (fun c52053 => ?_) (fun c52053 => ?_)
  · have g52054 : Rg 0 3 x0 := (hr52051.2.1 c52053)
    have g52055 : Rg 0 0 r52051 := wk_eql hr52051.1 (by decide : Rg 0 0 (0 : Int32)) c52053 (by decide)
    refine lv_aload_n hx hb dX11_refusalOfNumber_12 rfl (lv_at hl 1 rfl) ?_
    refine va_get (D := D) (ci := 11) (v := .ref (a 25)) (C := RX11) (T := TX11) (N := 16) hx hb hts hin11 hown hK hP 0 rfl rfl 12 (by decide) (hts (.fieldLink RX11 75 "MissedPoints" "sheets" "[LMissedPoints$Sheet;") (by decide +kernel)) (fun _ h9 => h9) rfl dX11_refusalOfNumber_13 ?_
    refine lv_iload_n hx hb dX11_refusalOfNumber_16 rfl (lv_at hl 2 rfl) ?_
    obtain ⟨q52056, hq52056, eq52056, zq52056⟩ := ks_sh (a := a) g52054
    refine va_aldq hx hb hK hP 25 1 rfl rfl (rg_in g52054 (by decide) (by decide)) dX11_refusalOfNumber_17 ?_
    refine lz_va (y := .ref (a (26 + 2 * q52056))) (by show va_rf _ = _; rw [zq52056]; rfl) ?_
    have esq52056_1 : (L (26 + 2 * x0.toNatClampNeg) 1).toInt = (L (26 + 2 * q52056) 1).toInt := by rw [eq52056]
    have esq52056_2 : (L (26 + 2 * x0.toNatClampNeg) 2).toInt = (L (26 + 2 * q52056) 2).toInt := by rw [eq52056]
    refine lv_iload_n hx hb dX11_refusalOfNumber_18 rfl (lv_at hl 3 rfl) ?_
    refine lv_iconst (v := 1) hx hb dX11_refusalOfNumber_19 (by decide) ?_
    refine wk_sv (26 + 2 * q52056) (As := [.int x1, .int 1]) (rest := []) ⟨hx, hb, hml, hown, hts⟩ (k_X6_hasRange_z l D cI cS a na nc N L u hL hN q52056 hq52056 x1 (1 : Int32)) hKK hP (ci := 6) rfl (gx_sh hq52056) (cwV 2 hts gX11_refusalOfNumber_X6_hasRange rfl rfl rfl (by decide +kernel) ⟨Nat.le_of_ble_eq_true rfl, Nat.le_of_ble_eq_true rfl⟩) rfl hl.1 rfl (Nat.le_of_ble_eq_true rfl) dX11_refusalOfNumber_20 ⟨Nat.le_of_ble_eq_true rfl, Nat.le_of_ble_eq_true rfl⟩ (fun r52057 hr52057 => ?_)
    refine lv_if_eq (tgt := 30) hx hb dX11_refusalOfNumber_23 (by decide) (fun c52058 => ?_) (fun c52058 => ?_)
    · have zn52059 : ¬ (0 ≤ x1.toInt ∧ 0 ≤ (1 : Int32).toInt ∧ x1.toInt + (1 : Int32).toInt ≤ (L (26 + 2 * q52056) 2).toInt) := hr52057.2.2 c52058
      have g52060 : Rg 0 0 r52057 := wk_eql hr52057.1 (by decide : Rg 0 0 (0 : Int32)) c52058 (by decide)
      refine lv_bipush (v := (-12)) hx hb dX11_refusalOfNumber_30 (by decide) ?_
      exact W.iret (v := (-12)) hx hb hr (fun t ht hW => ⟨_, rfl, ⟨(by decide : Rg (-12) 0 ((-12) : Int32)), fun h9 => absurd h9 (by decide), (by have y90 : r52051.toInt = (0 : Int32).toInt := congrArg Int32.toInt c52053; have y91 : r52057.toInt = (0 : Int32).toInt := congrArg Int32.toInt c52058; have y92 : Rg 0 3 x0 := g52054; have y93 : Rg 0 0 r52051 := g52055; have y94 : Rg 0 0 r52057 := g52060; have y95 : Rg 0 3 x0 := g52054; have y96 : Rg 0 0 r52051 := g52055; have y9c7 : ((-12) : Int32).toInt = -12 := (by decide); have y9c8 : (0 : Int32).toInt = 0 := (by decide); have y9c9 : (1 : Int32).toInt = 1 := (by decide); skip; omega)⟩, ht⟩) (fun q hq => absurd hq List.not_mem_nil) dX11_refusalOfNumber_32
    · have g52061 : Rg 0 40 x1 := (hr52057.2.1 c52058).1
      have zn52062 : (0 ≤ x1.toInt ∧ 0 ≤ (1 : Int32).toInt ∧ x1.toInt + (1 : Int32).toInt ≤ (L (26 + 2 * q52056) 2).toInt) := hr52057.2.1 c52058
      have g52063 : Rg 1 1 r52057 := rg_ne_lo (k := 0) hr52057.1 (by decide) c52058 (by decide)
      refine lv_iconst (v := 0) hx hb dX11_refusalOfNumber_26 (by decide) ?_
      refine lv_goto (tgt := 32) hx hb dX11_refusalOfNumber_27 (by decide) ?_
      exact W.iret (v := 0) hx hb hr (fun t ht hW => ⟨_, rfl, ⟨(by decide : Rg (-12) 0 (0 : Int32)), fun _ => ⟨g52054, g52061⟩, (by have y90 : r52051.toInt = (0 : Int32).toInt := congrArg Int32.toInt c52053; have y91 : ¬ r52057.toInt = (0 : Int32).toInt := fun z => c52058 (Int32.toInt_inj.mp z); have y92 : Rg 0 3 x0 := g52054; have y93 : Rg 0 0 r52051 := g52055; have y94 : Rg 0 40 x1 := g52061; have y95 : Rg 1 1 r52057 := g52063; have y96 : Rg 0 3 x0 := g52054; have y97 : Rg 0 40 x1 := g52061; have y98 : Rg 0 0 r52051 := g52055; have y9c9 : (0 : Int32).toInt = 0 := (by decide); have y9c10 : (1 : Int32).toInt = 1 := (by decide); skip; omega)⟩, ht⟩) (fun q hq => absurd hq List.not_mem_nil) dX11_refusalOfNumber_32
  · have g52064 : Rg (-11) (-1) r52051 := rg_ne_hi (k := 0) hr52051.1 (by decide) c52053 (by decide)
    refine lv_iload_n hx hb dX11_refusalOfNumber_10 rfl (lv_at hl 0 rfl) ?_
    exact W.iret (v := r52051) hx hb hr (fun t ht hW => ⟨_, rfl, ⟨(show Rg (-12) 0 r52051 from rg_w g52064 (by decide) (by decide)), fun h9 => absurd h9 (wk_nz g52064 (by decide)), (by have y90 : ¬ r52051.toInt = (0 : Int32).toInt := fun z => c52053 (Int32.toInt_inj.mp z); have y91 : Rg (-11) (-1) r52051 := g52064; have y92 : Rg (-11) (-1) r52051 := g52064; have y93 : Rg (-11) (-1) r52051 := g52064; have y94 : Rg (-11) (-1) r52051 := g52064; have y9c5 : (0 : Int32).toInt = 0 := (by decide); have y9c6 : (1 : Int32).toInt = 1 := (by decide); skip; omega)⟩, ht⟩) (fun q hq => absurd hq List.not_mem_nil) dX11_refusalOfNumber_11
set_option maxHeartbeats 4000000 in
set_option maxRecDepth 100000 in
theorem k_X11_write_E (l : Launch) (D : va_G) (cI cS : ClassId) (sz : Nat) (a : Nat → Nat) (na nc N : Nat) (L u0 : SU) (hL : TyX L) (hN : N = 0 ∨ N = 24576) (x0 x1 x2 : Int32) : Met l yX11_write wsX11_write ({ frames := 3, cells := 0, slots := 0, locals := 120 }) (PQ D cI cS (wX cI cS a na nc N L u0) sz [.ref (a 0), .int x0, .int x1, .int x2]) (QF (S := SU) D (wX cI cS a na nc N L u0) (wX cI cS a na nc N L) sz (fun r _ => Rg (-12) 1 r ∧ ((x0.toInt < 0 ∨ 3 < x0.toInt → r.toInt = -2) ∧ (0 ≤ x0.toInt → x0.toInt ≤ 3 → (L (26 + 2 * x0.toNatClampNeg) 1).toInt = -1 → r.toInt = -11) ∧ (0 ≤ x0.toInt → x0.toInt ≤ 3 → ¬ (L (26 + 2 * x0.toNatClampNeg) 1).toInt = -1 → (x1.toInt < 0 ∨ (L (26 + 2 * x0.toNatClampNeg) 2).toInt ≤ x1.toInt) → r.toInt = -12) ∧ (0 ≤ x0.toInt → x0.toInt ≤ 3 → ¬ (L (26 + 2 * x0.toNatClampNeg) 1).toInt = -1 → 0 ≤ x1.toInt → x1.toInt < (L (26 + 2 * x0.toNatClampNeg) 2).toInt → r.toInt = 1)))) 0 0 (va_A (wX cI cS a na nc N L u0) sz) := by
  refine Met.ofW (cc := cX11_write) (maxL := 5) (ret := (some .int)) (by decide) rfl ?_
  intro p e s m args below meth c s₁ B hml hv
  obtain ⟨rfl, hsz, hP, hKK, hD0⟩ := hv
  have hx := B.exec
  have hb := B.bytes
  have hr := B.returns
  have hts := atoms_spec (ws := wsX11_write) B.pre
  have hown : s.vm.findClass RX11 = some m.cls := findClass_of_methodNamed B.named
  have hlocks := B.notSynchronized
  have hK := hKK.1
  have hin11 : ∀ w ∈ wsX110, w ∈ wsX11_write := by decide +kernel
  subst hsz
  have hD := hD0.self (sz := s.heap.size)
  obtain ⟨A, hAe⟩ : ∃ A, A = va_A (wX cI cS a na nc N L u0) s.heap.size := ⟨_, rfl⟩
  rw [← hAe] at hD
  have hA : ∀ q : Nat, s.heap.size ≤ q → A q := fun q h => by rw [hAe]; exact Or.inr h
  have hS : va_S A s.heap s.heap [] := va_S.rf
  have hl := lv_entry ([.ref (a 0), .int x0, .int x1, .int x2]) (n := 5) (Nat.le_of_ble_eq_true rfl)
  rw [lg_entry_eq]
  generalize (lg_sl ([.ref (a 0), .int x0, .int x1, .int x2]) ++ List.replicate (5 - (lg_sl ([.ref (a 0), .int x0, .int x1, .int x2])).length) Slot.unset).toArray = ls at hl ⊢
  have hl : lv_has ls 5 [(0, .ref (a 0)), (1, .int x0), (2, .int x1), (3, .int x2)] := hl
  obtain ⟨u, hu9⟩ : ∃ u : SU, u = u0 := ⟨_, rfl⟩
  rw [← hu9] at hP hD
  refine lv_aload_n hx hb dX11_write_0 rfl (lv_at hl 0 rfl) ?_
  refine lv_iload_n hx hb dX11_write_1 rfl (lv_at hl 1 rfl) ?_
  refine lv_iload_n hx hb dX11_write_2 rfl (lv_at hl 2 rfl) ?_
  refine wk_sv 0 (As := [.int x0, .int x1]) (rest := []) ⟨hx, hb, hml, hown, hts⟩ (k_X11_refusalOfNumber_E l D cI cS a na nc N L u hL hN x0 x1) hKK hP (ci := 11) rfl rfl (cwV 2 hts gX11_write_X11_refusalOfNumber rfl rfl rfl (by decide +kernel) ⟨Nat.le_of_ble_eq_true rfl, Nat.le_of_ble_eq_true rfl⟩) rfl hl.1 rfl (Nat.le_of_ble_eq_true rfl) dX11_write_3 ⟨Nat.le_of_ble_eq_true rfl, Nat.le_of_ble_eq_true rfl⟩ (fun r52074 hr52074 => ?_)
  have wq52075 : ((x0.toInt < 0 ∨ 3 < x0.toInt → r52074.toInt = -2) ∧ (0 ≤ x0.toInt → x0.toInt ≤ 3 → (L (26 + 2 * x0.toNatClampNeg) 1).toInt = -1 → r52074.toInt = -11) ∧ (0 ≤ x0.toInt → x0.toInt ≤ 3 → ¬ (L (26 + 2 * x0.toNatClampNeg) 1).toInt = -1 → (x1.toInt < 0 ∨ (L (26 + 2 * x0.toNatClampNeg) 2).toInt ≤ x1.toInt) → r52074.toInt = -12) ∧ (0 ≤ x0.toInt → x0.toInt ≤ 3 → ¬ (L (26 + 2 * x0.toNatClampNeg) 1).toInt = -1 → 0 ≤ x1.toInt → x1.toInt < (L (26 + 2 * x0.toNatClampNeg) 2).toInt → r52074.toInt = 0)) := hr52074.2
  refine lv_istore (lv' := [(4, .int r52074), (0, .ref (a 0)), (1, .int x0), (2, .int x1), (3, .int x2)]) hx hb dX11_write_6 hl (by decide) rfl (fun ls hl => ?_)
  refine lv_iload hx hb dX11_write_8 (lv_at hl 0 rfl) ?_
  refine lv_if_eq (tgt := 16) hx hb dX11_write_10 (by decide) (fun c52076 => ?_) (fun c52076 => ?_)
  · have g52077 : Rg 0 3 x0 := (hr52074.2.1 c52076).1
    have g52078 : Rg 0 40 x1 := (hr52074.2.1 c52076).2
    have g52079 : Rg 0 0 r52074 := wk_eql hr52074.1 (by decide : Rg 0 0 (0 : Int32)) c52076 (by decide)
    refine lv_aload_n hx hb dX11_write_16 rfl (lv_at hl 1 rfl) ?_
    refine va_get (D := D) (ci := 11) (v := .ref (a 25)) (C := RX11) (T := TX11) (N := 16) hx hb hts hin11 hown hK hP 0 rfl rfl 12 (by decide) (hts (.fieldLink RX11 75 "MissedPoints" "sheets" "[LMissedPoints$Sheet;") (by decide +kernel)) (fun _ h9 => h9) rfl dX11_write_17 ?_
    refine lv_iload_n hx hb dX11_write_20 rfl (lv_at hl 2 rfl) ?_
    obtain ⟨q52080, hq52080, eq52080, zq52080⟩ := ks_sh (a := a) g52077
    refine va_aldq hx hb hK hP 25 1 rfl rfl (rg_in g52077 (by decide) (by decide)) dX11_write_21 ?_
    refine lz_va (y := .ref (a (26 + 2 * q52080))) (by show va_rf _ = _; rw [zq52080]; rfl) ?_
    have esq52080_1 : (L (26 + 2 * x0.toNatClampNeg) 1).toInt = (L (26 + 2 * q52080) 1).toInt := by rw [eq52080]
    have esq52080_2 : (L (26 + 2 * x0.toNatClampNeg) 2).toInt = (L (26 + 2 * q52080) 2).toInt := by rw [eq52080]
    refine lv_iload_n hx hb dX11_write_22 rfl (lv_at hl 3 rfl) ?_
    refine lv_iload_n hx hb dX11_write_23 rfl (lv_at hl 4 rfl) ?_
    refine wk_qv (wX cI cS a na nc N L) u (As := [.int x1, .int x2]) (rest := []) ⟨hx, hb, hml, hown, hts⟩ (k_X6_store l D cI cS _ a na nc N L u hL hN q52080 hq52080 x1 x2) hKK hP hD hS hA (26 + 2 * q52080) (ci := 6) rfl (gx_sh hq52080) (cwV 2 hts gX11_write_X6_store rfl rfl rfl (by decide +kernel) ⟨Nat.le_of_ble_eq_true rfl, Nat.le_of_ble_eq_true rfl⟩) rfl hl.1 rfl (Nat.le_of_ble_eq_true rfl) dX11_write_24 ⟨Nat.le_of_ble_eq_true rfl, Nat.le_of_ble_eq_true rfl⟩ (fun u H locs hr52081 hP hD hS => ?_)
    refine lv_iconst (v := 1) hx hb dX11_write_27 (by decide) ?_
    subst hAe
    exact W.iret (v := 1) hx hb hr (fun t ht hW => ⟨⟨_, u, rfl, ⟨(by decide : Rg (-12) 1 (1 : Int32)), (by have y90 : r52074.toInt = (0 : Int32).toInt := congrArg Int32.toInt c52076; have y91 : Rg 0 3 x0 := g52077; have y92 : Rg 0 40 x1 := g52078; have y93 : Rg 0 0 r52074 := g52079; have y94 : Rg 0 3 x0 := g52077; have y95 : Rg 0 40 x1 := g52078; have y96 : Rg 0 0 r52074 := g52079; have y9c7 : (0 : Int32).toInt = 0 := (by decide); have y9c8 : (1 : Int32).toInt = 1 := (by decide); skip; omega)⟩, by rw [ht]; exact hP, hD⟩, hS.F ht⟩) hS.2.2 dX11_write_28
  · have g52082 : Rg (-12) (-1) r52074 := rg_ne_hi (k := 0) hr52074.1 (by decide) c52076 (by decide)
    refine lv_iload hx hb dX11_write_13 (lv_at hl 0 rfl) ?_
    subst hAe
    exact W.iret (v := r52074) hx hb hr (fun t ht hW => ⟨⟨_, u, rfl, ⟨(show Rg (-12) 1 r52074 from rg_w g52082 (by decide) (by decide)), (by have y90 : ¬ r52074.toInt = (0 : Int32).toInt := fun z => c52076 (Int32.toInt_inj.mp z); have y91 : Rg (-12) (-1) r52074 := g52082; have y92 : Rg (-12) (-1) r52074 := g52082; have y93 : Rg (-12) (-1) r52074 := g52082; have y94 : Rg (-12) (-1) r52074 := g52082; have y9c5 : (0 : Int32).toInt = 0 := (by decide); have y9c6 : (1 : Int32).toInt = 1 := (by decide); skip; omega)⟩, by rw [ht]; exact hP, hD⟩, hS.F ht⟩) hS.2.2 dX11_write_15
