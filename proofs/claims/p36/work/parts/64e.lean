
theorem Sym.like {k : Nat} {f g : Nat → Int32} (e : Like k f g) (h : Sym k g) : Sym k f := fun a b ha hb => by rw [e a ha, e b hb]; exact h a b ha hb
/-- what times answers, from any z -/
def tmX (x0 x1 x2 x3 z : Int32) : Int32 := if x0 < 1 then -2 else if 20 < x0 then -2 else if x1 < 0 then -2 else if 12 < x1 then -2 else if x2 < 0 then -2 else if 10 < x2 then -2 else if x3 < 0 then -2 else if 12 < x3 then -2 else (tmC x1.toNatClampNeg x2 x3 z x0.toNatClampNeg).1
theorem tmX_in {x0 x1 x2 x3 z : Int32} (h : 1 ≤ x0.toInt ∧ x0.toInt ≤ 20 ∧ 0 ≤ x1.toInt ∧ x1.toInt ≤ 12 ∧ 0 ≤ x2.toInt ∧ x2.toInt ≤ 10 ∧ 0 ≤ x3.toInt ∧ x3.toInt ≤ 12) : tmX x0 x1 x2 x3 z = (tmC x1.toNatClampNeg x2 x3 z x0.toNatClampNeg).1 := by
  have e0 : (0 : Int32).toInt = 0 := by decide
  have e1 : (1 : Int32).toInt = 1 := by decide
  have e2 : (20 : Int32).toInt = 20 := by decide
  have e3 : (12 : Int32).toInt = 12 := by decide
  have e4 : (10 : Int32).toInt = 10 := by decide
  unfold tmX
  rw [if_neg (fun w => by have z := (lz_lt _ _).mp w; omega), if_neg (fun w => by have z := (lz_lt _ _).mp w; omega), if_neg (fun w => by have z := (lz_lt _ _).mp w; omega), if_neg (fun w => by have z := (lz_lt _ _).mp w; omega), if_neg (fun w => by have z := (lz_lt _ _).mp w; omega), if_neg (fun w => by have z := (lz_lt _ _).mp w; omega), if_neg (fun w => by have z := (lz_lt _ _).mp w; omega), if_neg (fun w => by have z := (lz_lt _ _).mp w; omega)]
theorem tmX_out {x0 x1 x2 x3 z : Int32} (h : ¬ (1 ≤ x0.toInt ∧ x0.toInt ≤ 20 ∧ 0 ≤ x1.toInt ∧ x1.toInt ≤ 12 ∧ 0 ≤ x2.toInt ∧ x2.toInt ≤ 10 ∧ 0 ≤ x3.toInt ∧ x3.toInt ≤ 12)) : tmX x0 x1 x2 x3 z = -2 := by
  have e0 : (0 : Int32).toInt = 0 := by decide
  have e1 : (1 : Int32).toInt = 1 := by decide
  have e2 : (20 : Int32).toInt = 20 := by decide
  have e3 : (12 : Int32).toInt = 12 := by decide
  have e4 : (10 : Int32).toInt = 10 := by decide
  unfold tmX
  split
  · rfl
  rename_i h1
  split
  · rfl
  rename_i h2
  split
  · rfl
  rename_i h3
  split
  · rfl
  rename_i h4
  split
  · rfl
  rename_i h5
  split
  · rfl
  rename_i h6
  split
  · rfl
  rename_i h7
  split
  · rfl
  rename_i h8
  have k1 := mt (lz_lt _ _).mpr h1
  have k2 := mt (lz_lt _ _).mpr h2
  have k3 := mt (lz_lt _ _).mpr h3
  have k4 := mt (lz_lt _ _).mpr h4
  have k5 := mt (lz_lt _ _).mpr h5
  have k6 := mt (lz_lt _ _).mpr h6
  have k7 := mt (lz_lt _ _).mpr h7
  have k8 := mt (lz_lt _ _).mpr h8
  exact absurd (show 1 ≤ x0.toInt ∧ x0.toInt ≤ 20 ∧ 0 ≤ x1.toInt ∧ x1.toInt ≤ 12 ∧ 0 ≤ x2.toInt ∧ x2.toInt ≤ 10 ∧ 0 ≤ x3.toInt ∧ x3.toInt ≤ 12 from by omega) h
set_option maxHeartbeats 4000000 in
set_option maxRecDepth 100000 in
theorem c_X2_hasPoint_1 (l : Launch) (D : va_G) (cI cS : ClassId) (h0 h1 : Nat) (x0 x1 x2 : Int32) : Met l yX2_hasPoint wsX2_hasPoint ({ frames := 0, cells := 0, slots := 0, locals := 0 }) (PS D cI cS [(h0, .inr (2, [.ref h1, .int x1, .int x2]))] [.ref h0, .int x0]) (vp_Si (fun r => r = if x0 < 0 then (0 : Int32) else (if x1 ≤ x0 then (0 : Int32) else (1 : Int32)))) 0 0 (fun _ => False) := by
  refine Met.ofW (cc := cX2_hasPoint) (maxL := 2) (ret := (some .boolean)) (by decide) rfl ?_
  intro p e s m args below meth c s₁ B hml hv
  obtain ⟨rfl, hP, hKK⟩ := hv
  have hx := B.exec
  have hb := B.bytes
  have hr := B.returns
  have hts := atoms_spec (ws := wsX2_hasPoint) B.pre
  have hown : s.vm.findClass RX2 = some m.cls := findClass_of_methodNamed B.named
  have hlocks := B.notSynchronized
  have hK := hKK.1
  have hN := hKK.2
  have hin2 : ∀ w ∈ wsX20, w ∈ wsX2_hasPoint := by decide +kernel
  have hl := lv_entry ([.ref h0, .int x0]) (n := 2) (Nat.le_of_ble_eq_true rfl)
  rw [lg_entry_eq]
  generalize (lg_sl ([.ref h0, .int x0]) ++ List.replicate (2 - (lg_sl ([.ref h0, .int x0])).length) Slot.unset).toArray = ls at hl ⊢
  have hl : lv_has ls 2 [(0, .ref h0), (1, .int x0)] := hl
  refine lv_iload_n hx hb dX2_hasPoint_0 rfl (lv_at hl 1 rfl) ?_
  refine lv_if_lt (tgt := 16) hx hb dX2_hasPoint_1 (by decide) (fun c5016 => ?_) (fun c5016 => ?_)
  · refine lv_iconst (v := 0) hx hb dX2_hasPoint_16 (by decide) ?_
    exact W.zret (v := 0) hx hb hr (by decide) (fun t ht hW => ⟨_, rfl, by rw [if_pos c5016], ht⟩) (fun q hq => absurd hq List.not_mem_nil) dX2_hasPoint_17
  · refine lv_iload_n hx hb dX2_hasPoint_4 rfl (lv_at hl 1 rfl) ?_
    refine lv_aload_n hx hb dX2_hasPoint_5 rfl (lv_at hl 0 rfl) ?_
    refine va_get (D := D) (ci := 2) (v := .int x1) (C := RX2) (T := TX2) (N := 3) hx hb hts hin2 hown hK hP 0 rfl rfl 1 (by decide) (hts (.fieldLink RX2 15 "MissedPoints$Net" "size" "I") (by decide +kernel)) (fun _ h9 => h9) rfl dX2_hasPoint_6 ?_
    refine lv_icmp_ge (tgt := 16) hx hb dX2_hasPoint_9 (by decide) (fun c5017 => ?_) (fun c5017 => ?_)
    · refine lv_iconst (v := 0) hx hb dX2_hasPoint_16 (by decide) ?_
      exact W.zret (v := 0) hx hb hr (by decide) (fun t ht hW => ⟨_, rfl, by rw [if_neg c5016, if_pos c5017], ht⟩) (fun q hq => absurd hq List.not_mem_nil) dX2_hasPoint_17
    · refine lv_iconst (v := 1) hx hb dX2_hasPoint_12 (by decide) ?_
      refine lv_goto (tgt := 17) hx hb dX2_hasPoint_13 (by decide) ?_
      exact W.zret (v := 1) hx hb hr (by decide) (fun t ht hW => ⟨_, rfl, by rw [if_neg c5016, if_neg c5017], ht⟩) (fun q hq => absurd hq List.not_mem_nil) dX2_hasPoint_17
set_option maxHeartbeats 4000000 in
set_option maxRecDepth 100000 in
theorem c_X2_areTwo_1 (l : Launch) (D : va_G) (cI cS : ClassId) (h0 h1 : Nat) (x0 x1 x2 x3 : Int32) : Met l yX2_areTwo wsX2_areTwo ({ frames := 1, cells := 0, slots := 0, locals := 40 }) (PS D cI cS [(h0, .inr (2, [.ref h1, .int x2, .int x3]))] [.ref h0, .int x0, .int x1]) (vp_Si (fun r => r = if x0 < 0 then (0 : Int32) else (if x2 ≤ x0 then (0 : Int32) else (if x1 < 0 then (0 : Int32) else (if x2 ≤ x1 then (0 : Int32) else (if x0 = x1 then (0 : Int32) else (1 : Int32))))))) 0 0 (fun _ => False) := by
  refine Met.ofW (cc := cX2_areTwo) (maxL := 3) (ret := (some .boolean)) (by decide) rfl ?_
  intro p e s m args below meth c s₁ B hml hv
  obtain ⟨rfl, hP, hKK⟩ := hv
  have hx := B.exec
  have hb := B.bytes
  have hr := B.returns
  have hts := atoms_spec (ws := wsX2_areTwo) B.pre
  have hown : s.vm.findClass RX2 = some m.cls := findClass_of_methodNamed B.named
  have hlocks := B.notSynchronized
  have hK := hKK.1
  have hN := hKK.2
  have hl := lv_entry ([.ref h0, .int x0, .int x1]) (n := 3) (Nat.le_of_ble_eq_true rfl)
  rw [lg_entry_eq]
  generalize (lg_sl ([.ref h0, .int x0, .int x1]) ++ List.replicate (3 - (lg_sl ([.ref h0, .int x0, .int x1])).length) Slot.unset).toArray = ls at hl ⊢
  have hl : lv_has ls 3 [(0, .ref h0), (1, .int x0), (2, .int x1)] := hl
  refine lv_aload_n hx hb dX2_areTwo_0 rfl (lv_at hl 0 rfl) ?_
  refine lv_iload_n hx hb dX2_areTwo_1 rfl (lv_at hl 1 rfl) ?_
  have hPc := hP.sub (ws' := [(h0, .inr (2, [.ref h1, .int x2, .int x3]))]) [0] rfl
  refine lz_sv (As := [.int x0]) (rest := []) ⟨hx, hb, hml, hown, hts⟩ (c_X2_hasPoint_1 l D cI cS h0 h1 x0 x2 x3) hKK hPc (ci := 2) rfl rfl (cwV 1 hts gX2_areTwo_X2_hasPoint rfl rfl rfl (by decide +kernel) ⟨Nat.le_of_ble_eq_true rfl, Nat.le_of_ble_eq_true rfl⟩) rfl hl.1 rfl (Nat.le_of_ble_eq_true rfl) dX2_areTwo_2 ⟨Nat.le_of_ble_eq_true rfl, Nat.le_of_ble_eq_true rfl⟩ (fun r5031 hw => ?_)
  by_cases k5032 : x0 < 0
  · rw [if_pos k5032] at hw
    subst hw
    refine lv_if_eq (tgt := 25) hx hb dX2_areTwo_5 (by decide) (fun c5033 => ?_) (fun c5033 => ?_)
    · refine lv_iconst (v := 0) hx hb dX2_areTwo_25 (by decide) ?_
      exact W.zret (v := 0) hx hb hr (by decide) (fun t ht hW => ⟨_, rfl, by rw [if_pos k5032], ht⟩) (fun q hq => absurd hq List.not_mem_nil) dX2_areTwo_26
    · exact absurd c5033 (by decide)
  · rw [if_neg k5032] at hw
    by_cases k5034 : x2 ≤ x0
    · rw [if_pos k5034] at hw
      subst hw
      refine lv_if_eq (tgt := 25) hx hb dX2_areTwo_5 (by decide) (fun c5035 => ?_) (fun c5035 => ?_)
      · refine lv_iconst (v := 0) hx hb dX2_areTwo_25 (by decide) ?_
        exact W.zret (v := 0) hx hb hr (by decide) (fun t ht hW => ⟨_, rfl, by rw [if_neg k5032, if_pos k5034], ht⟩) (fun q hq => absurd hq List.not_mem_nil) dX2_areTwo_26
      · exact absurd c5035 (by decide)
    · rw [if_neg k5034] at hw
      subst hw
      refine lv_if_eq (tgt := 25) hx hb dX2_areTwo_5 (by decide) (fun c5036 => ?_) (fun c5036 => ?_)
      · exact absurd c5036 (by decide)
      · refine lv_aload_n hx hb dX2_areTwo_8 rfl (lv_at hl 0 rfl) ?_
        refine lv_iload_n hx hb dX2_areTwo_9 rfl (lv_at hl 2 rfl) ?_
        have hPc := hP.sub (ws' := [(h0, .inr (2, [.ref h1, .int x2, .int x3]))]) [0] rfl
        refine lz_sv (As := [.int x1]) (rest := []) ⟨hx, hb, hml, hown, hts⟩ (c_X2_hasPoint_1 l D cI cS h0 h1 x1 x2 x3) hKK hPc (ci := 2) rfl rfl (cwV 1 hts gX2_areTwo_X2_hasPoint rfl rfl rfl (by decide +kernel) ⟨Nat.le_of_ble_eq_true rfl, Nat.le_of_ble_eq_true rfl⟩) rfl hl.1 rfl (Nat.le_of_ble_eq_true rfl) dX2_areTwo_10 ⟨Nat.le_of_ble_eq_true rfl, Nat.le_of_ble_eq_true rfl⟩ (fun r5037 hw => ?_)
        by_cases k5038 : x1 < 0
        · rw [if_pos k5038] at hw
          subst hw
          refine lv_if_eq (tgt := 25) hx hb dX2_areTwo_13 (by decide) (fun c5039 => ?_) (fun c5039 => ?_)
          · refine lv_iconst (v := 0) hx hb dX2_areTwo_25 (by decide) ?_
            exact W.zret (v := 0) hx hb hr (by decide) (fun t ht hW => ⟨_, rfl, by rw [if_neg k5032, if_neg k5034, if_pos k5038], ht⟩) (fun q hq => absurd hq List.not_mem_nil) dX2_areTwo_26
          · exact absurd c5039 (by decide)
        · rw [if_neg k5038] at hw
          by_cases k5040 : x2 ≤ x1
          · rw [if_pos k5040] at hw
            subst hw
            refine lv_if_eq (tgt := 25) hx hb dX2_areTwo_13 (by decide) (fun c5041 => ?_) (fun c5041 => ?_)
            · refine lv_iconst (v := 0) hx hb dX2_areTwo_25 (by decide) ?_
              exact W.zret (v := 0) hx hb hr (by decide) (fun t ht hW => ⟨_, rfl, by rw [if_neg k5032, if_neg k5034, if_neg k5038, if_pos k5040], ht⟩) (fun q hq => absurd hq List.not_mem_nil) dX2_areTwo_26
            · exact absurd c5041 (by decide)
          · rw [if_neg k5040] at hw
            subst hw
            refine lv_if_eq (tgt := 25) hx hb dX2_areTwo_13 (by decide) (fun c5042 => ?_) (fun c5042 => ?_)
            · exact absurd c5042 (by decide)
            · refine lv_iload_n hx hb dX2_areTwo_16 rfl (lv_at hl 1 rfl) ?_
              refine lv_iload_n hx hb dX2_areTwo_17 rfl (lv_at hl 2 rfl) ?_
              refine lv_icmp_eq (tgt := 25) hx hb dX2_areTwo_18 (by decide) (fun c5043 => ?_) (fun c5043 => ?_)
              · refine lv_iconst (v := 0) hx hb dX2_areTwo_25 (by decide) ?_
                exact W.zret (v := 0) hx hb hr (by decide) (fun t ht hW => ⟨_, rfl, by rw [if_neg k5032, if_neg k5034, if_neg k5038, if_neg k5040, if_pos c5043], ht⟩) (fun q hq => absurd hq List.not_mem_nil) dX2_areTwo_26
              · refine lv_iconst (v := 1) hx hb dX2_areTwo_21 (by decide) ?_
                refine lv_goto (tgt := 26) hx hb dX2_areTwo_22 (by decide) ?_
                exact W.zret (v := 1) hx hb hr (by decide) (fun t ht hW => ⟨_, rfl, by rw [if_neg k5032, if_neg k5034, if_neg k5038, if_neg k5040, if_neg c5043], ht⟩) (fun q hq => absurd hq List.not_mem_nil) dX2_areTwo_26
set_option maxHeartbeats 4000000 in
set_option maxRecDepth 100000 in
theorem c_X0_draw_0 (l : Launch) (D : va_G) (cI cS : ClassId) (sz : Nat) (h0 : Nat) (x0 : Int32) : Met l yX0_draw wsX0_draw ({ frames := 0, cells := 0, slots := 0, locals := 0 }) (PQ D cI cS [(h0, .inr (0, [.int x0]))] sz [.ref h0]) (QI D [(h0, .inr (0, [.int x0]))] [(h0, .inr (0, [.int ((x0 * (1103515245 : Int32)) + (12345 : Int32))]))] sz (fun r => r = (Int32.toUInt32 ((x0 * (1103515245 : Int32)) + (12345 : Int32)) >>> (Int32.toUInt32 16 &&& Int32.toUInt32 31)).toInt32)) 0 0 (va_A [(h0, .inr (0, [.int x0]))] sz) := by
  refine Met.ofW (cc := cX0_draw) (maxL := 1) (ret := (some .int)) (by decide) rfl ?_
  intro p e s m args below meth c s₁ B hml hv
  obtain ⟨rfl, hsz, hP, hKK, hD0⟩ := hv
  have hx := B.exec
  have hb := B.bytes
  have hr := B.returns
  have hts := atoms_spec (ws := wsX0_draw) B.pre
  have hown : s.vm.findClass RX0 = some m.cls := findClass_of_methodNamed B.named
  have hlocks := B.notSynchronized
  have hK := hKK.1
  have hN := hKK.2
  have hin0 : ∀ w ∈ wsX00, w ∈ wsX0_draw := by decide +kernel
  subst hsz
  have hD := hD0.self (sz := s.heap.size)
  obtain ⟨A, hAe⟩ : ∃ A, A = va_A [(h0, .inr (0, [.int x0]))] s.heap.size := ⟨_, rfl⟩
  rw [← hAe] at hD
  have hA : ∀ q : Nat, s.heap.size ≤ q → A q := fun q h => by rw [hAe]; exact Or.inr h
  have hS : va_S A s.heap s.heap [] := va_S.rf
  have hl := lv_entry ([.ref h0]) (n := 1) (Nat.le_of_ble_eq_true rfl)
  rw [lg_entry_eq]
  generalize (lg_sl ([.ref h0]) ++ List.replicate (1 - (lg_sl ([.ref h0])).length) Slot.unset).toArray = ls at hl ⊢
  have hl : lv_has ls 1 [(0, .ref h0)] := hl
  refine lv_aload_n hx hb dX0_draw_0 rfl (lv_at hl 0 rfl) ?_
  refine lv_aload_n hx hb dX0_draw_1 rfl (lv_at hl 0 rfl) ?_
  refine va_get (D := D) (ci := 0) (v := .int x0) (C := RX0) (T := TX0) (N := 1) hx hb hts hin0 hown hK hP 0 rfl rfl 0 (by decide) (hts (.fieldLink RX0 7 "MissedPoints$Draws" "z" "I") (by decide +kernel)) (fun _ h9 => h9) rfl dX0_draw_2 ?_
  refine lv_ldc hx hb hown (hts (.constant RX0 13 (1103515245)) (by decide +kernel)) dX0_draw_5 ?_
  refine lv_imul hx hb dX0_draw_7 ?_
  refine lv_sipush (v := 12345) hx hb dX0_draw_8 (by decide) ?_
  refine lv_iadd hx hb dX0_draw_11 ?_
  refine va_put (D := D) (ci := 0) (v := .int ((x0 * (1103515245 : Int32)) + (12345 : Int32))) (ty := .int) (C := RX0) (T := TX0) (N := 1) hx hb hts hin0 tyX0 tyX0_ok nmX0 hown hK hP hD hS 0 rfl rfl 0 (by decide) (hts (.fieldLink RX0 7 "MissedPoints$Draws" "z" "I") (by decide +kernel)) (fun _ h9 => h9) rfl (by decide +kernel) rfl rfl (Nat.le_of_ble_eq_true rfl) dX0_draw_12 (fun H locs hP hD hS => ?_)
  have hP : va_P D cls [(h0, .inr (0, [.int ((x0 * (1103515245 : Int32)) + (12345 : Int32))]))] H := hP
  have hD : va_D A [(h0, .inr (0, [.int ((x0 * (1103515245 : Int32)) + (12345 : Int32))]))] := hD
  refine lv_aload_n hx hb dX0_draw_15 rfl (lv_at hl 0 rfl) ?_
  refine va_get (D := D) (ci := 0) (v := .int ((x0 * (1103515245 : Int32)) + (12345 : Int32))) (C := RX0) (T := TX0) (N := 1) hx hb hts hin0 hown hK hP 0 rfl rfl 0 (by decide) (hts (.fieldLink RX0 7 "MissedPoints$Draws" "z" "I") (by decide +kernel)) (fun _ h9 => h9) rfl dX0_draw_16 ?_
  refine lv_bipush (v := 16) hx hb dX0_draw_19 (by decide) ?_
  refine lv_iushr (v := (Int32.toUInt32 ((x0 * (1103515245 : Int32)) + (12345 : Int32)) >>> (Int32.toUInt32 16 &&& Int32.toUInt32 31)).toInt32) hx hb dX0_draw_21 rfl ?_
  have hP9 := hP.sub (ws' := [(h0, .inr (0, [.int ((x0 * (1103515245 : Int32)) + (12345 : Int32))]))]) [0] rfl
  have hD9 := hD.sub (ws' := [(h0, .inr (0, [.int ((x0 * (1103515245 : Int32)) + (12345 : Int32))]))]) [0] (by decide) rfl
  subst hAe
  exact W.iret (v := (Int32.toUInt32 ((x0 * (1103515245 : Int32)) + (12345 : Int32)) >>> (Int32.toUInt32 16 &&& Int32.toUInt32 31)).toInt32) hx hb hr (fun t ht hW => ⟨⟨_, (), rfl, rfl, by rw [ht]; exact hP9, hD9⟩, hS.F ht⟩) hS.2.2 dX0_draw_22
set_option maxHeartbeats 4000000 in
set_option maxRecDepth 100000 in
theorem c_X2_empty_0 (l : Launch) (D : va_G) (cI cS : ClassId) (sz : Nat) (h0 h1 : Nat) (f0 : Nat → Int32) (x0 x1 : Int32) : Met l yX2_empty wsX2_empty ({ frames := 0, cells := 0, slots := 0, locals := 0 }) (PQ D cI cS [(h0, .inr (2, [.ref h1, .int x0, .int x1])), (h1, .inl (cI, 12, .inl f0))] sz [.ref h0]) (QV D [(h0, .inr (2, [.ref h1, .int x0, .int x1])), (h1, .inl (cI, 12, .inl f0))] [(h0, .inr (2, [.ref h1, .int 0, .int (x1 + (1 : Int32))])), (h1, .inl (cI, 12, .inl (upd (upd (upd (upd (upd (upd (upd (upd (upd (upd (upd (upd f0 0 0) 1 0) 2 0) 3 0) 4 0) 5 0) 6 0) 7 0) 8 0) 9 0) 10 0) 11 0)))] sz) 0 0 (va_A [(h0, .inr (2, [.ref h1, .int x0, .int x1])), (h1, .inl (cI, 12, .inl f0))] sz) := by
  refine Met.ofW (cc := cX2_empty) (maxL := 2) (ret := none) (by decide) rfl ?_
  intro p e s m args below meth c s₁ B hml hv
  obtain ⟨rfl, hsz, hP, hKK, hD0⟩ := hv
  have hx := B.exec
  have hb := B.bytes
  have hr := B.returns
  have hts := atoms_spec (ws := wsX2_empty) B.pre
  have hown : s.vm.findClass RX2 = some m.cls := findClass_of_methodNamed B.named
  have hlocks := B.notSynchronized
  have hK := hKK.1
  have hN := hKK.2
  have hin2 : ∀ w ∈ wsX20, w ∈ wsX2_empty := by decide +kernel
  subst hsz
  have hD := hD0.self (sz := s.heap.size)
  obtain ⟨A, hAe⟩ : ∃ A, A = va_A [(h0, .inr (2, [.ref h1, .int x0, .int x1])), (h1, .inl (cI, 12, .inl f0))] s.heap.size := ⟨_, rfl⟩
  rw [← hAe] at hD
  have hA : ∀ q : Nat, s.heap.size ≤ q → A q := fun q h => by rw [hAe]; exact Or.inr h
  have hS : va_S A s.heap s.heap [] := va_S.rf
  have hl := lv_entry ([.ref h0]) (n := 2) (Nat.le_of_ble_eq_true rfl)
  rw [lg_entry_eq]
  generalize (lg_sl ([.ref h0]) ++ List.replicate (2 - (lg_sl ([.ref h0])).length) Slot.unset).toArray = ls at hl ⊢
  have hl : lv_has ls 2 [(0, .ref h0)] := hl
  refine lv_iconst (v := 0) hx hb dX2_empty_0 (by decide) ?_
  refine lv_istore_n (lv' := [(1, .int 0), (0, .ref h0)]) hx hb dX2_empty_1 rfl hl (by decide) rfl (fun ls hl => ?_)
  refine lv_iload_n hx hb dX2_empty_2 rfl (lv_at hl 0 rfl) ?_
  refine lv_bipush (v := 12) hx hb dX2_empty_3 (by decide) ?_
  refine lv_icmp_ge (tgt := 21) hx hb dX2_empty_5 (by decide) (fun c5066 => ?_) (fun c5066 => ?_)
  · exact absurd c5066 (by decide)
  · refine lv_aload_n hx hb dX2_empty_8 rfl (lv_at hl 1 rfl) ?_
    refine va_get (D := D) (ci := 2) (v := .ref h1) (C := RX2) (T := TX2) (N := 3) hx hb hts hin2 hown hK hP 0 rfl rfl 0 (by decide) (hts (.fieldLink RX2 9 "MissedPoints$Net" "links" "[I") (by decide +kernel)) (fun _ h9 => h9) rfl dX2_empty_9 ?_
    refine lv_iload_n hx hb dX2_empty_12 rfl (lv_at hl 0 rfl) ?_
    refine lv_iconst (v := 0) hx hb dX2_empty_13 (by decide) ?_
    refine va_iast hx hb hK hP hD hS 1 0 rfl rfl (lz_vp (x := 0) (n := 12) (by decide) (by decide)) dX2_empty_14 (fun H locs hP hD hS => ?_)
    have hP : va_P D cls [(h0, .inr (2, [.ref h1, .int x0, .int x1])), (h1, .inl (cI, 12, .inl (upd f0 0 0)))] H := hP
    have hD : va_D A [(h0, .inr (2, [.ref h1, .int x0, .int x1])), (h1, .inl (cI, 12, .inl (upd f0 0 0)))] := hD
    refine lv_iinc (v := 1) (lv' := [(1, .int 1), (0, .ref h0)]) hx hb dX2_empty_15 hl (k := 0) rfl (by decide) (by decide) rfl (fun ls hl => ?_)
    refine lv_goto (tgt := 2) hx hb dX2_empty_18 (by decide) ?_
    refine lv_iload_n hx hb dX2_empty_2 rfl (lv_at hl 0 rfl) ?_
    refine lv_bipush (v := 12) hx hb dX2_empty_3 (by decide) ?_
    refine lv_icmp_ge (tgt := 21) hx hb dX2_empty_5 (by decide) (fun c5067 => ?_) (fun c5067 => ?_)
    · exact absurd c5067 (by decide)
    · refine lv_aload_n hx hb dX2_empty_8 rfl (lv_at hl 1 rfl) ?_
      refine va_get (D := D) (ci := 2) (v := .ref h1) (C := RX2) (T := TX2) (N := 3) hx hb hts hin2 hown hK hP 0 rfl rfl 0 (by decide) (hts (.fieldLink RX2 9 "MissedPoints$Net" "links" "[I") (by decide +kernel)) (fun _ h9 => h9) rfl dX2_empty_9 ?_
      refine lv_iload_n hx hb dX2_empty_12 rfl (lv_at hl 0 rfl) ?_
      refine lv_iconst (v := 0) hx hb dX2_empty_13 (by decide) ?_
      refine va_iast hx hb hK hP hD hS 1 0 rfl rfl (lz_vp (x := 1) (n := 12) (by decide) (by decide)) dX2_empty_14 (fun H locs hP hD hS => ?_)
      have hP : va_P D cls [(h0, .inr (2, [.ref h1, .int x0, .int x1])), (h1, .inl (cI, 12, .inl (upd (upd f0 0 0) 1 0)))] H := hP
      have hD : va_D A [(h0, .inr (2, [.ref h1, .int x0, .int x1])), (h1, .inl (cI, 12, .inl (upd (upd f0 0 0) 1 0)))] := hD
      refine lv_iinc (v := 2) (lv' := [(1, .int 2), (0, .ref h0)]) hx hb dX2_empty_15 hl (k := 0) rfl (by decide) (by decide) rfl (fun ls hl => ?_)
      refine lv_goto (tgt := 2) hx hb dX2_empty_18 (by decide) ?_
      refine lv_iload_n hx hb dX2_empty_2 rfl (lv_at hl 0 rfl) ?_
      refine lv_bipush (v := 12) hx hb dX2_empty_3 (by decide) ?_
      refine lv_icmp_ge (tgt := 21) hx hb dX2_empty_5 (by decide) (fun c5068 => ?_) (fun c5068 => ?_)
      · exact absurd c5068 (by decide)
      · refine lv_aload_n hx hb dX2_empty_8 rfl (lv_at hl 1 rfl) ?_
        refine va_get (D := D) (ci := 2) (v := .ref h1) (C := RX2) (T := TX2) (N := 3) hx hb hts hin2 hown hK hP 0 rfl rfl 0 (by decide) (hts (.fieldLink RX2 9 "MissedPoints$Net" "links" "[I") (by decide +kernel)) (fun _ h9 => h9) rfl dX2_empty_9 ?_
        refine lv_iload_n hx hb dX2_empty_12 rfl (lv_at hl 0 rfl) ?_
        refine lv_iconst (v := 0) hx hb dX2_empty_13 (by decide) ?_
        refine va_iast hx hb hK hP hD hS 1 0 rfl rfl (lz_vp (x := 2) (n := 12) (by decide) (by decide)) dX2_empty_14 (fun H locs hP hD hS => ?_)
        have hP : va_P D cls [(h0, .inr (2, [.ref h1, .int x0, .int x1])), (h1, .inl (cI, 12, .inl (upd (upd (upd f0 0 0) 1 0) 2 0)))] H := hP
        have hD : va_D A [(h0, .inr (2, [.ref h1, .int x0, .int x1])), (h1, .inl (cI, 12, .inl (upd (upd (upd f0 0 0) 1 0) 2 0)))] := hD
        refine lv_iinc (v := 3) (lv' := [(1, .int 3), (0, .ref h0)]) hx hb dX2_empty_15 hl (k := 0) rfl (by decide) (by decide) rfl (fun ls hl => ?_)
        refine lv_goto (tgt := 2) hx hb dX2_empty_18 (by decide) ?_
        refine lv_iload_n hx hb dX2_empty_2 rfl (lv_at hl 0 rfl) ?_
        refine lv_bipush (v := 12) hx hb dX2_empty_3 (by decide) ?_
        refine lv_icmp_ge (tgt := 21) hx hb dX2_empty_5 (by decide) (fun c5069 => ?_) (fun c5069 => ?_)
        · exact absurd c5069 (by decide)
        · refine lv_aload_n hx hb dX2_empty_8 rfl (lv_at hl 1 rfl) ?_
          refine va_get (D := D) (ci := 2) (v := .ref h1) (C := RX2) (T := TX2) (N := 3) hx hb hts hin2 hown hK hP 0 rfl rfl 0 (by decide) (hts (.fieldLink RX2 9 "MissedPoints$Net" "links" "[I") (by decide +kernel)) (fun _ h9 => h9) rfl dX2_empty_9 ?_
          refine lv_iload_n hx hb dX2_empty_12 rfl (lv_at hl 0 rfl) ?_
          refine lv_iconst (v := 0) hx hb dX2_empty_13 (by decide) ?_
          refine va_iast hx hb hK hP hD hS 1 0 rfl rfl (lz_vp (x := 3) (n := 12) (by decide) (by decide)) dX2_empty_14 (fun H locs hP hD hS => ?_)
          have hP : va_P D cls [(h0, .inr (2, [.ref h1, .int x0, .int x1])), (h1, .inl (cI, 12, .inl (upd (upd (upd (upd f0 0 0) 1 0) 2 0) 3 0)))] H := hP
          have hD : va_D A [(h0, .inr (2, [.ref h1, .int x0, .int x1])), (h1, .inl (cI, 12, .inl (upd (upd (upd (upd f0 0 0) 1 0) 2 0) 3 0)))] := hD
          refine lv_iinc (v := 4) (lv' := [(1, .int 4), (0, .ref h0)]) hx hb dX2_empty_15 hl (k := 0) rfl (by decide) (by decide) rfl (fun ls hl => ?_)
          refine lv_goto (tgt := 2) hx hb dX2_empty_18 (by decide) ?_
          refine lv_iload_n hx hb dX2_empty_2 rfl (lv_at hl 0 rfl) ?_
          refine lv_bipush (v := 12) hx hb dX2_empty_3 (by decide) ?_
          refine lv_icmp_ge (tgt := 21) hx hb dX2_empty_5 (by decide) (fun c5070 => ?_) (fun c5070 => ?_)
          · exact absurd c5070 (by decide)
          · refine lv_aload_n hx hb dX2_empty_8 rfl (lv_at hl 1 rfl) ?_
            refine va_get (D := D) (ci := 2) (v := .ref h1) (C := RX2) (T := TX2) (N := 3) hx hb hts hin2 hown hK hP 0 rfl rfl 0 (by decide) (hts (.fieldLink RX2 9 "MissedPoints$Net" "links" "[I") (by decide +kernel)) (fun _ h9 => h9) rfl dX2_empty_9 ?_
            refine lv_iload_n hx hb dX2_empty_12 rfl (lv_at hl 0 rfl) ?_
            refine lv_iconst (v := 0) hx hb dX2_empty_13 (by decide) ?_
            refine va_iast hx hb hK hP hD hS 1 0 rfl rfl (lz_vp (x := 4) (n := 12) (by decide) (by decide)) dX2_empty_14 (fun H locs hP hD hS => ?_)
            have hP : va_P D cls [(h0, .inr (2, [.ref h1, .int x0, .int x1])), (h1, .inl (cI, 12, .inl (upd (upd (upd (upd (upd f0 0 0) 1 0) 2 0) 3 0) 4 0)))] H := hP
            have hD : va_D A [(h0, .inr (2, [.ref h1, .int x0, .int x1])), (h1, .inl (cI, 12, .inl (upd (upd (upd (upd (upd f0 0 0) 1 0) 2 0) 3 0) 4 0)))] := hD
            refine lv_iinc (v := 5) (lv' := [(1, .int 5), (0, .ref h0)]) hx hb dX2_empty_15 hl (k := 0) rfl (by decide) (by decide) rfl (fun ls hl => ?_)
            refine lv_goto (tgt := 2) hx hb dX2_empty_18 (by decide) ?_
            refine lv_iload_n hx hb dX2_empty_2 rfl (lv_at hl 0 rfl) ?_
            refine lv_bipush (v := 12) hx hb dX2_empty_3 (by decide) ?_
            refine lv_icmp_ge (tgt := 21) hx hb dX2_empty_5 (by decide) (fun c5071 => ?_) (fun c5071 => ?_)
            · exact absurd c5071 (by decide)
            · refine lv_aload_n hx hb dX2_empty_8 rfl (lv_at hl 1 rfl) ?_
              refine va_get (D := D) (ci := 2) (v := .ref h1) (C := RX2) (T := TX2) (N := 3) hx hb hts hin2 hown hK hP 0 rfl rfl 0 (by decide) (hts (.fieldLink RX2 9 "MissedPoints$Net" "links" "[I") (by decide +kernel)) (fun _ h9 => h9) rfl dX2_empty_9 ?_
              refine lv_iload_n hx hb dX2_empty_12 rfl (lv_at hl 0 rfl) ?_
              refine lv_iconst (v := 0) hx hb dX2_empty_13 (by decide) ?_
              refine va_iast hx hb hK hP hD hS 1 0 rfl rfl (lz_vp (x := 5) (n := 12) (by decide) (by decide)) dX2_empty_14 (fun H locs hP hD hS => ?_)
              have hP : va_P D cls [(h0, .inr (2, [.ref h1, .int x0, .int x1])), (h1, .inl (cI, 12, .inl (upd (upd (upd (upd (upd (upd f0 0 0) 1 0) 2 0) 3 0) 4 0) 5 0)))] H := hP
              have hD : va_D A [(h0, .inr (2, [.ref h1, .int x0, .int x1])), (h1, .inl (cI, 12, .inl (upd (upd (upd (upd (upd (upd f0 0 0) 1 0) 2 0) 3 0) 4 0) 5 0)))] := hD
              refine lv_iinc (v := 6) (lv' := [(1, .int 6), (0, .ref h0)]) hx hb dX2_empty_15 hl (k := 0) rfl (by decide) (by decide) rfl (fun ls hl => ?_)
              refine lv_goto (tgt := 2) hx hb dX2_empty_18 (by decide) ?_
              refine lv_iload_n hx hb dX2_empty_2 rfl (lv_at hl 0 rfl) ?_
              refine lv_bipush (v := 12) hx hb dX2_empty_3 (by decide) ?_
              refine lv_icmp_ge (tgt := 21) hx hb dX2_empty_5 (by decide) (fun c5072 => ?_) (fun c5072 => ?_)
              · exact absurd c5072 (by decide)
              · refine lv_aload_n hx hb dX2_empty_8 rfl (lv_at hl 1 rfl) ?_
                refine va_get (D := D) (ci := 2) (v := .ref h1) (C := RX2) (T := TX2) (N := 3) hx hb hts hin2 hown hK hP 0 rfl rfl 0 (by decide) (hts (.fieldLink RX2 9 "MissedPoints$Net" "links" "[I") (by decide +kernel)) (fun _ h9 => h9) rfl dX2_empty_9 ?_
                refine lv_iload_n hx hb dX2_empty_12 rfl (lv_at hl 0 rfl) ?_
                refine lv_iconst (v := 0) hx hb dX2_empty_13 (by decide) ?_
                refine va_iast hx hb hK hP hD hS 1 0 rfl rfl (lz_vp (x := 6) (n := 12) (by decide) (by decide)) dX2_empty_14 (fun H locs hP hD hS => ?_)
                have hP : va_P D cls [(h0, .inr (2, [.ref h1, .int x0, .int x1])), (h1, .inl (cI, 12, .inl (upd (upd (upd (upd (upd (upd (upd f0 0 0) 1 0) 2 0) 3 0) 4 0) 5 0) 6 0)))] H := hP
                have hD : va_D A [(h0, .inr (2, [.ref h1, .int x0, .int x1])), (h1, .inl (cI, 12, .inl (upd (upd (upd (upd (upd (upd (upd f0 0 0) 1 0) 2 0) 3 0) 4 0) 5 0) 6 0)))] := hD
                refine lv_iinc (v := 7) (lv' := [(1, .int 7), (0, .ref h0)]) hx hb dX2_empty_15 hl (k := 0) rfl (by decide) (by decide) rfl (fun ls hl => ?_)
                refine lv_goto (tgt := 2) hx hb dX2_empty_18 (by decide) ?_
                refine lv_iload_n hx hb dX2_empty_2 rfl (lv_at hl 0 rfl) ?_
                refine lv_bipush (v := 12) hx hb dX2_empty_3 (by decide) ?_
                refine lv_icmp_ge (tgt := 21) hx hb dX2_empty_5 (by decide) (fun c5073 => ?_) (fun c5073 => ?_)
                · exact absurd c5073 (by decide)
                · refine lv_aload_n hx hb dX2_empty_8 rfl (lv_at hl 1 rfl) ?_
                  refine va_get (D := D) (ci := 2) (v := .ref h1) (C := RX2) (T := TX2) (N := 3) hx hb hts hin2 hown hK hP 0 rfl rfl 0 (by decide) (hts (.fieldLink RX2 9 "MissedPoints$Net" "links" "[I") (by decide +kernel)) (fun _ h9 => h9) rfl dX2_empty_9 ?_
                  refine lv_iload_n hx hb dX2_empty_12 rfl (lv_at hl 0 rfl) ?_
                  refine lv_iconst (v := 0) hx hb dX2_empty_13 (by decide) ?_
                  refine va_iast hx hb hK hP hD hS 1 0 rfl rfl (lz_vp (x := 7) (n := 12) (by decide) (by decide)) dX2_empty_14 (fun H locs hP hD hS => ?_)
                  have hP : va_P D cls [(h0, .inr (2, [.ref h1, .int x0, .int x1])), (h1, .inl (cI, 12, .inl (upd (upd (upd (upd (upd (upd (upd (upd f0 0 0) 1 0) 2 0) 3 0) 4 0) 5 0) 6 0) 7 0)))] H := hP
                  have hD : va_D A [(h0, .inr (2, [.ref h1, .int x0, .int x1])), (h1, .inl (cI, 12, .inl (upd (upd (upd (upd (upd (upd (upd (upd f0 0 0) 1 0) 2 0) 3 0) 4 0) 5 0) 6 0) 7 0)))] := hD
                  refine lv_iinc (v := 8) (lv' := [(1, .int 8), (0, .ref h0)]) hx hb dX2_empty_15 hl (k := 0) rfl (by decide) (by decide) rfl (fun ls hl => ?_)
                  refine lv_goto (tgt := 2) hx hb dX2_empty_18 (by decide) ?_
                  refine lv_iload_n hx hb dX2_empty_2 rfl (lv_at hl 0 rfl) ?_
                  refine lv_bipush (v := 12) hx hb dX2_empty_3 (by decide) ?_
                  refine lv_icmp_ge (tgt := 21) hx hb dX2_empty_5 (by decide) (fun c5074 => ?_) (fun c5074 => ?_)
                  · exact absurd c5074 (by decide)
                  · refine lv_aload_n hx hb dX2_empty_8 rfl (lv_at hl 1 rfl) ?_
                    refine va_get (D := D) (ci := 2) (v := .ref h1) (C := RX2) (T := TX2) (N := 3) hx hb hts hin2 hown hK hP 0 rfl rfl 0 (by decide) (hts (.fieldLink RX2 9 "MissedPoints$Net" "links" "[I") (by decide +kernel)) (fun _ h9 => h9) rfl dX2_empty_9 ?_
                    refine lv_iload_n hx hb dX2_empty_12 rfl (lv_at hl 0 rfl) ?_
                    refine lv_iconst (v := 0) hx hb dX2_empty_13 (by decide) ?_
                    refine va_iast hx hb hK hP hD hS 1 0 rfl rfl (lz_vp (x := 8) (n := 12) (by decide) (by decide)) dX2_empty_14 (fun H locs hP hD hS => ?_)
                    have hP : va_P D cls [(h0, .inr (2, [.ref h1, .int x0, .int x1])), (h1, .inl (cI, 12, .inl (upd (upd (upd (upd (upd (upd (upd (upd (upd f0 0 0) 1 0) 2 0) 3 0) 4 0) 5 0) 6 0) 7 0) 8 0)))] H := hP
                    have hD : va_D A [(h0, .inr (2, [.ref h1, .int x0, .int x1])), (h1, .inl (cI, 12, .inl (upd (upd (upd (upd (upd (upd (upd (upd (upd f0 0 0) 1 0) 2 0) 3 0) 4 0) 5 0) 6 0) 7 0) 8 0)))] := hD
                    refine lv_iinc (v := 9) (lv' := [(1, .int 9), (0, .ref h0)]) hx hb dX2_empty_15 hl (k := 0) rfl (by decide) (by decide) rfl (fun ls hl => ?_)
                    refine lv_goto (tgt := 2) hx hb dX2_empty_18 (by decide) ?_
                    refine lv_iload_n hx hb dX2_empty_2 rfl (lv_at hl 0 rfl) ?_
                    refine lv_bipush (v := 12) hx hb dX2_empty_3 (by decide) ?_
                    refine lv_icmp_ge (tgt := 21) hx hb dX2_empty_5 (by decide) (fun c5075 => ?_) (fun c5075 => ?_)
                    · exact absurd c5075 (by decide)
                    · refine lv_aload_n hx hb dX2_empty_8 rfl (lv_at hl 1 rfl) ?_
                      refine va_get (D := D) (ci := 2) (v := .ref h1) (C := RX2) (T := TX2) (N := 3) hx hb hts hin2 hown hK hP 0 rfl rfl 0 (by decide) (hts (.fieldLink RX2 9 "MissedPoints$Net" "links" "[I") (by decide +kernel)) (fun _ h9 => h9) rfl dX2_empty_9 ?_
                      refine lv_iload_n hx hb dX2_empty_12 rfl (lv_at hl 0 rfl) ?_
                      refine lv_iconst (v := 0) hx hb dX2_empty_13 (by decide) ?_
                      refine va_iast hx hb hK hP hD hS 1 0 rfl rfl (lz_vp (x := 9) (n := 12) (by decide) (by decide)) dX2_empty_14 (fun H locs hP hD hS => ?_)
                      have hP : va_P D cls [(h0, .inr (2, [.ref h1, .int x0, .int x1])), (h1, .inl (cI, 12, .inl (upd (upd (upd (upd (upd (upd (upd (upd (upd (upd f0 0 0) 1 0) 2 0) 3 0) 4 0) 5 0) 6 0) 7 0) 8 0) 9 0)))] H := hP
                      have hD : va_D A [(h0, .inr (2, [.ref h1, .int x0, .int x1])), (h1, .inl (cI, 12, .inl (upd (upd (upd (upd (upd (upd (upd (upd (upd (upd f0 0 0) 1 0) 2 0) 3 0) 4 0) 5 0) 6 0) 7 0) 8 0) 9 0)))] := hD
                      refine lv_iinc (v := 10) (lv' := [(1, .int 10), (0, .ref h0)]) hx hb dX2_empty_15 hl (k := 0) rfl (by decide) (by decide) rfl (fun ls hl => ?_)
                      refine lv_goto (tgt := 2) hx hb dX2_empty_18 (by decide) ?_
                      refine lv_iload_n hx hb dX2_empty_2 rfl (lv_at hl 0 rfl) ?_
                      refine lv_bipush (v := 12) hx hb dX2_empty_3 (by decide) ?_
                      refine lv_icmp_ge (tgt := 21) hx hb dX2_empty_5 (by decide) (fun c5076 => ?_) (fun c5076 => ?_)
                      · exact absurd c5076 (by decide)
                      · refine lv_aload_n hx hb dX2_empty_8 rfl (lv_at hl 1 rfl) ?_
                        refine va_get (D := D) (ci := 2) (v := .ref h1) (C := RX2) (T := TX2) (N := 3) hx hb hts hin2 hown hK hP 0 rfl rfl 0 (by decide) (hts (.fieldLink RX2 9 "MissedPoints$Net" "links" "[I") (by decide +kernel)) (fun _ h9 => h9) rfl dX2_empty_9 ?_
                        refine lv_iload_n hx hb dX2_empty_12 rfl (lv_at hl 0 rfl) ?_
                        refine lv_iconst (v := 0) hx hb dX2_empty_13 (by decide) ?_
                        refine va_iast hx hb hK hP hD hS 1 0 rfl rfl (lz_vp (x := 10) (n := 12) (by decide) (by decide)) dX2_empty_14 (fun H locs hP hD hS => ?_)
                        have hP : va_P D cls [(h0, .inr (2, [.ref h1, .int x0, .int x1])), (h1, .inl (cI, 12, .inl (upd (upd (upd (upd (upd (upd (upd (upd (upd (upd (upd f0 0 0) 1 0) 2 0) 3 0) 4 0) 5 0) 6 0) 7 0) 8 0) 9 0) 10 0)))] H := hP
                        have hD : va_D A [(h0, .inr (2, [.ref h1, .int x0, .int x1])), (h1, .inl (cI, 12, .inl (upd (upd (upd (upd (upd (upd (upd (upd (upd (upd (upd f0 0 0) 1 0) 2 0) 3 0) 4 0) 5 0) 6 0) 7 0) 8 0) 9 0) 10 0)))] := hD
                        refine lv_iinc (v := 11) (lv' := [(1, .int 11), (0, .ref h0)]) hx hb dX2_empty_15 hl (k := 0) rfl (by decide) (by decide) rfl (fun ls hl => ?_)
                        refine lv_goto (tgt := 2) hx hb dX2_empty_18 (by decide) ?_
                        refine lv_iload_n hx hb dX2_empty_2 rfl (lv_at hl 0 rfl) ?_
                        refine lv_bipush (v := 12) hx hb dX2_empty_3 (by decide) ?_
                        refine lv_icmp_ge (tgt := 21) hx hb dX2_empty_5 (by decide) (fun c5077 => ?_) (fun c5077 => ?_)
                        · exact absurd c5077 (by decide)
                        · refine lv_aload_n hx hb dX2_empty_8 rfl (lv_at hl 1 rfl) ?_
                          refine va_get (D := D) (ci := 2) (v := .ref h1) (C := RX2) (T := TX2) (N := 3) hx hb hts hin2 hown hK hP 0 rfl rfl 0 (by decide) (hts (.fieldLink RX2 9 "MissedPoints$Net" "links" "[I") (by decide +kernel)) (fun _ h9 => h9) rfl dX2_empty_9 ?_
                          refine lv_iload_n hx hb dX2_empty_12 rfl (lv_at hl 0 rfl) ?_
                          refine lv_iconst (v := 0) hx hb dX2_empty_13 (by decide) ?_
                          refine va_iast hx hb hK hP hD hS 1 0 rfl rfl (lz_vp (x := 11) (n := 12) (by decide) (by decide)) dX2_empty_14 (fun H locs hP hD hS => ?_)
                          have hP : va_P D cls [(h0, .inr (2, [.ref h1, .int x0, .int x1])), (h1, .inl (cI, 12, .inl (upd (upd (upd (upd (upd (upd (upd (upd (upd (upd (upd (upd f0 0 0) 1 0) 2 0) 3 0) 4 0) 5 0) 6 0) 7 0) 8 0) 9 0) 10 0) 11 0)))] H := hP
                          have hD : va_D A [(h0, .inr (2, [.ref h1, .int x0, .int x1])), (h1, .inl (cI, 12, .inl (upd (upd (upd (upd (upd (upd (upd (upd (upd (upd (upd (upd f0 0 0) 1 0) 2 0) 3 0) 4 0) 5 0) 6 0) 7 0) 8 0) 9 0) 10 0) 11 0)))] := hD
                          refine lv_iinc (v := 12) (lv' := [(1, .int 12), (0, .ref h0)]) hx hb dX2_empty_15 hl (k := 0) rfl (by decide) (by decide) rfl (fun ls hl => ?_)
                          refine lv_goto (tgt := 2) hx hb dX2_empty_18 (by decide) ?_
                          refine lv_iload_n hx hb dX2_empty_2 rfl (lv_at hl 0 rfl) ?_
                          refine lv_bipush (v := 12) hx hb dX2_empty_3 (by decide) ?_
                          refine lv_icmp_ge (tgt := 21) hx hb dX2_empty_5 (by decide) (fun c5078 => ?_) (fun c5078 => ?_)
                          · refine lv_aload_n hx hb dX2_empty_21 rfl (lv_at hl 1 rfl) ?_
                            refine lv_iconst (v := 0) hx hb dX2_empty_22 (by decide) ?_
                            refine va_put (D := D) (ci := 2) (v := .int 0) (ty := .int) (C := RX2) (T := TX2) (N := 3) hx hb hts hin2 tyX2 tyX2_ok nmX2 hown hK hP hD hS 0 rfl rfl 1 (by decide) (hts (.fieldLink RX2 15 "MissedPoints$Net" "size" "I") (by decide +kernel)) (fun _ h9 => h9) rfl (by decide +kernel) rfl rfl (Nat.le_of_ble_eq_true rfl) dX2_empty_23 (fun H locs hP hD hS => ?_)
                            have hP : va_P D cls [(h0, .inr (2, [.ref h1, .int 0, .int x1])), (h1, .inl (cI, 12, .inl (upd (upd (upd (upd (upd (upd (upd (upd (upd (upd (upd (upd f0 0 0) 1 0) 2 0) 3 0) 4 0) 5 0) 6 0) 7 0) 8 0) 9 0) 10 0) 11 0)))] H := hP
                            have hD : va_D A [(h0, .inr (2, [.ref h1, .int 0, .int x1])), (h1, .inl (cI, 12, .inl (upd (upd (upd (upd (upd (upd (upd (upd (upd (upd (upd (upd f0 0 0) 1 0) 2 0) 3 0) 4 0) 5 0) 6 0) 7 0) 8 0) 9 0) 10 0) 11 0)))] := hD
                            refine lv_aload_n hx hb dX2_empty_26 rfl (lv_at hl 1 rfl) ?_
                            refine lv_dup hx hb dX2_empty_27 rfl ?_
                            refine va_get (D := D) (ci := 2) (v := .int x1) (C := RX2) (T := TX2) (N := 3) hx hb hts hin2 hown hK hP 0 rfl rfl 2 (by decide) (hts (.fieldLink RX2 33 "MissedPoints$Net" "changes" "I") (by decide +kernel)) (fun _ h9 => h9) rfl dX2_empty_28 ?_
                            refine lv_iconst (v := 1) hx hb dX2_empty_31 (by decide) ?_
                            refine lv_iadd hx hb dX2_empty_32 ?_
                            refine va_put (D := D) (ci := 2) (v := .int (x1 + (1 : Int32))) (ty := .int) (C := RX2) (T := TX2) (N := 3) hx hb hts hin2 tyX2 tyX2_ok nmX2 hown hK hP hD hS 0 rfl rfl 2 (by decide) (hts (.fieldLink RX2 33 "MissedPoints$Net" "changes" "I") (by decide +kernel)) (fun _ h9 => h9) rfl (by decide +kernel) rfl rfl (Nat.le_of_ble_eq_true rfl) dX2_empty_33 (fun H locs hP hD hS => ?_)
                            have hP : va_P D cls [(h0, .inr (2, [.ref h1, .int 0, .int (x1 + (1 : Int32))])), (h1, .inl (cI, 12, .inl (upd (upd (upd (upd (upd (upd (upd (upd (upd (upd (upd (upd f0 0 0) 1 0) 2 0) 3 0) 4 0) 5 0) 6 0) 7 0) 8 0) 9 0) 10 0) 11 0)))] H := hP
                            have hD : va_D A [(h0, .inr (2, [.ref h1, .int 0, .int (x1 + (1 : Int32))])), (h1, .inl (cI, 12, .inl (upd (upd (upd (upd (upd (upd (upd (upd (upd (upd (upd (upd f0 0 0) 1 0) 2 0) 3 0) 4 0) 5 0) 6 0) 7 0) 8 0) 9 0) 10 0) 11 0)))] := hD
                            have hP9 := hP.sub (ws' := [(h0, .inr (2, [.ref h1, .int 0, .int (x1 + (1 : Int32))])), (h1, .inl (cI, 12, .inl (upd (upd (upd (upd (upd (upd (upd (upd (upd (upd (upd (upd f0 0 0) 1 0) 2 0) 3 0) 4 0) 5 0) 6 0) 7 0) 8 0) 9 0) 10 0) 11 0)))]) [0, 1] rfl
                            have hD9 := hD.sub (ws' := [(h0, .inr (2, [.ref h1, .int 0, .int (x1 + (1 : Int32))])), (h1, .inl (cI, 12, .inl (upd (upd (upd (upd (upd (upd (upd (upd (upd (upd (upd (upd f0 0 0) 1 0) 2 0) 3 0) 4 0) 5 0) 6 0) 7 0) 8 0) 9 0) 10 0) 11 0)))]) [0, 1] (by decide) rfl
                            subst hAe
                            exact W.vret hx hb hr (fun t ht hW => ⟨⟨(), rfl, trivial, by rw [ht]; exact hP9, hD9⟩, hS.F ht⟩) hS.2.2 dX2_empty_36
                          · exact absurd c5078 (by decide)
set_option maxHeartbeats 4000000 in
set_option maxRecDepth 100000 in
theorem c_X2_add_1 (l : Launch) (D : va_G) (cI cS : ClassId) (sz : Nat) (h0 h1 : Nat) (x0 x1 : Int32) : Met l yX2_add wsX2_add ({ frames := 1, cells := 0, slots := 0, locals := 40 }) (PQ D cI cS [(h0, .inr (2, [.ref h1, .int 0, .int x1]))] sz [.ref h0, .int x0]) (QV D [(h0, .inr (2, [.ref h1, .int 0, .int x1]))] [(h0, .inr (2, [.ref h1, .int (if (12 : Int32) < x0 then (12 : Int32) else x0), .int (x1 + (1 : Int32))]))] sz) 0 0 (va_A [(h0, .inr (2, [.ref h1, .int 0, .int x1]))] sz) := by
  refine Met.ofW (cc := cX2_add) (maxL := 2) (ret := none) (by decide) rfl ?_
  intro p e s m args below meth c s₁ B hml hv
  obtain ⟨rfl, hsz, hP, hKK, hD0⟩ := hv
  have hx := B.exec
  have hb := B.bytes
  have hr := B.returns
  have hts := atoms_spec (ws := wsX2_add) B.pre
  have hown : s.vm.findClass RX2 = some m.cls := findClass_of_methodNamed B.named
  have hlocks := B.notSynchronized
  have hK := hKK.1
  have hN := hKK.2
  have hin2 : ∀ w ∈ wsX20, w ∈ wsX2_add := by decide +kernel
  subst hsz
  have hD := hD0.self (sz := s.heap.size)
  obtain ⟨A, hAe⟩ : ∃ A, A = va_A [(h0, .inr (2, [.ref h1, .int 0, .int x1]))] s.heap.size := ⟨_, rfl⟩
  rw [← hAe] at hD
  have hA : ∀ q : Nat, s.heap.size ≤ q → A q := fun q h => by rw [hAe]; exact Or.inr h
  have hS : va_S A s.heap s.heap [] := va_S.rf
  have hl := lv_entry ([.ref h0, .int x0]) (n := 2) (Nat.le_of_ble_eq_true rfl)
  rw [lg_entry_eq]
  generalize (lg_sl ([.ref h0, .int x0]) ++ List.replicate (2 - (lg_sl ([.ref h0, .int x0])).length) Slot.unset).toArray = ls at hl ⊢
  have hl : lv_has ls 2 [(0, .ref h0), (1, .int x0)] := hl
  refine lv_aload_n hx hb dX2_add_0 rfl (lv_at hl 0 rfl) ?_
  refine lv_aload_n hx hb dX2_add_1 rfl (lv_at hl 0 rfl) ?_
  refine va_get (D := D) (ci := 2) (v := .int 0) (C := RX2) (T := TX2) (N := 3) hx hb hts hin2 hown hK hP 0 rfl rfl 1 (by decide) (hts (.fieldLink RX2 15 "MissedPoints$Net" "size" "I") (by decide +kernel)) (fun _ h9 => h9) rfl dX2_add_2 ?_
  refine lv_iload_n hx hb dX2_add_5 rfl (lv_at hl 1 rfl) ?_
  refine lv_iadd hx hb dX2_add_6 ?_
  refine lz_top (y := x0) (by simp) ?_
  refine lv_bipush (v := 12) hx hb dX2_add_7 (by decide) ?_
  refine va_mmin hx hb (by rw [hml]; exact hl.1.symm) hown (hts (.methodLink RX2 27 Lib.Math.min.name) (by decide +kernel)) (hts (.static Lib.Math.min.name) (by decide +kernel)) (hts (.initialized "java/lang/Math") (by decide +kernel)) (hts (.code Lib.Math.min.name Lib.Math.min.code 2 (some .int)) (by decide +kernel)) (Nat.le_of_ble_eq_true rfl) (Nat.le_of_ble_eq_true rfl) (Nat.le_of_ble_eq_true rfl) (Nat.le_of_ble_eq_true rfl) dX2_add_9 ?_
  refine va_put (D := D) (ci := 2) (v := .int (if (12 : Int32) < x0 then (12 : Int32) else x0)) (ty := .int) (C := RX2) (T := TX2) (N := 3) hx hb hts hin2 tyX2 tyX2_ok nmX2 hown hK hP hD hS 0 rfl rfl 1 (by decide) (hts (.fieldLink RX2 15 "MissedPoints$Net" "size" "I") (by decide +kernel)) (fun _ h9 => h9) rfl (by decide +kernel) rfl rfl (Nat.le_of_ble_eq_true rfl) dX2_add_12 (fun H locs hP hD hS => ?_)
  have hP : va_P D cls [(h0, .inr (2, [.ref h1, .int (if (12 : Int32) < x0 then (12 : Int32) else x0), .int x1]))] H := hP
  have hD : va_D A [(h0, .inr (2, [.ref h1, .int (if (12 : Int32) < x0 then (12 : Int32) else x0), .int x1]))] := hD
  refine lv_aload_n hx hb dX2_add_15 rfl (lv_at hl 0 rfl) ?_
  refine lv_dup hx hb dX2_add_16 rfl ?_
  refine va_get (D := D) (ci := 2) (v := .int x1) (C := RX2) (T := TX2) (N := 3) hx hb hts hin2 hown hK hP 0 rfl rfl 2 (by decide) (hts (.fieldLink RX2 33 "MissedPoints$Net" "changes" "I") (by decide +kernel)) (fun _ h9 => h9) rfl dX2_add_17 ?_
  refine lv_iconst (v := 1) hx hb dX2_add_20 (by decide) ?_
  refine lv_iadd hx hb dX2_add_21 ?_
  refine va_put (D := D) (ci := 2) (v := .int (x1 + (1 : Int32))) (ty := .int) (C := RX2) (T := TX2) (N := 3) hx hb hts hin2 tyX2 tyX2_ok nmX2 hown hK hP hD hS 0 rfl rfl 2 (by decide) (hts (.fieldLink RX2 33 "MissedPoints$Net" "changes" "I") (by decide +kernel)) (fun _ h9 => h9) rfl (by decide +kernel) rfl rfl (Nat.le_of_ble_eq_true rfl) dX2_add_22 (fun H locs hP hD hS => ?_)
  have hP : va_P D cls [(h0, .inr (2, [.ref h1, .int (if (12 : Int32) < x0 then (12 : Int32) else x0), .int (x1 + (1 : Int32))]))] H := hP
  have hD : va_D A [(h0, .inr (2, [.ref h1, .int (if (12 : Int32) < x0 then (12 : Int32) else x0), .int (x1 + (1 : Int32))]))] := hD
  have hP9 := hP.sub (ws' := [(h0, .inr (2, [.ref h1, .int (if (12 : Int32) < x0 then (12 : Int32) else x0), .int (x1 + (1 : Int32))]))]) [0] rfl
  have hD9 := hD.sub (ws' := [(h0, .inr (2, [.ref h1, .int (if (12 : Int32) < x0 then (12 : Int32) else x0), .int (x1 + (1 : Int32))]))]) [0] (by decide) rfl
  subst hAe
  exact W.vret hx hb hr (fun t ht hW => ⟨⟨(), rfl, trivial, by rw [ht]; exact hP9, hD9⟩, hS.F ht⟩) hS.2.2 dX2_add_25
set_option maxHeartbeats 4000000 in
set_option maxRecDepth 100000 in
theorem c_X11_canDeal_0 (l : Launch) (D : va_G) (cI cS : ClassId) (x0 x1 : Int32) : Met l yX11_canDeal wsX11_canDeal ({ frames := 0, cells := 0, slots := 0, locals := 0 }) (PS D cI cS [] [.int x0, .int x1]) (vp_Si (fun r => r = if x0 < 0 then (0 : Int32) else (if (12 : Int32) < x0 then (0 : Int32) else (if x1 < 0 then (0 : Int32) else (if (10 : Int32) < x1 then (0 : Int32) else (1 : Int32)))))) 0 0 (fun _ => False) := by
  refine Met.ofW (cc := cX11_canDeal) (maxL := 2) (ret := (some .boolean)) (by decide) rfl ?_
  intro p e s m args below meth c s₁ B hml hv
  obtain ⟨rfl, hP, hKK⟩ := hv
  have hx := B.exec
  have hb := B.bytes
  have hr := B.returns
  have hts := atoms_spec (ws := wsX11_canDeal) B.pre
  have hown : s.vm.findClass RX11 = some m.cls := findClass_of_methodNamed B.named
  have hlocks := B.notSynchronized
  have hK := hKK.1
  have hN := hKK.2
  have hl := lv_entry ([.int x0, .int x1]) (n := 2) (Nat.le_of_ble_eq_true rfl)
  rw [lg_entry_eq]
  generalize (lg_sl ([.int x0, .int x1]) ++ List.replicate (2 - (lg_sl ([.int x0, .int x1])).length) Slot.unset).toArray = ls at hl ⊢
  have hl : lv_has ls 2 [(0, .int x0), (1, .int x1)] := hl
  refine lv_iload_n hx hb dX11_canDeal_0 rfl (lv_at hl 0 rfl) ?_
  refine lv_if_lt (tgt := 24) hx hb dX11_canDeal_1 (by decide) (fun c5087 => ?_) (fun c5087 => ?_)
  · refine lv_iconst (v := 0) hx hb dX11_canDeal_24 (by decide) ?_
    exact W.zret (v := 0) hx hb hr (by decide) (fun t ht hW => ⟨_, rfl, by rw [if_pos c5087], ht⟩) (fun q hq => absurd hq List.not_mem_nil) dX11_canDeal_25
  · refine lv_iload_n hx hb dX11_canDeal_4 rfl (lv_at hl 0 rfl) ?_
    refine lv_bipush (v := 12) hx hb dX11_canDeal_5 (by decide) ?_
    refine lv_icmp_gt (tgt := 24) hx hb dX11_canDeal_7 (by decide) (fun c5088 => ?_) (fun c5088 => ?_)
    · refine lv_iconst (v := 0) hx hb dX11_canDeal_24 (by decide) ?_
      exact W.zret (v := 0) hx hb hr (by decide) (fun t ht hW => ⟨_, rfl, by rw [if_neg c5087, if_pos c5088], ht⟩) (fun q hq => absurd hq List.not_mem_nil) dX11_canDeal_25
    · refine lv_iload_n hx hb dX11_canDeal_10 rfl (lv_at hl 1 rfl) ?_
      refine lv_if_lt (tgt := 24) hx hb dX11_canDeal_11 (by decide) (fun c5089 => ?_) (fun c5089 => ?_)
      · refine lv_iconst (v := 0) hx hb dX11_canDeal_24 (by decide) ?_
        exact W.zret (v := 0) hx hb hr (by decide) (fun t ht hW => ⟨_, rfl, by rw [if_neg c5087, if_neg c5088, if_pos c5089], ht⟩) (fun q hq => absurd hq List.not_mem_nil) dX11_canDeal_25
      · refine lv_iload_n hx hb dX11_canDeal_14 rfl (lv_at hl 1 rfl) ?_
        refine lv_bipush (v := 10) hx hb dX11_canDeal_15 (by decide) ?_
        refine lv_icmp_gt (tgt := 24) hx hb dX11_canDeal_17 (by decide) (fun c5090 => ?_) (fun c5090 => ?_)
        · refine lv_iconst (v := 0) hx hb dX11_canDeal_24 (by decide) ?_
          exact W.zret (v := 0) hx hb hr (by decide) (fun t ht hW => ⟨_, rfl, by rw [if_neg c5087, if_neg c5088, if_neg c5089, if_pos c5090], ht⟩) (fun q hq => absurd hq List.not_mem_nil) dX11_canDeal_25
        · refine lv_iconst (v := 1) hx hb dX11_canDeal_20 (by decide) ?_
          refine lv_goto (tgt := 25) hx hb dX11_canDeal_21 (by decide) ?_
          exact W.zret (v := 1) hx hb hr (by decide) (fun t ht hW => ⟨_, rfl, by rw [if_neg c5087, if_neg c5088, if_neg c5089, if_neg c5090], ht⟩) (fun q hq => absurd hq List.not_mem_nil) dX11_canDeal_25
set_option maxHeartbeats 4000000 in
set_option maxRecDepth 100000 in
theorem c_X2_all_1 (l : Launch) (D : va_G) (cI cS : ClassId) (h0 h1 : Nat) (x0 x1 : Int32) : Met l yX2_all wsX2_all ({ frames := 0, cells := 0, slots := 0, locals := 0 }) (PS D cI cS [(h0, .inr (2, [.ref h1, .int x0, .int x1]))] [.ref h0]) (vp_Si (fun r => r = ((1 : Int32) <<< (x0 &&& 31)) - (1 : Int32))) 0 0 (fun _ => False) := by
  refine Met.ofW (cc := cX2_all) (maxL := 1) (ret := (some .int)) (by decide) rfl ?_
  intro p e s m args below meth c s₁ B hml hv
  obtain ⟨rfl, hP, hKK⟩ := hv
  have hx := B.exec
  have hb := B.bytes
  have hr := B.returns
  have hts := atoms_spec (ws := wsX2_all) B.pre
  have hown : s.vm.findClass RX2 = some m.cls := findClass_of_methodNamed B.named
  have hlocks := B.notSynchronized
  have hK := hKK.1
  have hN := hKK.2
  have hin2 : ∀ w ∈ wsX20, w ∈ wsX2_all := by decide +kernel
  have hl := lv_entry ([.ref h0]) (n := 1) (Nat.le_of_ble_eq_true rfl)
  rw [lg_entry_eq]
  generalize (lg_sl ([.ref h0]) ++ List.replicate (1 - (lg_sl ([.ref h0])).length) Slot.unset).toArray = ls at hl ⊢
  have hl : lv_has ls 1 [(0, .ref h0)] := hl
  refine lv_iconst (v := 1) hx hb dX2_all_0 (by decide) ?_
  refine lv_aload_n hx hb dX2_all_1 rfl (lv_at hl 0 rfl) ?_
  refine va_get (D := D) (ci := 2) (v := .int x0) (C := RX2) (T := TX2) (N := 3) hx hb hts hin2 hown hK hP 0 rfl rfl 1 (by decide) (hts (.fieldLink RX2 15 "MissedPoints$Net" "size" "I") (by decide +kernel)) (fun _ h9 => h9) rfl dX2_all_2 ?_
  refine lv_ishl hx hb dX2_all_5 ?_
  refine lv_iconst (v := 1) hx hb dX2_all_6 (by decide) ?_
  refine lv_isub hx hb dX2_all_7 ?_
  exact W.iret (v := ((1 : Int32) <<< (x0 &&& 31)) - (1 : Int32)) hx hb hr (fun t ht hW => ⟨_, rfl, rfl, ht⟩) (fun q hq => absurd hq List.not_mem_nil) dX2_all_8
set_option maxHeartbeats 4000000 in
set_option maxRecDepth 100000 in
theorem c_join (l : Launch) (D : va_G) (cI cS : ClassId) (sz : Nat) (h0 h1 : Nat) (f : Nat → Int32) (ch : Int32) (k a b : Nat) (hk : k ≤ 12) (ha : a < k) (hb12 : b < k) (hab : a ≠ b) : Met l yX2_join wsX2_join ({ frames := 2, cells := 0, slots := 0, locals := 80 }) (PQ D cI cS [(h0, .inr (2, [.ref h1, .int (nI k), .int ch])), (h1, .inl (cI, 12, .inl f))] sz [.ref h0, .int (nI a), .int (nI b), .int 1]) (QV D [(h0, .inr (2, [.ref h1, .int (nI k), .int ch])), (h1, .inl (cI, 12, .inl f))] [(h0, .inr (2, [.ref h1, .int (nI k), .int (ch + 1)])), (h1, .inl (cI, 12, .inl (lay1 f a b)))] sz) 0 0 (va_A [(h0, .inr (2, [.ref h1, .int (nI k), .int ch])), (h1, .inl (cI, 12, .inl f))] sz) := by
  refine Met.ofW (cc := cX2_join) (maxL := 4) (ret := none) (by decide) rfl ?_
  intro p e s m args below meth c s₁ B hml hv
  obtain ⟨rfl, hsz, hP, hKK, hD0⟩ := hv
  have hx := B.exec
  have hb := B.bytes
  have hr := B.returns
  have hts := atoms_spec (ws := wsX2_join) B.pre
  have hown : s.vm.findClass RX2 = some m.cls := findClass_of_methodNamed B.named
  have hlocks := B.notSynchronized
  have hK := hKK.1
  have hN := hKK.2
  have hin2 : ∀ w ∈ wsX20, w ∈ wsX2_join := by decide +kernel
  subst hsz
  have hD := hD0.self (sz := s.heap.size)
  obtain ⟨A, hAe⟩ : ∃ A, A = va_A [(h0, .inr (2, [.ref h1, .int (nI k), .int ch])), (h1, .inl (cI, 12, .inl f))] s.heap.size := ⟨_, rfl⟩
  rw [← hAe] at hD
  have hA : ∀ q : Nat, s.heap.size ≤ q → A q := fun q h => by rw [hAe]; exact Or.inr h
  have hS : va_S A s.heap s.heap [] := va_S.rf
  have hl := lv_entry ([.ref h0, .int (nI a), .int (nI b), .int 1]) (n := 4) (Nat.le_of_ble_eq_true rfl)
  rw [lg_entry_eq]
  generalize (lg_sl ([.ref h0, .int (nI a), .int (nI b), .int 1]) ++ List.replicate (4 - (lg_sl ([.ref h0, .int (nI a), .int (nI b), .int 1])).length) Slot.unset).toArray = ls at hl ⊢
  have hl : lv_has ls 4 [(0, .ref h0), (1, .int (nI a)), (2, .int (nI b)), (3, .int 1)] := hl
  refine lv_aload_n hx hb dX2_join_0 rfl (lv_at hl 0 rfl) ?_
  refine lv_iload_n hx hb dX2_join_1 rfl (lv_at hl 1 rfl) ?_
  refine lv_iload_n hx hb dX2_join_2 rfl (lv_at hl 2 rfl) ?_
  have hPc := hP.sub (ws' := [(h0, .inr (2, [.ref h1, .int (nI k), .int ch]))]) [0] rfl
  refine lz_sv (As := [.int (nI a), .int (nI b)]) (rest := []) ⟨hx, hb, hml, hown, hts⟩ (c_X2_areTwo_1 l D cI cS h0 h1 (nI a) (nI b) (nI k) ch) hKK hPc (ci := 2) rfl rfl (cwV 2 hts gX2_join_X2_areTwo rfl rfl rfl (by decide +kernel) ⟨Nat.le_of_ble_eq_true rfl, Nat.le_of_ble_eq_true rfl⟩) rfl hl.1 rfl (Nat.le_of_ble_eq_true rfl) dX2_join_3 ⟨Nat.le_of_ble_eq_true rfl, Nat.le_of_ble_eq_true rfl⟩ (fun r5044 hw => ?_)
  rw [if_neg (show ¬ ((nI a) < 0) from (nI_pos (by omega)))] at hw
  rw [if_neg (show ¬ ((nI k) ≤ (nI a)) from (nI_ge ha (by omega)))] at hw
  rw [if_neg (show ¬ ((nI b) < 0) from (nI_pos (by omega)))] at hw
  rw [if_neg (show ¬ ((nI k) ≤ (nI b)) from (nI_ge hb12 (by omega)))] at hw
  rw [if_neg (show ¬ ((nI a) = (nI b)) from (fun e => hab ((nI_eq (by omega) (by omega)).mp e)))] at hw
  subst hw
  refine lv_if_ne (tgt := 10) hx hb dX2_join_6 (by decide) (fun c5045 => ?_) (fun c5045 => ?_)
  · refine lv_iload_n hx hb dX2_join_10 rfl (lv_at hl 3 rfl) ?_
    refine lv_if_eq (tgt := 41) hx hb dX2_join_11 (by decide) (fun c5046 => ?_) (fun c5046 => ?_)
    · exact absurd c5046 (by decide)
    · refine lv_aload_n hx hb dX2_join_14 rfl (lv_at hl 0 rfl) ?_
      refine va_get (D := D) (ci := 2) (v := .ref h1) (C := RX2) (T := TX2) (N := 3) hx hb hts hin2 hown hK hP 0 rfl rfl 0 (by decide) (hts (.fieldLink RX2 9 "MissedPoints$Net" "links" "[I") (by decide +kernel)) (fun _ h9 => h9) rfl dX2_join_15 ?_
      refine lv_iload_n hx hb dX2_join_18 rfl (lv_at hl 1 rfl) ?_
      refine lv_dup2_11 hx hb dX2_join_19 rfl rfl ?_
      refine lz_ald hx hb hK hP 1 0 rfl rfl a ⟨by omega, Nat.le_of_ble_eq_true rfl⟩ dX2_join_20 ?_
      refine lv_iconst (v := 1) hx hb dX2_join_21 (by decide) ?_
      refine lv_iload_n hx hb dX2_join_22 rfl (lv_at hl 2 rfl) ?_
      refine lv_ishl hx hb dX2_join_23 ?_
      refine lv_ior hx hb dX2_join_24 ?_
      refine lz_top (y := (f a ||| bt1 b)) (rfl) ?_
      refine lz_ast hx hb hK hP hD hS 1 0 rfl rfl a ⟨by omega, Nat.le_of_ble_eq_true rfl⟩ dX2_join_25 (fun H locs hP hD hS => ?_)
      have hP : va_P D cls [(h0, .inr (2, [.ref h1, .int (nI k), .int ch])), (h1, .inl (cI, 12, .inl (upd f a (f a ||| bt1 b))))] H := hP
      have hD : va_D A [(h0, .inr (2, [.ref h1, .int (nI k), .int ch])), (h1, .inl (cI, 12, .inl (upd f a (f a ||| bt1 b))))] := hD
      refine lv_aload_n hx hb dX2_join_26 rfl (lv_at hl 0 rfl) ?_
      refine va_get (D := D) (ci := 2) (v := .ref h1) (C := RX2) (T := TX2) (N := 3) hx hb hts hin2 hown hK hP 0 rfl rfl 0 (by decide) (hts (.fieldLink RX2 9 "MissedPoints$Net" "links" "[I") (by decide +kernel)) (fun _ h9 => h9) rfl dX2_join_27 ?_
      refine lv_iload_n hx hb dX2_join_30 rfl (lv_at hl 2 rfl) ?_
      refine lv_dup2_11 hx hb dX2_join_31 rfl rfl ?_
      refine lz_ald hx hb hK hP 1 0 rfl rfl b ⟨by omega, Nat.le_of_ble_eq_true rfl⟩ dX2_join_32 ?_
      refine lv_iconst (v := 1) hx hb dX2_join_33 (by decide) ?_
      refine lv_iload_n hx hb dX2_join_34 rfl (lv_at hl 1 rfl) ?_
      refine lv_ishl hx hb dX2_join_35 ?_
      refine lv_ior hx hb dX2_join_36 ?_
      refine lz_top (y := (upd f a (f a ||| bt1 b) b ||| bt1 a)) (rfl) ?_
      refine lz_ast hx hb hK hP hD hS 1 0 rfl rfl b ⟨by omega, Nat.le_of_ble_eq_true rfl⟩ dX2_join_37 (fun H locs hP hD hS => ?_)
      have hP : va_P D cls [(h0, .inr (2, [.ref h1, .int (nI k), .int ch])), (h1, .inl (cI, 12, .inl (upd (upd f a (f a ||| bt1 b)) b (upd f a (f a ||| bt1 b) b ||| bt1 a))))] H := hP
      have hD : va_D A [(h0, .inr (2, [.ref h1, .int (nI k), .int ch])), (h1, .inl (cI, 12, .inl (upd (upd f a (f a ||| bt1 b)) b (upd f a (f a ||| bt1 b) b ||| bt1 a))))] := hD
      refine lv_goto (tgt := 69) hx hb dX2_join_38 (by decide) ?_
      refine lv_aload_n hx hb dX2_join_69 rfl (lv_at hl 0 rfl) ?_
      refine lv_dup hx hb dX2_join_70 rfl ?_
      refine va_get (D := D) (ci := 2) (v := .int ch) (C := RX2) (T := TX2) (N := 3) hx hb hts hin2 hown hK hP 0 rfl rfl 2 (by decide) (hts (.fieldLink RX2 33 "MissedPoints$Net" "changes" "I") (by decide +kernel)) (fun _ h9 => h9) rfl dX2_join_71 ?_
      refine lv_iconst (v := 1) hx hb dX2_join_74 (by decide) ?_
      refine lv_iadd hx hb dX2_join_75 ?_
      refine va_put (D := D) (ci := 2) (v := .int (ch + (1 : Int32))) (ty := .int) (C := RX2) (T := TX2) (N := 3) hx hb hts hin2 tyX2 tyX2_ok nmX2 hown hK hP hD hS 0 rfl rfl 2 (by decide) (hts (.fieldLink RX2 33 "MissedPoints$Net" "changes" "I") (by decide +kernel)) (fun _ h9 => h9) rfl (by decide +kernel) rfl rfl (Nat.le_of_ble_eq_true rfl) dX2_join_76 (fun H locs hP hD hS => ?_)
      have hP : va_P D cls [(h0, .inr (2, [.ref h1, .int (nI k), .int (ch + (1 : Int32))])), (h1, .inl (cI, 12, .inl (upd (upd f a (f a ||| bt1 b)) b (upd f a (f a ||| bt1 b) b ||| bt1 a))))] H := hP
      have hD : va_D A [(h0, .inr (2, [.ref h1, .int (nI k), .int (ch + (1 : Int32))])), (h1, .inl (cI, 12, .inl (upd (upd f a (f a ||| bt1 b)) b (upd f a (f a ||| bt1 b) b ||| bt1 a))))] := hD
      have hP9 : va_P D cls [(h0, .inr (2, [.ref h1, .int (nI k), .int (ch + 1)])), (h1, .inl (cI, 12, .inl (lay1 f a b)))] H := hP.sub [0, 1] rfl
      have hD9 : va_D A [(h0, .inr (2, [.ref h1, .int (nI k), .int (ch + 1)])), (h1, .inl (cI, 12, .inl (lay1 f a b)))] := hD.sub [0, 1] (by decide) rfl
      subst hAe
      exact W.vret hx hb hr (fun t ht hW => ⟨⟨(), rfl, trivial, by rw [ht]; exact hP9, hD9⟩, hS.F ht⟩) hS.2.2 dX2_join_79
  · exact absurd c5045 (by decide)
set_option maxHeartbeats 4000000 in
set_option maxRecDepth 100000 in
theorem c_dealAnew (l : Launch) (D : va_G) (cI cS : ClassId) (sz : Nat) (h0 h1 h2 : Nat) (f : Nat → Int32) (sv zv od : Int32) (k c0 : Nat) (hk : k ≤ 12) : Met l yX2_dealAnew wsX2_dealAnew ({ frames := 3, cells := 0, slots := 0, locals := 120 }) (PQ D cI cS [(h0, .inr (2, [.ref h1, .int sv, .int (nI c0)])), (h1, .inl (cI, 12, .inl f)), (h2, .inr (0, [.int zv]))] sz [.ref h0, .int (nI k), .int od, .ref h2]) (QE (S := (Nat → Int32) × Nat) D [(h0, .inr (2, [.ref h1, .int sv, .int (nI c0)])), (h1, .inl (cI, 12, .inl f)), (h2, .inr (0, [.int zv]))] (fun u => [(h0, .inr (2, [.ref h1, .int (nI k), .int (nI (u.2))])), (h1, .inl (cI, 12, .inl u.1)), (h2, .inr (0, [.int ((dO od k zv k).2)]))]) sz (fun u => Like k u.1 (dO od k zv k).1 ∧ c0 < u.2 ∧ u.2 ≤ c0 + 200)) 0 0 (va_A [(h0, .inr (2, [.ref h1, .int sv, .int (nI c0)])), (h1, .inl (cI, 12, .inl f)), (h2, .inr (0, [.int zv]))] sz) := by
  refine Met.ofW (cc := cX2_dealAnew) (maxL := 6) (ret := none) (by decide) rfl ?_
  intro p e s m args below meth c s₁ B hml hv
  obtain ⟨rfl, hsz, hP, hKK, hD0⟩ := hv
  have hx := B.exec
  have hb := B.bytes
  have hr := B.returns
  have hts := atoms_spec (ws := wsX2_dealAnew) B.pre
  have hown : s.vm.findClass RX2 = some m.cls := findClass_of_methodNamed B.named
  have hlocks := B.notSynchronized
  have hK := hKK.1
  have hN := hKK.2
  have hin0 : ∀ w ∈ wsX00, w ∈ wsX2_dealAnew := by decide +kernel
  have hin2 : ∀ w ∈ wsX20, w ∈ wsX2_dealAnew := by decide +kernel
  subst hsz
  have hD := hD0.self (sz := s.heap.size)
  obtain ⟨A, hAe⟩ : ∃ A, A = va_A [(h0, .inr (2, [.ref h1, .int sv, .int (nI c0)])), (h1, .inl (cI, 12, .inl f)), (h2, .inr (0, [.int zv]))] s.heap.size := ⟨_, rfl⟩
  rw [← hAe] at hD
  have hA : ∀ q : Nat, s.heap.size ≤ q → A q := fun q h => by rw [hAe]; exact Or.inr h
  have hS : va_S A s.heap s.heap [] := va_S.rf
  have hl := lv_entry ([.ref h0, .int (nI k), .int od, .ref h2]) (n := 6) (Nat.le_of_ble_eq_true rfl)
  rw [lg_entry_eq]
  generalize (lg_sl ([.ref h0, .int (nI k), .int od, .ref h2]) ++ List.replicate (6 - (lg_sl ([.ref h0, .int (nI k), .int od, .ref h2])).length) Slot.unset).toArray = ls at hl ⊢
  have hl : lv_has ls 6 [(0, .ref h0), (1, .int (nI k)), (2, .int od), (3, .ref h2)] := hl
  have l2 : ∀ (r a cn : Nat) (g : Nat → Int32) (z : Int32), a + r = k → Like k g (dO od k zv a).1 → z = (dO od k zv a).2 → c0 < cn → cn ≤ c0 + 2 + 13 * a → ∀ (ls : Array Slot) (H : Heap) (locs : List Loc), va_P D cls [(h0, .inr (2, [.ref h1, .int (nI k), .int (nI cn)])), (h1, .inl (cI, 12, .inl g)), (h2, .inr (0, [.int z]))] H → va_D A [(h0, .inr (2, [.ref h1, .int (nI k), .int (nI cn)])), (h1, .inl (cI, 12, .inl g)), (h2, .inr (0, [.int z]))] → va_S A s.heap H locs → lv_has ls 6 [(4, .int (nI a)), (0, .ref h0), (1, .int (nI k)), (2, .int od), (3, .ref h2)] → W p l e (headSpec wsX2_dealAnew ({ frames := 3, cells := 0, slots := 0, locals := 120 })).room s m ([.ref h0, .int (nI k), .int od, .ref h2]).toArray below meth c H locs 0 0 (MQ below (QE (S := (Nat → Int32) × Nat) D [(h0, .inr (2, [.ref h1, .int sv, .int (nI c0)])), (h1, .inl (cI, 12, .inl f)), (h2, .inr (0, [.int zv]))] (fun u => [(h0, .inr (2, [.ref h1, .int (nI k), .int (nI (u.2))])), (h1, .inl (cI, 12, .inl u.1)), (h2, .inr (0, [.int ((dO od k zv k).2)]))]) s.heap.size (fun u => Like k u.1 (dO od k zv k).1 ∧ c0 < u.2 ∧ u.2 ≤ c0 + 200)) ([.ref h0, .int (nI k), .int od, .ref h2]).toArray s 0 0 (va_A [(h0, .inr (2, [.ref h1, .int sv, .int (nI c0)])), (h1, .inl (cI, 12, .inl f)), (h2, .inr (0, [.int zv]))] s.heap.size)) (F0 m 12 ls []) := by
    intro r
    induction r with
    | zero =>
      intro a cn g z ha hg hz b1 b2 ls H locs hP hD hS hl
      obtain rfl : a = k := by omega
      subst hz
      refine lv_iload hx hb dX2_dealAnew_12 (lv_at hl 0 rfl) ?_
      refine lv_aload_n hx hb dX2_dealAnew_14 rfl (lv_at hl 1 rfl) ?_
      refine va_get (D := D) (ci := 2) (v := .int (nI a)) (C := RX2) (T := TX2) (N := 3) hx hb hts hin2 hown hK hP 0 rfl rfl 1 (by decide) (hts (.fieldLink RX2 15 "MissedPoints$Net" "size" "I") (by decide +kernel)) (fun _ h9 => h9) rfl dX2_dealAnew_15 ?_
      refine lv_icmp_ge (tgt := 68) hx hb dX2_dealAnew_18 (by decide) (fun c5047 => ?_) (fun c5047 => ?_)
      · have hP9 := hP.sub (ws' := [(h0, .inr (2, [.ref h1, .int (nI a), .int (nI cn)])), (h1, .inl (cI, 12, .inl g)), (h2, .inr (0, [.int ((dO od a zv a).2)]))]) [0, 1, 2] rfl
        have hD9 := hD.sub (ws' := [(h0, .inr (2, [.ref h1, .int (nI a), .int (nI cn)])), (h1, .inl (cI, 12, .inl g)), (h2, .inr (0, [.int ((dO od a zv a).2)]))]) [0, 1, 2] (by decide) rfl
        subst hAe
        exact W.vret hx hb hr (fun t ht hW => ⟨⟨(g, cn), rfl, ⟨hg, b1, by show cn ≤ c0 + 200; omega⟩, by rw [ht]; exact hP9, hD9⟩, hS.F ht⟩) hS.2.2 dX2_dealAnew_68
      · exact absurd (nI_le (Nat.le_refl _) (by omega)) c5047
    | succ r ih =>
      intro a cn g z ha hg hz b1 b2 ls H locs hP hD hS hl
      have l3 : ∀ (r2 q cn : Nat) (g : Nat → Int32) (z : Int32), a + 1 + q + r2 = k → Like k g (dI od a (dO od k zv a) q).1 → z = (dI od a (dO od k zv a) q).2 → c0 < cn → cn ≤ c0 + 2 + 13 * a + q → ∀ (ls : Array Slot) (H : Heap) (locs : List Loc), va_P D cls [(h0, .inr (2, [.ref h1, .int (nI k), .int (nI cn)])), (h1, .inl (cI, 12, .inl g)), (h2, .inr (0, [.int z]))] H → va_D A [(h0, .inr (2, [.ref h1, .int (nI k), .int (nI cn)])), (h1, .inl (cI, 12, .inl g)), (h2, .inr (0, [.int z]))] → va_S A s.heap H locs → lv_has ls 6 [(5, .int (nI (a + 1 + q))), (4, .int (nI a)), (0, .ref h0), (1, .int (nI k)), (2, .int od), (3, .ref h2)] → W p l e (headSpec wsX2_dealAnew ({ frames := 3, cells := 0, slots := 0, locals := 120 })).room s m ([.ref h0, .int (nI k), .int od, .ref h2]).toArray below meth c H locs 0 0 (MQ below (QE (S := (Nat → Int32) × Nat) D [(h0, .inr (2, [.ref h1, .int sv, .int (nI c0)])), (h1, .inl (cI, 12, .inl f)), (h2, .inr (0, [.int zv]))] (fun u => [(h0, .inr (2, [.ref h1, .int (nI k), .int (nI (u.2))])), (h1, .inl (cI, 12, .inl u.1)), (h2, .inr (0, [.int ((dO od k zv k).2)]))]) s.heap.size (fun u => Like k u.1 (dO od k zv k).1 ∧ c0 < u.2 ∧ u.2 ≤ c0 + 200)) ([.ref h0, .int (nI k), .int od, .ref h2]).toArray s 0 0 (va_A [(h0, .inr (2, [.ref h1, .int sv, .int (nI c0)])), (h1, .inl (cI, 12, .inl f)), (h2, .inr (0, [.int zv]))] s.heap.size)) (F0 m 27 ls []) := by
        intro r2
        induction r2 with
        | zero =>
          intro q cn g z hq hg hz b1 b2 ls H locs hP hD hS hl
          refine lv_iload hx hb dX2_dealAnew_27 (lv_at hl 0 rfl) ?_
          refine lv_aload_n hx hb dX2_dealAnew_29 rfl (lv_at hl 2 rfl) ?_
          refine va_get (D := D) (ci := 2) (v := .int (nI k)) (C := RX2) (T := TX2) (N := 3) hx hb hts hin2 hown hK hP 0 rfl rfl 1 (by decide) (hts (.fieldLink RX2 15 "MissedPoints$Net" "size" "I") (by decide +kernel)) (fun _ h9 => h9) rfl dX2_dealAnew_30 ?_
          refine lv_icmp_ge (tgt := 62) hx hb dX2_dealAnew_33 (by decide) (fun c5048 => ?_) (fun c5048 => ?_)
          · refine lv_iinc (v := (nI (a + 1))) (lv' := [(4, .int (nI (a + 1))), (5, .int (nI (a + 1 + q))), (0, .ref h0), (1, .int (nI k)), (2, .int od), (3, .ref h2)]) hx hb dX2_dealAnew_62 hl (k := 1) rfl (nI_1 _) (by decide) rfl (fun ls hl => ?_)
            refine lv_goto (tgt := 12) hx hb dX2_dealAnew_65 (by decide) ?_
            exact ih (a + 1) cn g z (by omega) (by show Like k g (dI od a (dO od k zv a) (k - (a + 1))).1; rw [show k - (a + 1) = q by omega]; exact hg) (by show z = (dI od a (dO od k zv a) (k - (a + 1))).2; rw [show k - (a + 1) = q by omega]; exact hz) b1 (by omega) ls H locs hP hD hS (lv_sub hl [0, 2, 3, 4, 5] rfl)
          · exact absurd (nI_le (show k ≤ a + 1 + q by omega) (by omega)) c5048
        | succ r2 ih2 =>
          intro q cn g z hq hg hz b1 b2 ls H locs hP hD hS hl
          refine lv_iload hx hb dX2_dealAnew_27 (lv_at hl 0 rfl) ?_
          refine lv_aload_n hx hb dX2_dealAnew_29 rfl (lv_at hl 2 rfl) ?_
          refine va_get (D := D) (ci := 2) (v := .int (nI k)) (C := RX2) (T := TX2) (N := 3) hx hb hts hin2 hown hK hP 0 rfl rfl 1 (by decide) (hts (.fieldLink RX2 15 "MissedPoints$Net" "size" "I") (by decide +kernel)) (fun _ h9 => h9) rfl dX2_dealAnew_30 ?_
          refine lv_icmp_ge (tgt := 62) hx hb dX2_dealAnew_33 (by decide) (fun c5049 => ?_) (fun c5049 => ?_)
          · exact absurd c5049 (nI_ge (show a + 1 + q < k by omega) (by omega))
          · refine lv_aload_n hx hb dX2_dealAnew_36 rfl (lv_at hl 5 rfl) ?_
            have hPc := hP.sub (ws' := [(h2, .inr (0, [.int z]))]) [2] rfl
            have hDc := hD.sub (ws' := [(h2, .inr (0, [.int z]))]) [2] (by decide) rfl
            refine lz_qi (wr := [(h0, .inr (2, [.ref h1, .int (nI k), .int (nI cn)])), (h1, .inl (cI, 12, .inl g))]) (w1 := [(h2, .inr (0, [.int ((z * (1103515245 : Int32)) + (12345 : Int32))]))]) (As := []) (rest := []) ⟨hx, hb, hml, hown, hts⟩ (c_X0_draw_0 l D cI cS _ h2 z) hKK hP hD hS hA [2] [0, 1] (by decide) rfl rfl (by decide) (by decide) hPc hDc (ci := 0) rfl rfl (cwV 0 hts gX2_dealAnew_X0_draw rfl rfl rfl (by decide +kernel) ⟨Nat.le_of_ble_eq_true rfl, Nat.le_of_ble_eq_true rfl⟩) rfl hl.1 rfl (Nat.le_of_ble_eq_true rfl) dX2_dealAnew_37 ⟨Nat.le_of_ble_eq_true rfl, Nat.le_of_ble_eq_true rfl⟩ (fun r5050 H locs hw hP hD hS => ?_)
            have hP : va_P D cls [(h0, .inr (2, [.ref h1, .int (nI k), .int (nI cn)])), (h1, .inl (cI, 12, .inl g)), (h2, .inr (0, [.int ((z * (1103515245 : Int32)) + (12345 : Int32))]))] H := hP
            have hD : va_D A [(h0, .inr (2, [.ref h1, .int (nI k), .int (nI cn)])), (h1, .inl (cI, 12, .inl g)), (h2, .inr (0, [.int ((z * (1103515245 : Int32)) + (12345 : Int32))]))] := hD
            subst hw
            refine lz_top (y := zd z) rfl ?_
            have hP : va_P D cls [(h0, .inr (2, [.ref h1, .int (nI k), .int (nI cn)])), (h1, .inl (cI, 12, .inl g)), (h2, .inr (0, [.int (zs z)]))] H := hP
            have hD : va_D A [(h0, .inr (2, [.ref h1, .int (nI k), .int (nI cn)])), (h1, .inl (cI, 12, .inl g)), (h2, .inr (0, [.int (zs z)]))] := hD
            refine lv_bipush (v := 10) hx hb dX2_dealAnew_40 (by decide) ?_
            refine lv_irem hx hb dX2_dealAnew_42 (by decide) ?_
            refine lz_top (y := (zr z)) (rfl) ?_
            refine lv_iload_n hx hb dX2_dealAnew_43 rfl (lv_at hl 4 rfl) ?_
            refine lv_icmp_ge (tgt := 56) hx hb dX2_dealAnew_44 (by decide) (fun c5051 => ?_) (fun c5051 => ?_)
            · refine lv_iinc (v := (nI (a + 1 + (q + 1)))) (lv' := [(5, .int (nI (a + 1 + (q + 1)))), (4, .int (nI a)), (0, .ref h0), (1, .int (nI k)), (2, .int od), (3, .ref h2)]) hx hb dX2_dealAnew_56 hl (k := 0) rfl (nI_1 _) (by decide) rfl (fun ls hl => ?_)
              refine lv_goto (tgt := 27) hx hb dX2_dealAnew_59 (by decide) ?_
              exact ih2 (q + 1) cn g (zs z) (by omega) (by show Like k g (dst od a (a + 1 + q) (dI od a (dO od k zv a) q)).1; unfold dst; rw [← hz, if_pos c5051]; exact hg) (by show zs z = zs (dI od a (dO od k zv a) q).2; rw [← hz]) (by omega) (by omega) ls H locs (hP.sub [0, 1, 2] rfl) (hD.sub [0, 1, 2] (by decide) rfl) hS hl
            · refine lv_aload_n hx hb dX2_dealAnew_47 rfl (lv_at hl 2 rfl) ?_
              refine lv_iload hx hb dX2_dealAnew_48 (lv_at hl 1 rfl) ?_
              refine lv_iload hx hb dX2_dealAnew_50 (lv_at hl 0 rfl) ?_
              refine lv_iconst (v := 1) hx hb dX2_dealAnew_52 (by decide) ?_
              have hPc := hP.sub (ws' := [(h0, .inr (2, [.ref h1, .int (nI k), .int (nI cn)])), (h1, .inl (cI, 12, .inl g))]) [0, 1] rfl
              have hDc := hD.sub (ws' := [(h0, .inr (2, [.ref h1, .int (nI k), .int (nI cn)])), (h1, .inl (cI, 12, .inl g))]) [0, 1] (by decide) rfl
              refine lz_qv (wr := [(h2, .inr (0, [.int (zs z)]))]) (w1 := [(h0, .inr (2, [.ref h1, .int (nI k), .int (nI cn + 1)])), (h1, .inl (cI, 12, .inl (lay1 g a (a + 1 + q))))]) (As := [.int (nI a), .int (nI (a + 1 + q)), .int 1]) (rest := []) ⟨hx, hb, hml, hown, hts⟩ (c_join l D cI cS _ h0 h1 g (nI cn) k a (a + 1 + q) hk (by omega) (by omega) (by omega)) hKK hP hD hS hA [0, 1] [2] (by decide) rfl rfl (by decide) (by decide) hPc hDc (ci := 2) rfl rfl (cwV 3 hts gX2_dealAnew_X2_join rfl rfl rfl (by decide +kernel) ⟨Nat.le_of_ble_eq_true rfl, Nat.le_of_ble_eq_true rfl⟩) rfl hl.1 rfl (Nat.le_of_ble_eq_true rfl) dX2_dealAnew_53 ⟨Nat.le_of_ble_eq_true rfl, Nat.le_of_ble_eq_true rfl⟩ (fun H locs hP hD hS => ?_)
              have hP : va_P D cls [(h2, .inr (0, [.int (zs z)])), (h0, .inr (2, [.ref h1, .int (nI k), .int (nI cn + 1)])), (h1, .inl (cI, 12, .inl (lay1 g a (a + 1 + q))))] H := hP
              have hD : va_D A [(h2, .inr (0, [.int (zs z)])), (h0, .inr (2, [.ref h1, .int (nI k), .int (nI cn + 1)])), (h1, .inl (cI, 12, .inl (lay1 g a (a + 1 + q))))] := hD
              rw [nI_1] at hP hD
              have hP : va_P D cls [(h2, .inr (0, [.int (zs z)])), (h0, .inr (2, [.ref h1, .int (nI k), .int (nI (cn + 1))])), (h1, .inl (cI, 12, .inl (lay1 g a (a + 1 + q))))] H := hP
              have hD : va_D A [(h2, .inr (0, [.int (zs z)])), (h0, .inr (2, [.ref h1, .int (nI k), .int (nI (cn + 1))])), (h1, .inl (cI, 12, .inl (lay1 g a (a + 1 + q))))] := hD
              refine lv_iinc (v := (nI (a + 1 + (q + 1)))) (lv' := [(5, .int (nI (a + 1 + (q + 1)))), (4, .int (nI a)), (0, .ref h0), (1, .int (nI k)), (2, .int od), (3, .ref h2)]) hx hb dX2_dealAnew_56 hl (k := 0) rfl (nI_1 _) (by decide) rfl (fun ls hl => ?_)
              refine lv_goto (tgt := 27) hx hb dX2_dealAnew_59 (by decide) ?_
              exact ih2 (q + 1) (cn + 1) (lay1 g a (a + 1 + q)) (zs z) (by omega) (by show Like k (lay1 g a (a + 1 + q)) (dst od a (a + 1 + q) (dI od a (dO od k zv a) q)).1; unfold dst; rw [← hz, if_neg c5051]; exact hg.lay (by omega) (by omega)) (by show zs z = zs (dI od a (dO od k zv a) q).2; rw [← hz]) (by omega) (by omega) ls H locs (hP.sub [1, 2, 0] rfl) (hD.sub [1, 2, 0] (by decide) rfl) hS hl
      refine lv_iload hx hb dX2_dealAnew_12 (lv_at hl 0 rfl) ?_
      refine lv_aload_n hx hb dX2_dealAnew_14 rfl (lv_at hl 1 rfl) ?_
      refine va_get (D := D) (ci := 2) (v := .int (nI k)) (C := RX2) (T := TX2) (N := 3) hx hb hts hin2 hown hK hP 0 rfl rfl 1 (by decide) (hts (.fieldLink RX2 15 "MissedPoints$Net" "size" "I") (by decide +kernel)) (fun _ h9 => h9) rfl dX2_dealAnew_15 ?_
      refine lv_icmp_ge (tgt := 68) hx hb dX2_dealAnew_18 (by decide) (fun c5052 => ?_) (fun c5052 => ?_)
      · exact absurd c5052 (nI_ge (show a < k by omega) (by omega))
      · refine lv_iload hx hb dX2_dealAnew_21 (lv_at hl 0 rfl) ?_
        refine lv_iconst (v := 1) hx hb dX2_dealAnew_23 (by decide) ?_
        refine lv_iadd hx hb dX2_dealAnew_24 ?_
        refine lz_top (y := (nI (a + 1))) (nI_1 _) ?_
        refine lv_istore (lv' := [(5, .int (nI (a + 1))), (4, .int (nI a)), (0, .ref h0), (1, .int (nI k)), (2, .int od), (3, .ref h2)]) hx hb dX2_dealAnew_25 hl (by decide) rfl (fun ls hl => ?_)
        exact l3 r 0 cn g z (by omega) hg hz b1 (by omega) ls H locs hP hD hS hl
  refine lv_aload_n hx hb dX2_dealAnew_0 rfl (lv_at hl 0 rfl) ?_
  have hPc := hP.sub (ws' := [(h0, .inr (2, [.ref h1, .int sv, .int (nI c0)])), (h1, .inl (cI, 12, .inl f))]) [0, 1] rfl
  have hDc := hD.sub (ws' := [(h0, .inr (2, [.ref h1, .int sv, .int (nI c0)])), (h1, .inl (cI, 12, .inl f))]) [0, 1] (by decide) rfl
  refine lz_qv (wr := [(h2, .inr (0, [.int zv]))]) (w1 := [(h0, .inr (2, [.ref h1, .int 0, .int ((nI c0) + (1 : Int32))])), (h1, .inl (cI, 12, .inl (upd (upd (upd (upd (upd (upd (upd (upd (upd (upd (upd (upd f 0 0) 1 0) 2 0) 3 0) 4 0) 5 0) 6 0) 7 0) 8 0) 9 0) 10 0) 11 0)))]) (As := []) (rest := []) ⟨hx, hb, hml, hown, hts⟩ (c_X2_empty_0 l D cI cS _ h0 h1 (f) sv (nI c0)) hKK hP hD hS hA [0, 1] [2] (by decide) rfl rfl (by decide) (by decide) hPc hDc (ci := 2) rfl rfl (cwV 0 hts gX2_dealAnew_X2_empty rfl rfl rfl (by decide +kernel) ⟨Nat.le_of_ble_eq_true rfl, Nat.le_of_ble_eq_true rfl⟩) rfl hl.1 rfl (Nat.le_of_ble_eq_true rfl) dX2_dealAnew_1 ⟨Nat.le_of_ble_eq_true rfl, Nat.le_of_ble_eq_true rfl⟩ (fun H locs hP hD hS => ?_)
  have hP : va_P D cls [(h2, .inr (0, [.int zv])), (h0, .inr (2, [.ref h1, .int 0, .int ((nI c0) + (1 : Int32))])), (h1, .inl (cI, 12, .inl (upd (upd (upd (upd (upd (upd (upd (upd (upd (upd (upd (upd f 0 0) 1 0) 2 0) 3 0) 4 0) 5 0) 6 0) 7 0) 8 0) 9 0) 10 0) 11 0)))] H := hP
  have hD : va_D A [(h2, .inr (0, [.int zv])), (h0, .inr (2, [.ref h1, .int 0, .int ((nI c0) + (1 : Int32))])), (h1, .inl (cI, 12, .inl (upd (upd (upd (upd (upd (upd (upd (upd (upd (upd (upd (upd f 0 0) 1 0) 2 0) 3 0) 4 0) 5 0) 6 0) 7 0) 8 0) 9 0) 10 0) 11 0)))] := hD
  have hP9 := lz_pc (f := (upd (upd (upd (upd (upd (upd (upd (upd (upd (upd (upd (upd f 0 0) 1 0) 2 0) 3 0) 4 0) 5 0) 6 0) 7 0) 8 0) 9 0) 10 0) 11 0)) (g := fun _ => 0) 2 rfl (fun j hj => by simp only [upd]; (repeat' split) <;> first | rfl | omega) hP
  have hP : va_P D cls [(h2, .inr (0, [.int zv])), (h0, .inr (2, [.ref h1, .int 0, .int ((nI c0) + (1 : Int32))])), (h1, .inl (cI, 12, .inl (fun _ => 0)))] H := hP9
  have hD : va_D A [(h2, .inr (0, [.int zv])), (h0, .inr (2, [.ref h1, .int 0, .int ((nI c0) + (1 : Int32))])), (h1, .inl (cI, 12, .inl (fun _ => 0)))] := va_D.set (p := 2) hD rfl
  refine lv_aload_n hx hb dX2_dealAnew_4 rfl (lv_at hl 0 rfl) ?_
  refine lv_iload_n hx hb dX2_dealAnew_5 rfl (lv_at hl 1 rfl) ?_
  have hPc := hP.sub (ws' := [(h0, .inr (2, [.ref h1, .int 0, .int ((nI c0) + (1 : Int32))]))]) [1] rfl
  have hDc := hD.sub (ws' := [(h0, .inr (2, [.ref h1, .int 0, .int ((nI c0) + (1 : Int32))]))]) [1] (by decide) rfl
  refine lz_qv (wr := [(h2, .inr (0, [.int zv])), (h1, .inl (cI, 12, .inl (fun _ => 0)))]) (w1 := [(h0, .inr (2, [.ref h1, .int (if (12 : Int32) < (nI k) then (12 : Int32) else (nI k)), .int (((nI c0) + (1 : Int32)) + (1 : Int32))]))]) (As := [.int (nI k)]) (rest := []) ⟨hx, hb, hml, hown, hts⟩ (c_X2_add_1 l D cI cS _ h0 h1 (nI k) ((nI c0) + (1 : Int32))) hKK hP hD hS hA [1] [0, 2] (by decide) rfl rfl (by decide) (by decide) hPc hDc (ci := 2) rfl rfl (cwV 1 hts gX2_dealAnew_X2_add rfl rfl rfl (by decide +kernel) ⟨Nat.le_of_ble_eq_true rfl, Nat.le_of_ble_eq_true rfl⟩) rfl hl.1 rfl (Nat.le_of_ble_eq_true rfl) dX2_dealAnew_6 ⟨Nat.le_of_ble_eq_true rfl, Nat.le_of_ble_eq_true rfl⟩ (fun H locs hP hD hS => ?_)
  have hP : va_P D cls [(h2, .inr (0, [.int zv])), (h1, .inl (cI, 12, .inl (fun _ => 0))), (h0, .inr (2, [.ref h1, .int (if (12 : Int32) < (nI k) then (12 : Int32) else (nI k)), .int (((nI c0) + (1 : Int32)) + (1 : Int32))]))] H := hP
  have hD : va_D A [(h2, .inr (0, [.int zv])), (h1, .inl (cI, 12, .inl (fun _ => 0))), (h0, .inr (2, [.ref h1, .int (if (12 : Int32) < (nI k) then (12 : Int32) else (nI k)), .int (((nI c0) + (1 : Int32)) + (1 : Int32))]))] := hD
  rw [if_neg (show ¬ (12 : Int32) < nI k from nI_nlt (a := 12) hk (by omega)), nI_1, nI_1] at hP hD
  have hP : va_P D cls [(h2, .inr (0, [.int zv])), (h1, .inl (cI, 12, .inl (fun _ => 0))), (h0, .inr (2, [.ref h1, .int (nI k), .int (nI (c0 + 2))]))] H := hP
  have hD : va_D A [(h2, .inr (0, [.int zv])), (h1, .inl (cI, 12, .inl (fun _ => 0))), (h0, .inr (2, [.ref h1, .int (nI k), .int (nI (c0 + 2))]))] := hD
  refine lv_iconst (v := 0) hx hb dX2_dealAnew_9 (by decide) ?_
  refine lv_istore (lv' := [(4, .int 0), (0, .ref h0), (1, .int (nI k)), (2, .int od), (3, .ref h2)]) hx hb dX2_dealAnew_10 hl (by decide) rfl (fun ls hl => ?_)
  exact l2 k 0 (c0 + 2) (fun _ => 0) zv (by omega) (fun j hj => rfl) rfl (by omega) (by omega) ls H locs (hP.sub [2, 1, 0] rfl) (hD.sub [2, 1, 0] (by decide) rfl) hS (by rw [nI_0]; exact hl)
set_option maxRecDepth 20000 in
theorem ggX11_times_X11_canDeal : GoodIn wsX11_times wsX11_canDeal := goodIn_r _ [7] rfl (by decide +kernel)
set_option maxRecDepth 20000 in
theorem gX11_times_X11_canDeal : GoodIn wsX11_times (va_wsS RX11 279 yX11_canDeal wsX11_canDeal) := goodIn_app (goodIn_of _ (by decide +kernel)) ggX11_times_X11_canDeal
theorem dX11_times_0 : decode cX11_times 0 = .ok (.iload_n 1, 1) := by decide +kernel
theorem dX11_times_1 : decode cX11_times 1 = .ok (.iconst 1, 1) := by decide +kernel
theorem dX11_times_11 : decode cX11_times 11 = .ok (.iload_n 2, 1) := by decide +kernel
theorem dX11_times_12 : decode cX11_times 12 = .ok (.iload_n 3, 1) := by decide +kernel
theorem dX11_times_13 : decode cX11_times 13 = .ok (.invokestatic 279, 3) := by decide +kernel
theorem dX11_times_16 : decode cX11_times 16 = .ok (.ifCond .eq 15, 3) := by decide +kernel
theorem dX11_times_19 : decode cX11_times 19 = .ok (.iload 4, 2) := by decide +kernel
theorem dX11_times_2 : decode cX11_times 2 = .ok (.if_icmp .lt 29, 3) := by decide +kernel
theorem dX11_times_21 : decode cX11_times 21 = .ok (.ifCond .lt 10, 3) := by decide +kernel
theorem dX11_times_24 : decode cX11_times 24 = .ok (.iload 4, 2) := by decide +kernel
theorem dX11_times_26 : decode cX11_times 26 = .ok (.bipush 12, 2) := by decide +kernel
theorem dX11_times_28 : decode cX11_times 28 = .ok (.if_icmp .le 6, 3) := by decide +kernel
theorem dX11_times_31 : decode cX11_times 31 = .ok (.bipush (-2), 2) := by decide +kernel
theorem dX11_times_33 : decode cX11_times 33 = .ok (.ireturn, 1) := by decide +kernel
theorem dX11_times_5 : decode cX11_times 5 = .ok (.iload_n 1, 1) := by decide +kernel
theorem dX11_times_6 : decode cX11_times 6 = .ok (.bipush 20, 2) := by decide +kernel
theorem dX11_times_8 : decode cX11_times 8 = .ok (.if_icmp .gt 23, 3) := by decide +kernel
theorem dX11_times_100 : decode cX11_times 100 = .ok (.iload 5, 2) := by decide +kernel
theorem dX11_times_102 : decode cX11_times 102 = .ok (.putfield 141, 3) := by decide +kernel
theorem dX11_times_105 : decode cX11_times 105 = .ok (.iload 6, 2) := by decide +kernel
theorem dX11_times_107 : decode cX11_times 107 = .ok (.ireturn, 1) := by decide +kernel
theorem dX11_times_49 : decode cX11_times 49 = .ok (.iload 7, 2) := by decide +kernel
theorem dX11_times_51 : decode cX11_times 51 = .ok (.iload_n 1, 1) := by decide +kernel
theorem dX11_times_52 : decode cX11_times 52 = .ok (.if_icmp .ge 44, 3) := by decide +kernel
theorem dX11_times_96 : decode cX11_times 96 = .ok (.aload_n 0, 1) := by decide +kernel
theorem dX11_times_97 : decode cX11_times 97 = .ok (.getfield 53, 3) := by decide +kernel
set_option maxRecDepth 20000 in
theorem ggX11_times_X2_all : GoodIn wsX11_times wsX2_all := goodIn_r _ [50, 13, 116, 117, 118] rfl (by decide +kernel)
set_option maxRecDepth 20000 in
theorem gX11_times_X2_all : GoodIn wsX11_times (wsV RX11 128 RX2 yX2_all wsX2_all) := goodIn_app (goodIn_of _ (by decide +kernel)) ggX11_times_X2_all
set_option maxRecDepth 20000 in
theorem ggX11_times_X2_dealAnew : GoodIn wsX11_times wsX2_dealAnew := goodIn_r _ (12 :: 13 :: 14 :: 15 :: 16 :: 11 :: 17 :: 18 :: 19 :: 20 :: 21 :: 22 :: 23 :: 24 :: 25 :: 26 :: 27 :: 28 :: 29 :: 30 :: 31 :: 32 :: 33 :: 34 :: 35 :: 36 :: 37 :: 38 :: 39 :: 40 :: 41 :: 42 :: 43 :: 44 :: 45 :: 46 :: 116 :: 117 :: 118 :: 115 :: []) rfl (by decide +kernel)
set_option maxRecDepth 20000 in
theorem gX11_times_X2_dealAnew : GoodIn wsX11_times (wsV RX11 282 RX2 yX2_dealAnew wsX2_dealAnew) := goodIn_app (goodIn_of _ (by decide +kernel)) ggX11_times_X2_dealAnew
set_option maxRecDepth 20000 in
theorem ggX11_times_X3_lack : GoodIn wsX11_times wsX3_lack := goodIn_r _ (55 :: 56 :: 57 :: 58 :: 59 :: 60 :: 61 :: 62 :: 63 :: 64 :: 65 :: 54 :: 66 :: 67 :: 68 :: 69 :: 70 :: 71 :: 72 :: 73 :: 74 :: 75 :: 76 :: 77 :: 78 :: 79 :: 80 :: 81 :: 82 :: 83 :: 84 :: 85 :: 86 :: 87 :: 88 :: 89 :: 90 :: 91 :: 92 :: 93 :: 94 :: 95 :: 96 :: 97 :: 98 :: 119 :: 120 :: 121 :: 122 :: 116 :: 117 :: 118 :: 123 :: 124 :: []) rfl (by decide +kernel)
set_option maxRecDepth 20000 in
theorem gX11_times_X3_lack : GoodIn wsX11_times (wsV RX11 134 RX3 yX3_lack wsX3_lack) := goodIn_app (goodIn_of _ (by decide +kernel)) ggX11_times_X3_lack
theorem dX11_times_55 : decode cX11_times 55 = .ok (.aload_n 0, 1) := by decide +kernel
theorem dX11_times_56 : decode cX11_times 56 = .ok (.getfield 41, 3) := by decide +kernel
theorem dX11_times_59 : decode cX11_times 59 = .ok (.iload_n 2, 1) := by decide +kernel
theorem dX11_times_60 : decode cX11_times 60 = .ok (.iload_n 3, 1) := by decide +kernel
theorem dX11_times_61 : decode cX11_times 61 = .ok (.aload_n 0, 1) := by decide +kernel
theorem dX11_times_62 : decode cX11_times 62 = .ok (.getfield 53, 3) := by decide +kernel
theorem dX11_times_65 : decode cX11_times 65 = .ok (.invokevirtual 282, 3) := by decide +kernel
theorem dX11_times_68 : decode cX11_times 68 = .ok (.aload_n 0, 1) := by decide +kernel
theorem dX11_times_69 : decode cX11_times 69 = .ok (.getfield 44, 3) := by decide +kernel
theorem dX11_times_72 : decode cX11_times 72 = .ok (.aload_n 0, 1) := by decide +kernel
theorem dX11_times_73 : decode cX11_times 73 = .ok (.getfield 41, 3) := by decide +kernel
theorem dX11_times_76 : decode cX11_times 76 = .ok (.invokevirtual 128, 3) := by decide +kernel
theorem dX11_times_79 : decode cX11_times 79 = .ok (.invokevirtual 134, 3) := by decide +kernel
theorem dX11_times_82 : decode cX11_times 82 = .ok (.iload 4, 2) := by decide +kernel
theorem dX11_times_84 : decode cX11_times 84 = .ok (.if_icmp .ne 6, 3) := by decide +kernel
theorem dX11_times_87 : decode cX11_times 87 = .ok (.iinc 6 1, 3) := by decide +kernel
theorem dX11_times_90 : decode cX11_times 90 = .ok (.iinc 7 1, 3) := by decide +kernel
theorem dX11_times_93 : decode cX11_times 93 = .ok (.goto (-44), 3) := by decide +kernel
theorem dX11_times_34 : decode cX11_times 34 = .ok (.aload_n 0, 1) := by decide +kernel
theorem dX11_times_35 : decode cX11_times 35 = .ok (.getfield 53, 3) := by decide +kernel
theorem dX11_times_38 : decode cX11_times 38 = .ok (.getfield 141, 3) := by decide +kernel
theorem dX11_times_41 : decode cX11_times 41 = .ok (.istore 5, 2) := by decide +kernel
theorem dX11_times_43 : decode cX11_times 43 = .ok (.iconst 0, 1) := by decide +kernel
theorem dX11_times_44 : decode cX11_times 44 = .ok (.istore 6, 2) := by decide +kernel
theorem dX11_times_46 : decode cX11_times 46 = .ok (.iconst 0, 1) := by decide +kernel
theorem dX11_times_47 : decode cX11_times 47 = .ok (.istore 7, 2) := by decide +kernel
set_option maxHeartbeats 4000000 in
set_option maxRecDepth 100000 in
theorem c_X11_timesG (l : Launch) (D : va_G) (cI cS : ClassId) (sz : Nat) (h0 h1 h2 h3 h4 h5 h6 h7 h8 h9 h10 h11 h12 h13 h14 n1 n2 n3 n4 n5 : Nat) (i7 i8 sv0 zv : Int32) (g0 mg0 : Nat → Int32) (cn0 ag0 : Nat) (x0 x1 x2 x3 : Int32) (hsv0 : Rg 0 12 sv0) (hcn0 : cn0 ≤ 2 ^ 30) (hag0 : ag0 ≤ 32700) (hms0 : MS ag0 mg0) : Met l yX11_times wsX11_times ({ frames := 24, cells := 0, slots := 0, locals := 960 }) (PQ D cI cS [(h0, .inr (11, [.ref h1, .ref h2, .ref h3, .ref h4, .ref h5, .ref h6, .ref h7, .int i7, .int i8, .ref h8, .ref h9, .ref h10, .ref h11, .ref h12, .ref h13, .ref h14])), (h5, .inr (2, [.ref n1, .int sv0, .int (nI cn0)])), (n1, .inl (cI, 12, .inl g0)), (h6, .inr (3, [.ref h5, .ref n2, .ref n4, .int (nI cn0)])), (n2, .inr (1, [.ref n3, .int (nI ag0)])), (n3, .inl (cI, 4096, .inl mg0)), (n4, .inr (1, [.ref n5, .int (nI ag0)])), (h8, .inr (0, [.int zv]))] sz [.ref h0, .int x0, .int x1, .int x2, .int x3]) (QF (S := Int32 × Nat × Nat × (Nat → Int32) × (Nat → Int32)) D [(h0, .inr (11, [.ref h1, .ref h2, .ref h3, .ref h4, .ref h5, .ref h6, .ref h7, .int i7, .int i8, .ref h8, .ref h9, .ref h10, .ref h11, .ref h12, .ref h13, .ref h14])), (h5, .inr (2, [.ref n1, .int sv0, .int (nI cn0)])), (n1, .inl (cI, 12, .inl g0)), (h6, .inr (3, [.ref h5, .ref n2, .ref n4, .int (nI cn0)])), (n2, .inr (1, [.ref n3, .int (nI ag0)])), (n3, .inl (cI, 4096, .inl mg0)), (n4, .inr (1, [.ref n5, .int (nI ag0)])), (h8, .inr (0, [.int zv]))] (fun q => [(h0, .inr (11, [.ref h1, .ref h2, .ref h3, .ref h4, .ref h5, .ref h6, .ref h7, .int i7, .int i8, .ref h8, .ref h9, .ref h10, .ref h11, .ref h12, .ref h13, .ref h14])), (h5, .inr (2, [.ref n1, .int q.1, .int (nI (q.2.1))])), (n1, .inl (cI, 12, .inl q.2.2.2.1)), (h6, .inr (3, [.ref h5, .ref n2, .ref n4, .int (nI (q.2.1))])), (n2, .inr (1, [.ref n3, .int (nI (q.2.2.1))])), (n3, .inl (cI, 4096, .inl q.2.2.2.2)), (n4, .inr (1, [.ref n5, .int (nI (q.2.2.1))])), (h8, .inr (0, [.int zv]))]) sz (fun r q => r = tmX x0 x1 x2 x3 zv ∧ Rg 0 12 q.1 ∧ q.2.1 ≤ cn0 + 4000 ∧ q.2.2.1 ≤ ag0 + 20 ∧ MS q.2.2.1 q.2.2.2.2)) 0 0 (va_A [(h0, .inr (11, [.ref h1, .ref h2, .ref h3, .ref h4, .ref h5, .ref h6, .ref h7, .int i7, .int i8, .ref h8, .ref h9, .ref h10, .ref h11, .ref h12, .ref h13, .ref h14])), (h5, .inr (2, [.ref n1, .int sv0, .int (nI cn0)])), (n1, .inl (cI, 12, .inl g0)), (h6, .inr (3, [.ref h5, .ref n2, .ref n4, .int (nI cn0)])), (n2, .inr (1, [.ref n3, .int (nI ag0)])), (n3, .inl (cI, 4096, .inl mg0)), (n4, .inr (1, [.ref n5, .int (nI ag0)])), (h8, .inr (0, [.int zv]))] sz) := by
  refine Met.ofW (cc := cX11_times) (maxL := 8) (ret := (some .int)) (by decide) rfl ?_
  intro p e s m args below meth c s₁ B hml hv
  obtain ⟨rfl, hsz, hP, hKK, hD0⟩ := hv
  have hx := B.exec
  have hb := B.bytes
  have hr := B.returns
  have hts := atoms_spec (ws := wsX11_times) B.pre
  have hown : s.vm.findClass RX11 = some m.cls := findClass_of_methodNamed B.named
  have hlocks := B.notSynchronized
  have hK := hKK.1
  have hN := hKK.2
  have hin0 : ∀ w ∈ wsX00, w ∈ wsX11_times := by decide +kernel
  have hin11 : ∀ w ∈ wsX110, w ∈ wsX11_times := by decide +kernel
  subst hsz
  have hD := hD0.self (sz := s.heap.size)
  obtain ⟨A, hAe⟩ : ∃ A, A = va_A [(h0, .inr (11, [.ref h1, .ref h2, .ref h3, .ref h4, .ref h5, .ref h6, .ref h7, .int i7, .int i8, .ref h8, .ref h9, .ref h10, .ref h11, .ref h12, .ref h13, .ref h14])), (h5, .inr (2, [.ref n1, .int sv0, .int (nI cn0)])), (n1, .inl (cI, 12, .inl g0)), (h6, .inr (3, [.ref h5, .ref n2, .ref n4, .int (nI cn0)])), (n2, .inr (1, [.ref n3, .int (nI ag0)])), (n3, .inl (cI, 4096, .inl mg0)), (n4, .inr (1, [.ref n5, .int (nI ag0)])), (h8, .inr (0, [.int zv]))] s.heap.size := ⟨_, rfl⟩
  rw [← hAe] at hD
  have hA : ∀ q : Nat, s.heap.size ≤ q → A q := fun q h => by rw [hAe]; exact Or.inr h
  have hS : va_S A s.heap s.heap [] := va_S.rf
  have hl := lv_entry ([.ref h0, .int x0, .int x1, .int x2, .int x3]) (n := 8) (Nat.le_of_ble_eq_true rfl)
  rw [lg_entry_eq]
  generalize (lg_sl ([.ref h0, .int x0, .int x1, .int x2, .int x3]) ++ List.replicate (8 - (lg_sl ([.ref h0, .int x0, .int x1, .int x2, .int x3])).length) Slot.unset).toArray = ls at hl ⊢
  have hl : lv_has ls 8 [(0, .ref h0), (1, .int x0), (2, .int x1), (3, .int x2), (4, .int x3)] := hl
  refine lv_iload_n hx hb dX11_times_0 rfl (lv_at hl 1 rfl) ?_
  refine lv_iconst (v := 1) hx hb dX11_times_1 (by decide) ?_
  refine lv_icmp_lt (tgt := 31) hx hb dX11_times_2 (by decide) (fun c5081 => ?_) (fun c5081 => ?_)
  · refine lv_bipush (v := (-2)) hx hb dX11_times_31 (by decide) ?_
    have hP9 := hP
    have hD9 := hD
    subst hAe
    exact W.iret (v := (-2)) hx hb hr (fun t ht hW => ⟨⟨_, (sv0, cn0, ag0, g0, mg0), rfl, ⟨by unfold tmX; rw [if_pos c5081], hsv0, by show cn0 ≤ cn0 + 4000; omega, by show ag0 ≤ ag0 + 20; omega, hms0⟩, by rw [ht]; exact hP9, hD9⟩, hS.F ht⟩) hS.2.2 dX11_times_33
  · refine lv_iload_n hx hb dX11_times_5 rfl (lv_at hl 1 rfl) ?_
    refine lv_bipush (v := 20) hx hb dX11_times_6 (by decide) ?_
    refine lv_icmp_gt (tgt := 31) hx hb dX11_times_8 (by decide) (fun c5082 => ?_) (fun c5082 => ?_)
    · refine lv_bipush (v := (-2)) hx hb dX11_times_31 (by decide) ?_
      have hP9 := hP
      have hD9 := hD
      subst hAe
      exact W.iret (v := (-2)) hx hb hr (fun t ht hW => ⟨⟨_, (sv0, cn0, ag0, g0, mg0), rfl, ⟨by unfold tmX; rw [if_neg c5081, if_pos c5082], hsv0, by show cn0 ≤ cn0 + 4000; omega, by show ag0 ≤ ag0 + 20; omega, hms0⟩, by rw [ht]; exact hP9, hD9⟩, hS.F ht⟩) hS.2.2 dX11_times_33
    · refine lv_iload_n hx hb dX11_times_11 rfl (lv_at hl 2 rfl) ?_
      refine lv_iload_n hx hb dX11_times_12 rfl (lv_at hl 3 rfl) ?_
      have hPc := hP.sub (ws' := []) [] rfl
      refine lz_ss (As := [.int x1, .int x2]) (rest := []) ⟨hx, hb, hml, hown, hts⟩ (c_X11_canDeal_0 l D cI cS x1 x2) hKK hPc (va_cwS 2 hts gX11_times_X11_canDeal rfl rfl rfl (by decide +kernel) ⟨Nat.le_of_ble_eq_true rfl, Nat.le_of_ble_eq_true rfl⟩) rfl hl.1 rfl (Nat.le_of_ble_eq_true rfl) dX11_times_13 ⟨Nat.le_of_ble_eq_true rfl, Nat.le_of_ble_eq_true rfl⟩ (fun r5091 hw => ?_)
      by_cases k5092 : x1 < 0
      · rw [if_pos k5092] at hw
        subst hw
        refine lv_if_eq (tgt := 31) hx hb dX11_times_16 (by decide) (fun c5093 => ?_) (fun c5093 => ?_)
        · refine lv_bipush (v := (-2)) hx hb dX11_times_31 (by decide) ?_
          have hP9 := hP
          have hD9 := hD
          subst hAe
          exact W.iret (v := (-2)) hx hb hr (fun t ht hW => ⟨⟨_, (sv0, cn0, ag0, g0, mg0), rfl, ⟨by unfold tmX; rw [if_neg c5081, if_neg c5082, if_pos k5092], hsv0, by show cn0 ≤ cn0 + 4000; omega, by show ag0 ≤ ag0 + 20; omega, hms0⟩, by rw [ht]; exact hP9, hD9⟩, hS.F ht⟩) hS.2.2 dX11_times_33
        · exact absurd c5093 (by decide)
      · rw [if_neg k5092] at hw
        by_cases k5094 : (12 : Int32) < x1
        · rw [if_pos k5094] at hw
          subst hw
          refine lv_if_eq (tgt := 31) hx hb dX11_times_16 (by decide) (fun c5095 => ?_) (fun c5095 => ?_)
          · refine lv_bipush (v := (-2)) hx hb dX11_times_31 (by decide) ?_
            have hP9 := hP
            have hD9 := hD
            subst hAe
            exact W.iret (v := (-2)) hx hb hr (fun t ht hW => ⟨⟨_, (sv0, cn0, ag0, g0, mg0), rfl, ⟨by unfold tmX; rw [if_neg c5081, if_neg c5082, if_neg k5092, if_pos k5094], hsv0, by show cn0 ≤ cn0 + 4000; omega, by show ag0 ≤ ag0 + 20; omega, hms0⟩, by rw [ht]; exact hP9, hD9⟩, hS.F ht⟩) hS.2.2 dX11_times_33
          · exact absurd c5095 (by decide)
        · rw [if_neg k5094] at hw
          by_cases k5096 : x2 < 0
          · rw [if_pos k5096] at hw
            subst hw
            refine lv_if_eq (tgt := 31) hx hb dX11_times_16 (by decide) (fun c5097 => ?_) (fun c5097 => ?_)
            · refine lv_bipush (v := (-2)) hx hb dX11_times_31 (by decide) ?_
              have hP9 := hP
              have hD9 := hD
              subst hAe
              exact W.iret (v := (-2)) hx hb hr (fun t ht hW => ⟨⟨_, (sv0, cn0, ag0, g0, mg0), rfl, ⟨by unfold tmX; rw [if_neg c5081, if_neg c5082, if_neg k5092, if_neg k5094, if_pos k5096], hsv0, by show cn0 ≤ cn0 + 4000; omega, by show ag0 ≤ ag0 + 20; omega, hms0⟩, by rw [ht]; exact hP9, hD9⟩, hS.F ht⟩) hS.2.2 dX11_times_33
            · exact absurd c5097 (by decide)
          · rw [if_neg k5096] at hw
            by_cases k5098 : (10 : Int32) < x2
            · rw [if_pos k5098] at hw
              subst hw
              refine lv_if_eq (tgt := 31) hx hb dX11_times_16 (by decide) (fun c5099 => ?_) (fun c5099 => ?_)
              · refine lv_bipush (v := (-2)) hx hb dX11_times_31 (by decide) ?_
                have hP9 := hP
                have hD9 := hD
                subst hAe
                exact W.iret (v := (-2)) hx hb hr (fun t ht hW => ⟨⟨_, (sv0, cn0, ag0, g0, mg0), rfl, ⟨by unfold tmX; rw [if_neg c5081, if_neg c5082, if_neg k5092, if_neg k5094, if_neg k5096, if_pos k5098], hsv0, by show cn0 ≤ cn0 + 4000; omega, by show ag0 ≤ ag0 + 20; omega, hms0⟩, by rw [ht]; exact hP9, hD9⟩, hS.F ht⟩) hS.2.2 dX11_times_33
              · exact absurd c5099 (by decide)
            · rw [if_neg k5098] at hw
              subst hw
              refine lv_if_eq (tgt := 31) hx hb dX11_times_16 (by decide) (fun c5100 => ?_) (fun c5100 => ?_)
              · exact absurd c5100 (by decide)
              · refine lv_iload hx hb dX11_times_19 (lv_at hl 4 rfl) ?_
                refine lv_if_lt (tgt := 31) hx hb dX11_times_21 (by decide) (fun c5101 => ?_) (fun c5101 => ?_)
                · refine lv_bipush (v := (-2)) hx hb dX11_times_31 (by decide) ?_
                  have hP9 := hP
                  have hD9 := hD
                  subst hAe
                  exact W.iret (v := (-2)) hx hb hr (fun t ht hW => ⟨⟨_, (sv0, cn0, ag0, g0, mg0), rfl, ⟨by unfold tmX; rw [if_neg c5081, if_neg c5082, if_neg k5092, if_neg k5094, if_neg k5096, if_neg k5098, if_pos c5101], hsv0, by show cn0 ≤ cn0 + 4000; omega, by show ag0 ≤ ag0 + 20; omega, hms0⟩, by rw [ht]; exact hP9, hD9⟩, hS.F ht⟩) hS.2.2 dX11_times_33
                · refine lv_iload hx hb dX11_times_24 (lv_at hl 4 rfl) ?_
                  refine lv_bipush (v := 12) hx hb dX11_times_26 (by decide) ?_
                  refine lv_icmp_le (tgt := 34) hx hb dX11_times_28 (by decide) (fun c5102 => ?_) (fun c5102 => ?_)
                  · have hR : tmX x0 x1 x2 x3 zv = (tmC x1.toNatClampNeg x2 x3 zv x0.toNatClampNeg).1 := by unfold tmX; rw [if_neg c5081, if_neg c5082, if_neg k5092, if_neg k5094, if_neg k5096, if_neg k5098, if_neg c5101, if_neg (lz_len c5102)]
                    obtain ⟨k, hk, rfl⟩ := nI_of2 (M := 12) (n := 12) (by decide) k5092 (Int32.not_lt.mp k5094)
                    obtain ⟨nn, hnn, rfl⟩ := nI_of2 (x := x0) (M := 20) (n := 20) (by decide) (fun z => c5081 (by have a9 := (lz_lt _ _).mp z; have b9 : (0 : Int32).toInt = 0 := (by decide); have c9 : (1 : Int32).toInt = 1 := (by decide); rw [lz_lt]; omega)) (Int32.not_lt.mp c5082)
                    rw [nI_clamp (by omega), nI_clamp (by omega)] at hR
                    have lp : ∀ (r i cn : Nat) (sv : Int32) (g mg : Nat → Int32), i + r = nn → cn ≤ cn0 + 200 * i → Rg 0 12 sv → MS (ag0 + i) mg → ∀ (ls : Array Slot) (H : Heap) (locs : List Loc), va_P D cls [(h0, .inr (11, [.ref h1, .ref h2, .ref h3, .ref h4, .ref h5, .ref h6, .ref h7, .int i7, .int i8, .ref h8, .ref h9, .ref h10, .ref h11, .ref h12, .ref h13, .ref h14])), (h5, .inr (2, [.ref n1, .int sv, .int (nI cn)])), (n1, .inl (cI, 12, .inl g)), (h6, .inr (3, [.ref h5, .ref n2, .ref n4, .int (nI cn)])), (n2, .inr (1, [.ref n3, .int (nI (ag0 + i))])), (n3, .inl (cI, 4096, .inl mg)), (n4, .inr (1, [.ref n5, .int (nI (ag0 + i))])), (h8, .inr (0, [.int ((tmC k x2 x3 zv i).2)]))] H → va_D A [(h0, .inr (11, [.ref h1, .ref h2, .ref h3, .ref h4, .ref h5, .ref h6, .ref h7, .int i7, .int i8, .ref h8, .ref h9, .ref h10, .ref h11, .ref h12, .ref h13, .ref h14])), (h5, .inr (2, [.ref n1, .int sv, .int (nI cn)])), (n1, .inl (cI, 12, .inl g)), (h6, .inr (3, [.ref h5, .ref n2, .ref n4, .int (nI cn)])), (n2, .inr (1, [.ref n3, .int (nI (ag0 + i))])), (n3, .inl (cI, 4096, .inl mg)), (n4, .inr (1, [.ref n5, .int (nI (ag0 + i))])), (h8, .inr (0, [.int ((tmC k x2 x3 zv i).2)]))] → va_S A s.heap H locs → lv_has ls 8 [(7, .int (nI i)), (6, .int ((tmC k x2 x3 zv i).1)), (5, .int zv), (0, .ref h0), (1, .int (nI nn)), (2, .int (nI k)), (3, .int x2), (4, .int x3)] → W p l e (headSpec wsX11_times ({ frames := 24, cells := 0, slots := 0, locals := 960 })).room s m ([.ref h0, .int (nI nn), .int (nI k), .int x2, .int x3]).toArray below meth c H locs 0 0 (MQ below (QF (S := Int32 × Nat × Nat × (Nat → Int32) × (Nat → Int32)) D [(h0, .inr (11, [.ref h1, .ref h2, .ref h3, .ref h4, .ref h5, .ref h6, .ref h7, .int i7, .int i8, .ref h8, .ref h9, .ref h10, .ref h11, .ref h12, .ref h13, .ref h14])), (h5, .inr (2, [.ref n1, .int sv0, .int (nI cn0)])), (n1, .inl (cI, 12, .inl g0)), (h6, .inr (3, [.ref h5, .ref n2, .ref n4, .int (nI cn0)])), (n2, .inr (1, [.ref n3, .int (nI ag0)])), (n3, .inl (cI, 4096, .inl mg0)), (n4, .inr (1, [.ref n5, .int (nI ag0)])), (h8, .inr (0, [.int zv]))] (fun q => [(h0, .inr (11, [.ref h1, .ref h2, .ref h3, .ref h4, .ref h5, .ref h6, .ref h7, .int i7, .int i8, .ref h8, .ref h9, .ref h10, .ref h11, .ref h12, .ref h13, .ref h14])), (h5, .inr (2, [.ref n1, .int q.1, .int (nI (q.2.1))])), (n1, .inl (cI, 12, .inl q.2.2.2.1)), (h6, .inr (3, [.ref h5, .ref n2, .ref n4, .int (nI (q.2.1))])), (n2, .inr (1, [.ref n3, .int (nI (q.2.2.1))])), (n3, .inl (cI, 4096, .inl q.2.2.2.2)), (n4, .inr (1, [.ref n5, .int (nI (q.2.2.1))])), (h8, .inr (0, [.int zv]))]) s.heap.size (fun r q => r = tmX (nI nn) (nI k) x2 x3 zv ∧ Rg 0 12 q.1 ∧ q.2.1 ≤ cn0 + 4000 ∧ q.2.2.1 ≤ ag0 + 20 ∧ MS q.2.2.1 q.2.2.2.2)) ([.ref h0, .int (nI nn), .int (nI k), .int x2, .int x3]).toArray s 0 0 (va_A [(h0, .inr (11, [.ref h1, .ref h2, .ref h3, .ref h4, .ref h5, .ref h6, .ref h7, .int i7, .int i8, .ref h8, .ref h9, .ref h10, .ref h11, .ref h12, .ref h13, .ref h14])), (h5, .inr (2, [.ref n1, .int sv0, .int (nI cn0)])), (n1, .inl (cI, 12, .inl g0)), (h6, .inr (3, [.ref h5, .ref n2, .ref n4, .int (nI cn0)])), (n2, .inr (1, [.ref n3, .int (nI ag0)])), (n3, .inl (cI, 4096, .inl mg0)), (n4, .inr (1, [.ref n5, .int (nI ag0)])), (h8, .inr (0, [.int zv]))] s.heap.size)) (F0 m 49 ls []) := by
                      intro r
                      induction r with
                      | zero =>
                        intro i cn sv g mg hi hcn hsv hms ls H locs hP hD hS hl
                        obtain rfl : i = nn := by omega
                        refine lv_iload hx hb dX11_times_49 (lv_at hl 0 rfl) ?_
                        refine lv_iload_n hx hb dX11_times_51 rfl (lv_at hl 4 rfl) ?_
                        refine lv_icmp_ge (tgt := 96) hx hb dX11_times_52 (by decide) (fun c5103 => ?_) (fun c5103 => ?_)
                        · refine lv_aload_n hx hb dX11_times_96 rfl (lv_at hl 3 rfl) ?_
                          refine va_get (D := D) (ci := 11) (v := .ref h8) (C := RX11) (T := TX11) (N := 16) hx hb hts hin11 hown hK hP 0 rfl rfl 9 (by decide) (hts (.fieldLink RX11 53 "MissedPoints" "draws" "LMissedPoints$Draws;") (by decide +kernel)) (fun _ h9 => h9) rfl dX11_times_97 ?_
                          refine lv_iload hx hb dX11_times_100 (lv_at hl 2 rfl) ?_
                          refine va_putN (D := D) (ci := 0) (v := .int zv) (ty := .int) (C := RX0) (T := TX0) (N := 1) hx hb hts hin0 tyX0 tyX0_ok nmX0 hown hK hP hD hS 7 rfl rfl 0 (by decide) (va_Nw.use rfl hN.2.1) (fun _ h9 => h9) rfl (by decide +kernel) rfl rfl (Nat.le_of_ble_eq_true rfl) dX11_times_102 (fun H locs hP hD hS => ?_)
                          have hP : va_P D cls [(h0, .inr (11, [.ref h1, .ref h2, .ref h3, .ref h4, .ref h5, .ref h6, .ref h7, .int i7, .int i8, .ref h8, .ref h9, .ref h10, .ref h11, .ref h12, .ref h13, .ref h14])), (h5, .inr (2, [.ref n1, .int sv, .int (nI cn)])), (n1, .inl (cI, 12, .inl g)), (h6, .inr (3, [.ref h5, .ref n2, .ref n4, .int (nI cn)])), (n2, .inr (1, [.ref n3, .int (nI (ag0 + i))])), (n3, .inl (cI, 4096, .inl mg)), (n4, .inr (1, [.ref n5, .int (nI (ag0 + i))])), (h8, .inr (0, [.int zv]))] H := hP
                          have hD : va_D A [(h0, .inr (11, [.ref h1, .ref h2, .ref h3, .ref h4, .ref h5, .ref h6, .ref h7, .int i7, .int i8, .ref h8, .ref h9, .ref h10, .ref h11, .ref h12, .ref h13, .ref h14])), (h5, .inr (2, [.ref n1, .int sv, .int (nI cn)])), (n1, .inl (cI, 12, .inl g)), (h6, .inr (3, [.ref h5, .ref n2, .ref n4, .int (nI cn)])), (n2, .inr (1, [.ref n3, .int (nI (ag0 + i))])), (n3, .inl (cI, 4096, .inl mg)), (n4, .inr (1, [.ref n5, .int (nI (ag0 + i))])), (h8, .inr (0, [.int zv]))] := hD
                          refine lv_iload hx hb dX11_times_105 (lv_at hl 1 rfl) ?_
                          have hP9 : va_P D cls [(h0, .inr (11, [.ref h1, .ref h2, .ref h3, .ref h4, .ref h5, .ref h6, .ref h7, .int i7, .int i8, .ref h8, .ref h9, .ref h10, .ref h11, .ref h12, .ref h13, .ref h14])), (h5, .inr (2, [.ref n1, .int sv, .int (nI cn)])), (n1, .inl (cI, 12, .inl g)), (h6, .inr (3, [.ref h5, .ref n2, .ref n4, .int (nI cn)])), (n2, .inr (1, [.ref n3, .int (nI (ag0 + i))])), (n3, .inl (cI, 4096, .inl mg)), (n4, .inr (1, [.ref n5, .int (nI (ag0 + i))])), (h8, .inr (0, [.int zv]))] H := hP.sub [0, 1, 2, 3, 4, 5, 6, 7] rfl
                          have hD9 : va_D A [(h0, .inr (11, [.ref h1, .ref h2, .ref h3, .ref h4, .ref h5, .ref h6, .ref h7, .int i7, .int i8, .ref h8, .ref h9, .ref h10, .ref h11, .ref h12, .ref h13, .ref h14])), (h5, .inr (2, [.ref n1, .int sv, .int (nI cn)])), (n1, .inl (cI, 12, .inl g)), (h6, .inr (3, [.ref h5, .ref n2, .ref n4, .int (nI cn)])), (n2, .inr (1, [.ref n3, .int (nI (ag0 + i))])), (n3, .inl (cI, 4096, .inl mg)), (n4, .inr (1, [.ref n5, .int (nI (ag0 + i))])), (h8, .inr (0, [.int zv]))] := hD.sub [0, 1, 2, 3, 4, 5, 6, 7] (by decide) rfl
                          subst hAe
                          exact W.iret (v := (tmC k x2 x3 zv i).1) hx hb hr (fun t ht hW => ⟨⟨_, (sv, cn, ag0 + i, g, mg), rfl, ⟨hR.symm, hsv, by show cn ≤ cn0 + 4000; omega, by show ag0 + i ≤ ag0 + 20; omega, hms⟩, by rw [ht]; exact hP9, hD9⟩, hS.F ht⟩) hS.2.2 dX11_times_107
                        · exact absurd (nI_le (Nat.le_refl _) (by omega)) c5103
                      | succ r ih =>
                        intro i cn sv g mg hi hcn hsv hms ls H locs hP hD hS hl
                        refine lv_iload hx hb dX11_times_49 (lv_at hl 0 rfl) ?_
                        refine lv_iload_n hx hb dX11_times_51 rfl (lv_at hl 4 rfl) ?_
                        refine lv_icmp_ge (tgt := 96) hx hb dX11_times_52 (by decide) (fun c5104 => ?_) (fun c5104 => ?_)
                        · exact absurd c5104 (nI_ge (show i < nn by omega) (by omega))
                        · refine lv_aload_n hx hb dX11_times_55 rfl (lv_at hl 3 rfl) ?_
                          refine va_get (D := D) (ci := 11) (v := .ref h5) (C := RX11) (T := TX11) (N := 16) hx hb hts hin11 hown hK hP 0 rfl rfl 4 (by decide) (hts (.fieldLink RX11 41 "MissedPoints" "thoughtNet" "LMissedPoints$Net;") (by decide +kernel)) (fun _ h9 => h9) rfl dX11_times_56 ?_
                          refine lv_iload_n hx hb dX11_times_59 rfl (lv_at hl 5 rfl) ?_
                          refine lv_iload_n hx hb dX11_times_60 rfl (lv_at hl 6 rfl) ?_
                          refine lv_aload_n hx hb dX11_times_61 rfl (lv_at hl 3 rfl) ?_
                          refine va_get (D := D) (ci := 11) (v := .ref h8) (C := RX11) (T := TX11) (N := 16) hx hb hts hin11 hown hK hP 0 rfl rfl 9 (by decide) (hts (.fieldLink RX11 53 "MissedPoints" "draws" "LMissedPoints$Draws;") (by decide +kernel)) (fun _ h9 => h9) rfl dX11_times_62 ?_
                          have hPc := hP.sub (ws' := [(h5, .inr (2, [.ref n1, .int sv, .int (nI cn)])), (n1, .inl (cI, 12, .inl g)), (h8, .inr (0, [.int ((tmC k x2 x3 zv i).2)]))]) [1, 2, 7] rfl
                          have hDc := hD.sub (ws' := [(h5, .inr (2, [.ref n1, .int sv, .int (nI cn)])), (n1, .inl (cI, 12, .inl g)), (h8, .inr (0, [.int ((tmC k x2 x3 zv i).2)]))]) [1, 2, 7] (by decide) rfl
                          refine lz_qe (wr := [(h0, .inr (11, [.ref h1, .ref h2, .ref h3, .ref h4, .ref h5, .ref h6, .ref h7, .int i7, .int i8, .ref h8, .ref h9, .ref h10, .ref h11, .ref h12, .ref h13, .ref h14])), (h6, .inr (3, [.ref h5, .ref n2, .ref n4, .int (nI cn)])), (n2, .inr (1, [.ref n3, .int (nI (ag0 + i))])), (n3, .inl (cI, 4096, .inl mg)), (n4, .inr (1, [.ref n5, .int (nI (ag0 + i))]))]) (w1 := fun (u : (Nat → Int32) × Nat) => [(h5, .inr (2, [.ref n1, .int (nI k), .int (nI (u.2))])), (n1, .inl (cI, 12, .inl u.1)), (h8, .inr (0, [.int ((dO x2 k (tmC k x2 x3 zv i).2 k).2)]))]) (As := [.int (nI k), .int x2, .ref h8]) (rest := []) ⟨hx, hb, hml, hown, hts⟩ (c_dealAnew l D cI cS _ h5 n1 h8 g sv (tmC k x2 x3 zv i).2 x2 k cn hk) hKK hP hD hS hA [1, 2, 7] [0, 3, 4, 5, 6] (by decide) rfl rfl (by decide) (by decide) hPc hDc (ci := 2) rfl rfl (cwV 3 hts gX11_times_X2_dealAnew rfl rfl rfl (by decide +kernel) ⟨Nat.le_of_ble_eq_true rfl, Nat.le_of_ble_eq_true rfl⟩) rfl hl.1 rfl (Nat.le_of_ble_eq_true rfl) dX11_times_65 ⟨Nat.le_of_ble_eq_true rfl, Nat.le_of_ble_eq_true rfl⟩ (fun u H locs hu hP hD hS => ?_)
                          have hP : va_P D cls [(h0, .inr (11, [.ref h1, .ref h2, .ref h3, .ref h4, .ref h5, .ref h6, .ref h7, .int i7, .int i8, .ref h8, .ref h9, .ref h10, .ref h11, .ref h12, .ref h13, .ref h14])), (h6, .inr (3, [.ref h5, .ref n2, .ref n4, .int (nI cn)])), (n2, .inr (1, [.ref n3, .int (nI (ag0 + i))])), (n3, .inl (cI, 4096, .inl mg)), (n4, .inr (1, [.ref n5, .int (nI (ag0 + i))])), (h5, .inr (2, [.ref n1, .int (nI k), .int (nI (u.2))])), (n1, .inl (cI, 12, .inl u.1)), (h8, .inr (0, [.int ((dO x2 k (tmC k x2 x3 zv i).2 k).2)]))] H := hP
                          have hD : va_D A [(h0, .inr (11, [.ref h1, .ref h2, .ref h3, .ref h4, .ref h5, .ref h6, .ref h7, .int i7, .int i8, .ref h8, .ref h9, .ref h10, .ref h11, .ref h12, .ref h13, .ref h14])), (h6, .inr (3, [.ref h5, .ref n2, .ref n4, .int (nI cn)])), (n2, .inr (1, [.ref n3, .int (nI (ag0 + i))])), (n3, .inl (cI, 4096, .inl mg)), (n4, .inr (1, [.ref n5, .int (nI (ag0 + i))])), (h5, .inr (2, [.ref n1, .int (nI k), .int (nI (u.2))])), (n1, .inl (cI, 12, .inl u.1)), (h8, .inr (0, [.int ((dO x2 k (tmC k x2 x3 zv i).2 k).2)]))] := hD
                          obtain ⟨g1, c2⟩ := u
                          obtain ⟨hg1, hc2a, hc2b⟩ := hu
                          dsimp only at hg1 hc2a hc2b hP hD
                          have hP : va_P D cls [(h0, .inr (11, [.ref h1, .ref h2, .ref h3, .ref h4, .ref h5, .ref h6, .ref h7, .int i7, .int i8, .ref h8, .ref h9, .ref h10, .ref h11, .ref h12, .ref h13, .ref h14])), (h6, .inr (3, [.ref h5, .ref n2, .ref n4, .int (nI cn)])), (n2, .inr (1, [.ref n3, .int (nI (ag0 + i))])), (n3, .inl (cI, 4096, .inl mg)), (n4, .inr (1, [.ref n5, .int (nI (ag0 + i))])), (h5, .inr (2, [.ref n1, .int (nI k), .int (nI c2)])), (n1, .inl (cI, 12, .inl g1)), (h8, .inr (0, [.int ((dO x2 k (tmC k x2 x3 zv i).2 k).2)]))] H := hP
                          have hD : va_D A [(h0, .inr (11, [.ref h1, .ref h2, .ref h3, .ref h4, .ref h5, .ref h6, .ref h7, .int i7, .int i8, .ref h8, .ref h9, .ref h10, .ref h11, .ref h12, .ref h13, .ref h14])), (h6, .inr (3, [.ref h5, .ref n2, .ref n4, .int (nI cn)])), (n2, .inr (1, [.ref n3, .int (nI (ag0 + i))])), (n3, .inl (cI, 4096, .inl mg)), (n4, .inr (1, [.ref n5, .int (nI (ag0 + i))])), (h5, .inr (2, [.ref n1, .int (nI k), .int (nI c2)])), (n1, .inl (cI, 12, .inl g1)), (h8, .inr (0, [.int ((dO x2 k (tmC k x2 x3 zv i).2 k).2)]))] := hD
                          refine lv_aload_n hx hb dX11_times_68 rfl (lv_at hl 3 rfl) ?_
                          refine va_get (D := D) (ci := 11) (v := .ref h6) (C := RX11) (T := TX11) (N := 16) hx hb hts hin11 hown hK hP 0 rfl rfl 5 (by decide) (hts (.fieldLink RX11 44 "MissedPoints" "thoughtPairs" "LMissedPoints$Pairs;") (by decide +kernel)) (fun _ h9 => h9) rfl dX11_times_69 ?_
                          refine lv_aload_n hx hb dX11_times_72 rfl (lv_at hl 3 rfl) ?_
                          refine va_get (D := D) (ci := 11) (v := .ref h5) (C := RX11) (T := TX11) (N := 16) hx hb hts hin11 hown hK hP 0 rfl rfl 4 (by decide) (hts (.fieldLink RX11 41 "MissedPoints" "thoughtNet" "LMissedPoints$Net;") (by decide +kernel)) (fun _ h9 => h9) rfl dX11_times_73 ?_
                          have hPc := hP.sub (ws' := [(h5, .inr (2, [.ref n1, .int (nI k), .int (nI c2)]))]) [5] rfl
                          refine lz_sv (As := []) (rest := [.ref h6]) ⟨hx, hb, hml, hown, hts⟩ (c_X2_all_1 l D cI cS h5 n1 (nI k) (nI c2)) hKK hPc (ci := 2) rfl rfl (cwV 0 hts gX11_times_X2_all rfl rfl rfl (by decide +kernel) ⟨Nat.le_of_ble_eq_true rfl, Nat.le_of_ble_eq_true rfl⟩) rfl hl.1 rfl (Nat.le_of_ble_eq_true rfl) dX11_times_76 ⟨Nat.le_of_ble_eq_true rfl, Nat.le_of_ble_eq_true rfl⟩ (fun r5105 hw => ?_)
                          subst hw
                          refine lz_top (y := (nI (2 ^ k - 1))) (all_eq k (by omega)) ?_
                          have hPc := hP.sub (ws' := [(h6, .inr (3, [.ref h5, .ref n2, .ref n4, .int (nI cn)])), (h5, .inr (2, [.ref n1, .int (nI k), .int (nI c2)])), (n1, .inl (cI, 12, .inl g1)), (n2, .inr (1, [.ref n3, .int (nI (ag0 + i))])), (n3, .inl (cI, 4096, .inl mg)), (n4, .inr (1, [.ref n5, .int (nI (ag0 + i))]))]) [1, 5, 6, 2, 3, 4] rfl
                          have hDc := hD.sub (ws' := [(h6, .inr (3, [.ref h5, .ref n2, .ref n4, .int (nI cn)])), (h5, .inr (2, [.ref n1, .int (nI k), .int (nI c2)])), (n1, .inl (cI, 12, .inl g1)), (n2, .inr (1, [.ref n3, .int (nI (ag0 + i))])), (n3, .inl (cI, 4096, .inl mg)), (n4, .inr (1, [.ref n5, .int (nI (ag0 + i))]))]) [1, 5, 6, 2, 3, 4] (by decide) rfl
                          refine lz_qf (wr := [(h0, .inr (11, [.ref h1, .ref h2, .ref h3, .ref h4, .ref h5, .ref h6, .ref h7, .int i7, .int i8, .ref h8, .ref h9, .ref h10, .ref h11, .ref h12, .ref h13, .ref h14])), (h8, .inr (0, [.int ((dO x2 k (tmC k x2 x3 zv i).2 k).2)]))]) (w1 := fun (u : Nat → Int32) => [(h6, .inr (3, [.ref h5, .ref n2, .ref n4, .int (nI c2)])), (h5, .inr (2, [.ref n1, .int (nI k), .int (nI c2)])), (n1, .inl (cI, 12, .inl g1)), (n2, .inr (1, [.ref n3, .int (nI (ag0 + i + 1))])), (n3, .inl (cI, 4096, .inl u)), (n4, .inr (1, [.ref n5, .int (nI (ag0 + i + 1))]))]) (As := [.int (nI (2 ^ k - 1))]) (rest := []) ⟨hx, hb, hml, hown, hts⟩ (c_lackX l D cI cS _ h6 h5 n2 n4 n1 n3 n5 g1 mg k cn c2 (ag0 + i) (ag0 + i) hk (by omega) (by omega) (by omega) (by omega) (by omega) ((dO_lo hk k (Nat.le_refl _)).like hg1) (Sym.like hg1 (dO_sym hk k (Nat.le_refl _))) hms) hKK hP hD hS hA [1, 5, 6, 2, 3, 4] [0, 7] (by decide) rfl rfl (by decide) (by decide) hPc hDc (ci := 3) rfl rfl (cwV 1 hts gX11_times_X3_lack rfl rfl rfl (by decide +kernel) ⟨Nat.le_of_ble_eq_true rfl, Nat.le_of_ble_eq_true rfl⟩) rfl hl.1 rfl (Nat.le_of_ble_eq_true rfl) dX11_times_79 ⟨Nat.le_of_ble_eq_true rfl, Nat.le_of_ble_eq_true rfl⟩ (fun r9 u H locs hq hP hD hS => ?_)
                          have hP : va_P D cls [(h0, .inr (11, [.ref h1, .ref h2, .ref h3, .ref h4, .ref h5, .ref h6, .ref h7, .int i7, .int i8, .ref h8, .ref h9, .ref h10, .ref h11, .ref h12, .ref h13, .ref h14])), (h8, .inr (0, [.int ((dO x2 k (tmC k x2 x3 zv i).2 k).2)])), (h6, .inr (3, [.ref h5, .ref n2, .ref n4, .int (nI c2)])), (h5, .inr (2, [.ref n1, .int (nI k), .int (nI c2)])), (n1, .inl (cI, 12, .inl g1)), (n2, .inr (1, [.ref n3, .int (nI (ag0 + i + 1))])), (n3, .inl (cI, 4096, .inl u)), (n4, .inr (1, [.ref n5, .int (nI (ag0 + i + 1))]))] H := hP
                          have hD : va_D A [(h0, .inr (11, [.ref h1, .ref h2, .ref h3, .ref h4, .ref h5, .ref h6, .ref h7, .int i7, .int i8, .ref h8, .ref h9, .ref h10, .ref h11, .ref h12, .ref h13, .ref h14])), (h8, .inr (0, [.int ((dO x2 k (tmC k x2 x3 zv i).2 k).2)])), (h6, .inr (3, [.ref h5, .ref n2, .ref n4, .int (nI c2)])), (h5, .inr (2, [.ref n1, .int (nI k), .int (nI c2)])), (n1, .inl (cI, 12, .inl g1)), (n2, .inr (1, [.ref n3, .int (nI (ag0 + i + 1))])), (n3, .inl (cI, 4096, .inl u)), (n4, .inr (1, [.ref n5, .int (nI (ag0 + i + 1))]))] := hD
                          refine lz_top (y := (nI k - (2 : Int32) * nI (nuS k (dO x2 k (tmC k x2 x3 zv i).2 k).1 (2 ^ k - 1)))) (by rw [hq.1, nuS_like hg1]) ?_
                          refine lv_iload hx hb dX11_times_82 (lv_at hl 7 rfl) ?_
                          refine lv_icmp_ne (tgt := 90) hx hb dX11_times_84 (by decide) (fun c5106 => ?_) (fun c5106 => ?_)
                          · refine lv_iinc (v := (nI (i + 1))) (lv' := [(7, .int (nI (i + 1))), (6, .int ((tmC k x2 x3 zv i).1)), (5, .int zv), (0, .ref h0), (1, .int (nI nn)), (2, .int (nI k)), (3, .int x2), (4, .int x3)]) hx hb dX11_times_90 hl (k := 0) rfl (nI_1 _) (by decide) rfl (fun ls hl => ?_)
                            refine lv_goto (tgt := 49) hx hb dX11_times_93 (by decide) ?_
                            have hl9 := lv_sub (l' := [(7, .int (nI (i + 1))), (6, .int ((tmC k x2 x3 zv i).1)), (5, .int zv), (0, .ref h0), (1, .int (nI nn)), (2, .int (nI k)), (3, .int x2), (4, .int x3)]) hl [0, 1, 2, 3, 4, 5, 6, 7] rfl
                            rw [(show (tmC k x2 x3 zv i).1 = (tmC k x2 x3 zv (i + 1)).1 from by show _ = (tmC k x2 x3 zv i).1 + (if (nI k - (2 : Int32) * nI (nuS k (dO x2 k (tmC k x2 x3 zv i).2 k).1 (2 ^ k - 1))) = x3 then 1 else 0); rw [if_neg c5106]; simp)] at hl9
                            exact ih (i + 1) c2 (nI k) g1 u (by omega) (by omega) ⟨by rw [nI_toInt (by omega)]; omega, by rw [nI_toInt (by omega)]; omega⟩ (show MS (ag0 + i + 1) u from hq.2) ls H locs (hP.sub [0, 3, 4, 2, 5, 6, 7, 1] rfl) (hD.sub [0, 3, 4, 2, 5, 6, 7, 1] (by decide) rfl) hS hl9
                          · refine lv_iinc (v := ((tmC k x2 x3 zv i).1) + 1) (lv' := [(6, .int (((tmC k x2 x3 zv i).1) + 1)), (7, .int (nI i)), (5, .int zv), (0, .ref h0), (1, .int (nI nn)), (2, .int (nI k)), (3, .int x2), (4, .int x3)]) hx hb dX11_times_87 hl (k := 1) rfl (by rfl) (by decide) rfl (fun ls hl => ?_)
                            refine lv_iinc (v := (nI (i + 1))) (lv' := [(7, .int (nI (i + 1))), (6, .int (((tmC k x2 x3 zv i).1) + 1)), (5, .int zv), (0, .ref h0), (1, .int (nI nn)), (2, .int (nI k)), (3, .int x2), (4, .int x3)]) hx hb dX11_times_90 hl (k := 1) rfl (nI_1 _) (by decide) rfl (fun ls hl => ?_)
                            refine lv_goto (tgt := 49) hx hb dX11_times_93 (by decide) ?_
                            have hl9 := lv_sub (l' := [(7, .int (nI (i + 1))), (6, .int (((tmC k x2 x3 zv i).1) + 1)), (5, .int zv), (0, .ref h0), (1, .int (nI nn)), (2, .int (nI k)), (3, .int x2), (4, .int x3)]) hl [0, 1, 2, 3, 4, 5, 6, 7] rfl
                            rw [(show ((tmC k x2 x3 zv i).1) + 1 = (tmC k x2 x3 zv (i + 1)).1 from by show _ = (tmC k x2 x3 zv i).1 + (if (nI k - (2 : Int32) * nI (nuS k (dO x2 k (tmC k x2 x3 zv i).2 k).1 (2 ^ k - 1))) = x3 then 1 else 0); rw [if_pos c5106])] at hl9
                            exact ih (i + 1) c2 (nI k) g1 u (by omega) (by omega) ⟨by rw [nI_toInt (by omega)]; omega, by rw [nI_toInt (by omega)]; omega⟩ (show MS (ag0 + i + 1) u from hq.2) ls H locs (hP.sub [0, 3, 4, 2, 5, 6, 7, 1] rfl) (hD.sub [0, 3, 4, 2, 5, 6, 7, 1] (by decide) rfl) hS hl9
                    refine lv_aload_n hx hb dX11_times_34 rfl (lv_at hl 0 rfl) ?_
                    refine va_get (D := D) (ci := 11) (v := .ref h8) (C := RX11) (T := TX11) (N := 16) hx hb hts hin11 hown hK hP 0 rfl rfl 9 (by decide) (hts (.fieldLink RX11 53 "MissedPoints" "draws" "LMissedPoints$Draws;") (by decide +kernel)) (fun _ h9 => h9) rfl dX11_times_35 ?_
                    refine va_getN (D := D) (ci := 0) (v := .int zv) (C := RX0) (T := TX0) (N := 1) hx hb hts hin0 hown hK hP 7 rfl rfl 0 (by decide) (va_Nw.use rfl hN.2.1) (fun _ h9 => h9) rfl dX11_times_38 ?_
                    refine lv_istore (lv' := [(5, .int zv), (0, .ref h0), (1, .int (nI nn)), (2, .int (nI k)), (3, .int x2), (4, .int x3)]) hx hb dX11_times_41 hl (by decide) rfl (fun ls hl => ?_)
                    refine lv_iconst (v := 0) hx hb dX11_times_43 (by decide) ?_
                    refine lv_istore (lv' := [(6, .int 0), (5, .int zv), (0, .ref h0), (1, .int (nI nn)), (2, .int (nI k)), (3, .int x2), (4, .int x3)]) hx hb dX11_times_44 hl (by decide) rfl (fun ls hl => ?_)
                    refine lv_iconst (v := 0) hx hb dX11_times_46 (by decide) ?_
                    refine lv_istore (lv' := [(7, .int 0), (6, .int 0), (5, .int zv), (0, .ref h0), (1, .int (nI nn)), (2, .int (nI k)), (3, .int x2), (4, .int x3)]) hx hb dX11_times_47 hl (by decide) rfl (fun ls hl => ?_)
                    exact lp nn 0 cn0 sv0 g0 mg0 (by omega) (by omega) hsv0 hms0 ls _ _ (hP.sub [0, 1, 2, 3, 4, 5, 6, 7] rfl) (hD.sub [0, 1, 2, 3, 4, 5, 6, 7] (by decide) rfl) hS (lv_sub hl [0, 1, 2, 3, 4, 5, 6, 7] rfl)
                  · refine lv_bipush (v := (-2)) hx hb dX11_times_31 (by decide) ?_
                    have hP9 := hP
                    have hD9 := hD
                    subst hAe
                    exact W.iret (v := (-2)) hx hb hr (fun t ht hW => ⟨⟨_, (sv0, cn0, ag0, g0, mg0), rfl, ⟨by unfold tmX; rw [if_neg c5081, if_neg c5082, if_neg k5092, if_neg k5094, if_neg k5096, if_neg k5098, if_neg c5101, if_pos (lz_nle c5102)], hsv0, by show cn0 ≤ cn0 + 4000; omega, by show ag0 ≤ ag0 + 20; omega, hms0⟩, by rw [ht]; exact hP9, hD9⟩, hS.F ht⟩) hS.2.2 dX11_times_33
