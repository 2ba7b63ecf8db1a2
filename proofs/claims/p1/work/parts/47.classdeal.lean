theorem dX2_hasPoint_12 : decode cX2_hasPoint 12 = .ok (.iconst 1, 1) := by decide +kernel
theorem dX2_hasPoint_13 : decode cX2_hasPoint 13 = .ok (.goto 4, 3) := by decide +kernel
theorem dX2_areTwo_10 : decode cX2_areTwo 10 = .ok (.invokevirtual 23, 3) := by decide +kernel
theorem dX2_areTwo_13 : decode cX2_areTwo 13 = .ok (.ifCond .eq 12, 3) := by decide +kernel
theorem dX2_areTwo_16 : decode cX2_areTwo 16 = .ok (.iload_n 1, 1) := by decide +kernel
theorem dX2_areTwo_17 : decode cX2_areTwo 17 = .ok (.iload_n 2, 1) := by decide +kernel
theorem dX2_areTwo_18 : decode cX2_areTwo 18 = .ok (.if_icmp .eq 7, 3) := by decide +kernel
theorem dX2_areTwo_21 : decode cX2_areTwo 21 = .ok (.iconst 1, 1) := by decide +kernel
theorem dX2_areTwo_22 : decode cX2_areTwo 22 = .ok (.goto 4, 3) := by decide +kernel
theorem dX2_areTwo_8 : decode cX2_areTwo 8 = .ok (.aload_n 0, 1) := by decide +kernel
theorem dX2_areTwo_9 : decode cX2_areTwo 9 = .ok (.iload_n 2, 1) := by decide +kernel
theorem dX0_draw_0 : decode cX0_draw 0 = .ok (.aload_n 0, 1) := by decide +kernel
theorem dX0_draw_1 : decode cX0_draw 1 = .ok (.aload_n 0, 1) := by decide +kernel
theorem dX0_draw_11 : decode cX0_draw 11 = .ok (.iadd, 1) := by decide +kernel
theorem dX0_draw_12 : decode cX0_draw 12 = .ok (.putfield 7, 3) := by decide +kernel
theorem dX0_draw_15 : decode cX0_draw 15 = .ok (.aload_n 0, 1) := by decide +kernel
theorem dX0_draw_16 : decode cX0_draw 16 = .ok (.getfield 7, 3) := by decide +kernel
theorem dX0_draw_19 : decode cX0_draw 19 = .ok (.bipush 16, 2) := by decide +kernel
theorem dX0_draw_2 : decode cX0_draw 2 = .ok (.getfield 7, 3) := by decide +kernel
theorem dX0_draw_21 : decode cX0_draw 21 = .ok (.iushr, 1) := by decide +kernel
theorem dX0_draw_22 : decode cX0_draw 22 = .ok (.ireturn, 1) := by decide +kernel
theorem dX0_draw_5 : decode cX0_draw 5 = .ok (.ldc 13, 2) := by decide +kernel
theorem dX0_draw_7 : decode cX0_draw 7 = .ok (.imul, 1) := by decide +kernel
theorem dX0_draw_8 : decode cX0_draw 8 = .ok (.sipush 12345, 3) := by decide +kernel
theorem dX2_empty_0 : decode cX2_empty 0 = .ok (.iconst 0, 1) := by decide +kernel
theorem dX2_empty_1 : decode cX2_empty 1 = .ok (.istore_n 1, 1) := by decide +kernel
theorem dX2_empty_12 : decode cX2_empty 12 = .ok (.iload_n 1, 1) := by decide +kernel
theorem dX2_empty_13 : decode cX2_empty 13 = .ok (.iconst 0, 1) := by decide +kernel
theorem dX2_empty_14 : decode cX2_empty 14 = .ok (.iastore, 1) := by decide +kernel
theorem dX2_empty_15 : decode cX2_empty 15 = .ok (.iinc 1 1, 3) := by decide +kernel
theorem dX2_empty_18 : decode cX2_empty 18 = .ok (.goto (-16), 3) := by decide +kernel
theorem dX2_empty_2 : decode cX2_empty 2 = .ok (.iload_n 1, 1) := by decide +kernel
theorem dX2_empty_21 : decode cX2_empty 21 = .ok (.aload_n 0, 1) := by decide +kernel
theorem dX2_empty_22 : decode cX2_empty 22 = .ok (.iconst 0, 1) := by decide +kernel
theorem dX2_empty_23 : decode cX2_empty 23 = .ok (.putfield 15, 3) := by decide +kernel
theorem dX2_empty_26 : decode cX2_empty 26 = .ok (.aload_n 0, 1) := by decide +kernel
theorem dX2_empty_27 : decode cX2_empty 27 = .ok (.dup, 1) := by decide +kernel
theorem dX2_empty_28 : decode cX2_empty 28 = .ok (.getfield 33, 3) := by decide +kernel
theorem dX2_empty_3 : decode cX2_empty 3 = .ok (.bipush 12, 2) := by decide +kernel
theorem dX2_empty_31 : decode cX2_empty 31 = .ok (.iconst 1, 1) := by decide +kernel
theorem dX2_empty_32 : decode cX2_empty 32 = .ok (.iadd, 1) := by decide +kernel
theorem dX2_empty_33 : decode cX2_empty 33 = .ok (.putfield 33, 3) := by decide +kernel
theorem dX2_empty_36 : decode cX2_empty 36 = .ok (.return_, 1) := by decide +kernel
theorem dX2_empty_5 : decode cX2_empty 5 = .ok (.if_icmp .ge 16, 3) := by decide +kernel
theorem dX2_empty_8 : decode cX2_empty 8 = .ok (.aload_n 0, 1) := by decide +kernel
theorem dX2_empty_9 : decode cX2_empty 9 = .ok (.getfield 9, 3) := by decide +kernel
set_option maxHeartbeats 4000000 in
set_option maxRecDepth 100000 in
theorem c_X2_hasPoint_1 (l : Launch) (D : va_G) (cI cS : ClassId) (h0 h1 : Nat) (x0 x1 x2 : Int32) : Met l yX2_hasPoint wsX2_hasPoint ({ frames := 0, cells := 0, slots := 0, locals := 0 }) (PS D cI cS [(h0, .inr (2, [.ref h1, .int x1, .int x2]))] [.ref h0, .int x0]) (vp_Si (fun r => r = if x0 < 0 then (0 : Int32) else (if x1 ≤ x0 then (0 : Int32) else (1 : Int32)))) 0 0 (fun _ => False) := by
  refine Met.ofW (cc := cX2_hasPoint) (maxL := 2) (ret := (some .boolean)) (by decide) rfl ?_
  intro p e s m args below meth c s₁ B hml hv
  obtain ⟨rfl, hP, hKK⟩ := hv
  have hx := B.exec
  have hb := B.bytes
  have hr := B.returns
  have hts := atoms_spec (ws := wsX2_hasPoint) B.pre
  have hown : s.vm.findClass RX2 = some m.cls := findClass_of_methodNamed B.named
  have hlocks := B.notSynchronized
  have hK := hKK.1
  have hN := hKK.2
  have hin2 : ∀ w ∈ wsX20, w ∈ wsX2_hasPoint := by decide +kernel
  have hl := lv_entry ([.ref h0, .int x0]) (n := 2) (Nat.le_of_ble_eq_true rfl)
  rw [lg_entry_eq]
  generalize (lg_sl ([.ref h0, .int x0]) ++ List.replicate (2 - (lg_sl ([.ref h0, .int x0])).length) Slot.unset).toArray = ls at hl ⊢
  have hl : lv_has ls 2 [(0, .ref h0), (1, .int x0)] := hl
  refine lv_iload_n hx hb dX2_hasPoint_0 rfl (lv_at hl 1 rfl) ?_
  refine lv_if_lt (tgt := 16) hx hb dX2_hasPoint_1 (by decide) (fun c5018 => ?_) (fun c5018 => ?_)
  · refine lv_iconst (v := 0) hx hb dX2_hasPoint_16 (by decide) ?_
    exact W.zret (v := 0) hx hb hr (by decide) (fun t ht hW => ⟨_, rfl, by rw [if_pos c5018], ht⟩) (fun q hq => absurd hq List.not_mem_nil) dX2_hasPoint_17
  · refine lv_iload_n hx hb dX2_hasPoint_4 rfl (lv_at hl 1 rfl) ?_
    refine lv_aload_n hx hb dX2_hasPoint_5 rfl (lv_at hl 0 rfl) ?_
    refine va_get (D := D) (ci := 2) (v := .int x1) (C := RX2) (T := TX2) (N := 3) hx hb hts hin2 hown hK hP 0 rfl rfl 1 (by decide) (hts (.fieldLink RX2 15 "MissedPoints$Net" "size" "I") (by decide +kernel)) (fun _ h9 => h9) rfl dX2_hasPoint_6 ?_
    refine lv_icmp_ge (tgt := 16) hx hb dX2_hasPoint_9 (by decide) (fun c5019 => ?_) (fun c5019 => ?_)
    · refine lv_iconst (v := 0) hx hb dX2_hasPoint_16 (by decide) ?_
      exact W.zret (v := 0) hx hb hr (by decide) (fun t ht hW => ⟨_, rfl, by rw [if_neg c5018, if_pos c5019], ht⟩) (fun q hq => absurd hq List.not_mem_nil) dX2_hasPoint_17
    · refine lv_iconst (v := 1) hx hb dX2_hasPoint_12 (by decide) ?_
      refine lv_goto (tgt := 17) hx hb dX2_hasPoint_13 (by decide) ?_
      exact W.zret (v := 1) hx hb hr (by decide) (fun t ht hW => ⟨_, rfl, by rw [if_neg c5018, if_neg c5019], ht⟩) (fun q hq => absurd hq List.not_mem_nil) dX2_hasPoint_17
set_option maxHeartbeats 4000000 in
set_option maxRecDepth 100000 in
theorem c_X2_areTwo_1 (l : Launch) (D : va_G) (cI cS : ClassId) (h0 h1 : Nat) (x0 x1 x2 x3 : Int32) : Met l yX2_areTwo wsX2_areTwo ({ frames := 1, cells := 0, slots := 0, locals := 40 }) (PS D cI cS [(h0, .inr (2, [.ref h1, .int x2, .int x3]))] [.ref h0, .int x0, .int x1]) (vp_Si (fun r => r = if x0 < 0 then (0 : Int32) else (if x2 ≤ x0 then (0 : Int32) else (if x1 < 0 then (0 : Int32) else (if x2 ≤ x1 then (0 : Int32) else (if x0 = x1 then (0 : Int32) else (1 : Int32))))))) 0 0 (fun _ => False) := by
  refine Met.ofW (cc := cX2_areTwo) (maxL := 3) (ret := (some .boolean)) (by decide) rfl ?_
  intro p e s m args below meth c s₁ B hml hv
  obtain ⟨rfl, hP, hKK⟩ := hv
  have hx := B.exec
  have hb := B.bytes
  have hr := B.returns
  have hts := atoms_spec (ws := wsX2_areTwo) B.pre
  have hown : s.vm.findClass RX2 = some m.cls := findClass_of_methodNamed B.named
  have hlocks := B.notSynchronized
  have hK := hKK.1
  have hN := hKK.2
  have hl := lv_entry ([.ref h0, .int x0, .int x1]) (n := 3) (Nat.le_of_ble_eq_true rfl)
  rw [lg_entry_eq]
  generalize (lg_sl ([.ref h0, .int x0, .int x1]) ++ List.replicate (3 - (lg_sl ([.ref h0, .int x0, .int x1])).length) Slot.unset).toArray = ls at hl ⊢
  have hl : lv_has ls 3 [(0, .ref h0), (1, .int x0), (2, .int x1)] := hl
  refine lv_aload_n hx hb dX2_areTwo_0 rfl (lv_at hl 0 rfl) ?_
  refine lv_iload_n hx hb dX2_areTwo_1 rfl (lv_at hl 1 rfl) ?_
  have hPc := hP.sub (ws' := [(h0, .inr (2, [.ref h1, .int x2, .int x3]))]) [0] rfl
  refine lz_sv (As := [.int x0]) (rest := []) ⟨hx, hb, hml, hown, hts⟩ (c_X2_hasPoint_1 l D cI cS h0 h1 x0 x2 x3) hKK hPc (ci := 2) rfl rfl (cwV 1 hts gX2_areTwo_X2_hasPoint rfl rfl rfl (by decide +kernel) ⟨Nat.le_of_ble_eq_true rfl, Nat.le_of_ble_eq_true rfl⟩) rfl hl.1 rfl (Nat.le_of_ble_eq_true rfl) dX2_areTwo_2 ⟨Nat.le_of_ble_eq_true rfl, Nat.le_of_ble_eq_true rfl⟩ (fun r5033 hw => ?_)
  by_cases k5034 : x0 < 0
  · rw [if_pos k5034] at hw
    subst hw
    refine lv_if_eq (tgt := 25) hx hb dX2_areTwo_5 (by decide) (fun c5035 => ?_) (fun c5035 => ?_)
    · refine lv_iconst (v := 0) hx hb dX2_areTwo_25 (by decide) ?_
      exact W.zret (v := 0) hx hb hr (by decide) (fun t ht hW => ⟨_, rfl, by rw [if_pos k5034], ht⟩) (fun q hq => absurd hq List.not_mem_nil) dX2_areTwo_26
    · exact absurd c5035 (by decide)
  · rw [if_neg k5034] at hw
    by_cases k5036 : x2 ≤ x0
    · rw [if_pos k5036] at hw
      subst hw
      refine lv_if_eq (tgt := 25) hx hb dX2_areTwo_5 (by decide) (fun c5037 => ?_) (fun c5037 => ?_)
      · refine lv_iconst (v := 0) hx hb dX2_areTwo_25 (by decide) ?_
        exact W.zret (v := 0) hx hb hr (by decide) (fun t ht hW => ⟨_, rfl, by rw [if_neg k5034, if_pos k5036], ht⟩) (fun q hq => absurd hq List.not_mem_nil) dX2_areTwo_26
      · exact absurd c5037 (by decide)
    · rw [if_neg k5036] at hw
      subst hw
      refine lv_if_eq (tgt := 25) hx hb dX2_areTwo_5 (by decide) (fun c5038 => ?_) (fun c5038 => ?_)
      · exact absurd c5038 (by decide)
      · refine lv_aload_n hx hb dX2_areTwo_8 rfl (lv_at hl 0 rfl) ?_
        refine lv_iload_n hx hb dX2_areTwo_9 rfl (lv_at hl 2 rfl) ?_
        have hPc := hP.sub (ws' := [(h0, .inr (2, [.ref h1, .int x2, .int x3]))]) [0] rfl
        refine lz_sv (As := [.int x1]) (rest := []) ⟨hx, hb, hml, hown, hts⟩ (c_X2_hasPoint_1 l D cI cS h0 h1 x1 x2 x3) hKK hPc (ci := 2) rfl rfl (cwV 1 hts gX2_areTwo_X2_hasPoint rfl rfl rfl (by decide +kernel) ⟨Nat.le_of_ble_eq_true rfl, Nat.le_of_ble_eq_true rfl⟩) rfl hl.1 rfl (Nat.le_of_ble_eq_true rfl) dX2_areTwo_10 ⟨Nat.le_of_ble_eq_true rfl, Nat.le_of_ble_eq_true rfl⟩ (fun r5039 hw => ?_)
        by_cases k5040 : x1 < 0
        · rw [if_pos k5040] at hw
          subst hw
          refine lv_if_eq (tgt := 25) hx hb dX2_areTwo_13 (by decide) (fun c5041 => ?_) (fun c5041 => ?_)
          · refine lv_iconst (v := 0) hx hb dX2_areTwo_25 (by decide) ?_
            exact W.zret (v := 0) hx hb hr (by decide) (fun t ht hW => ⟨_, rfl, by rw [if_neg k5034, if_neg k5036, if_pos k5040], ht⟩) (fun q hq => absurd hq List.not_mem_nil) dX2_areTwo_26
          · exact absurd c5041 (by decide)
        · rw [if_neg k5040] at hw
          by_cases k5042 : x2 ≤ x1
          · rw [if_pos k5042] at hw
            subst hw
            refine lv_if_eq (tgt := 25) hx hb dX2_areTwo_13 (by decide) (fun c5043 => ?_) (fun c5043 => ?_)
            · refine lv_iconst (v := 0) hx hb dX2_areTwo_25 (by decide) ?_
              exact W.zret (v := 0) hx hb hr (by decide) (fun t ht hW => ⟨_, rfl, by rw [if_neg k5034, if_neg k5036, if_neg k5040, if_pos k5042], ht⟩) (fun q hq => absurd hq List.not_mem_nil) dX2_areTwo_26
            · exact absurd c5043 (by decide)
          · rw [if_neg k5042] at hw
            subst hw
            refine lv_if_eq (tgt := 25) hx hb dX2_areTwo_13 (by decide) (fun c5044 => ?_) (fun c5044 => ?_)
            · exact absurd c5044 (by decide)
            · refine lv_iload_n hx hb dX2_areTwo_16 rfl (lv_at hl 1 rfl) ?_
              refine lv_iload_n hx hb dX2_areTwo_17 rfl (lv_at hl 2 rfl) ?_
              refine lv_icmp_eq (tgt := 25) hx hb dX2_areTwo_18 (by decide) (fun c5045 => ?_) (fun c5045 => ?_)
              · refine lv_iconst (v := 0) hx hb dX2_areTwo_25 (by decide) ?_
                exact W.zret (v := 0) hx hb hr (by decide) (fun t ht hW => ⟨_, rfl, by rw [if_neg k5034, if_neg k5036, if_neg k5040, if_neg k5042, if_pos c5045], ht⟩) (fun q hq => absurd hq List.not_mem_nil) dX2_areTwo_26
              · refine lv_iconst (v := 1) hx hb dX2_areTwo_21 (by decide) ?_
                refine lv_goto (tgt := 26) hx hb dX2_areTwo_22 (by decide) ?_
                exact W.zret (v := 1) hx hb hr (by decide) (fun t ht hW => ⟨_, rfl, by rw [if_neg k5034, if_neg k5036, if_neg k5040, if_neg k5042, if_neg c5045], ht⟩) (fun q hq => absurd hq List.not_mem_nil) dX2_areTwo_26
set_option maxHeartbeats 4000000 in
set_option maxRecDepth 100000 in
theorem c_X0_draw_0 (l : Launch) (D : va_G) (cI cS : ClassId) (sz : Nat) (h0 : Nat) (x0 : Int32) : Met l yX0_draw wsX0_draw ({ frames := 0, cells := 0, slots := 0, locals := 0 }) (PQ D cI cS [(h0, .inr (0, [.int x0]))] sz [.ref h0]) (QI D [(h0, .inr (0, [.int x0]))] [(h0, .inr (0, [.int ((x0 * (1103515245 : Int32)) + (12345 : Int32))]))] sz (fun r => r = (Int32.toUInt32 ((x0 * (1103515245 : Int32)) + (12345 : Int32)) >>> (Int32.toUInt32 16 &&& Int32.toUInt32 31)).toInt32)) 0 0 (va_A [(h0, .inr (0, [.int x0]))] sz) := by
  refine Met.ofW (cc := cX0_draw) (maxL := 1) (ret := (some .int)) (by decide) rfl ?_
  intro p e s m args below meth c s₁ B hml hv
  obtain ⟨rfl, hsz, hP, hKK, hD0⟩ := hv
  have hx := B.exec
  have hb := B.bytes
  have hr := B.returns
  have hts := atoms_spec (ws := wsX0_draw) B.pre
  have hown : s.vm.findClass RX0 = some m.cls := findClass_of_methodNamed B.named
  have hlocks := B.notSynchronized
  have hK := hKK.1
  have hN := hKK.2
  have hin0 : ∀ w ∈ wsX00, w ∈ wsX0_draw := by decide +kernel
  subst hsz
  have hD := hD0.self (sz := s.heap.size)
  obtain ⟨A, hAe⟩ : ∃ A, A = va_A [(h0, .inr (0, [.int x0]))] s.heap.size := ⟨_, rfl⟩
  rw [← hAe] at hD
  have hA : ∀ q : Nat, s.heap.size ≤ q → A q := fun q h => by rw [hAe]; exact Or.inr h
  have hS : va_S A s.heap s.heap [] := va_S.rf
  have hl := lv_entry ([.ref h0]) (n := 1) (Nat.le_of_ble_eq_true rfl)
  rw [lg_entry_eq]
  generalize (lg_sl ([.ref h0]) ++ List.replicate (1 - (lg_sl ([.ref h0])).length) Slot.unset).toArray = ls at hl ⊢
  have hl : lv_has ls 1 [(0, .ref h0)] := hl
  refine lv_aload_n hx hb dX0_draw_0 rfl (lv_at hl 0 rfl) ?_
  refine lv_aload_n hx hb dX0_draw_1 rfl (lv_at hl 0 rfl) ?_
  refine va_get (D := D) (ci := 0) (v := .int x0) (C := RX0) (T := TX0) (N := 1) hx hb hts hin0 hown hK hP 0 rfl rfl 0 (by decide) (hts (.fieldLink RX0 7 "MissedPoints$Draws" "z" "I") (by decide +kernel)) (fun _ h9 => h9) rfl dX0_draw_2 ?_
  refine lv_ldc hx hb hown (hts (.constant RX0 13 (1103515245)) (by decide +kernel)) dX0_draw_5 ?_
  refine lv_imul hx hb dX0_draw_7 ?_
  refine lv_sipush (v := 12345) hx hb dX0_draw_8 (by decide) ?_
  refine lv_iadd hx hb dX0_draw_11 ?_
  refine va_put (D := D) (ci := 0) (v := .int ((x0 * (1103515245 : Int32)) + (12345 : Int32))) (ty := .int) (C := RX0) (T := TX0) (N := 1) hx hb hts hin0 tyX0 tyX0_ok nmX0 hown hK hP hD hS 0 rfl rfl 0 (by decide) (hts (.fieldLink RX0 7 "MissedPoints$Draws" "z" "I") (by decide +kernel)) (fun _ h9 => h9) rfl (by decide +kernel) rfl rfl (Nat.le_of_ble_eq_true rfl) dX0_draw_12 (fun H locs hP hD hS => ?_)
  have hP : va_P D cls [(h0, .inr (0, [.int ((x0 * (1103515245 : Int32)) + (12345 : Int32))]))] H := hP
  have hD : va_D A [(h0, .inr (0, [.int ((x0 * (1103515245 : Int32)) + (12345 : Int32))]))] := hD
  refine lv_aload_n hx hb dX0_draw_15 rfl (lv_at hl 0 rfl) ?_
  refine va_get (D := D) (ci := 0) (v := .int ((x0 * (1103515245 : Int32)) + (12345 : Int32))) (C := RX0) (T := TX0) (N := 1) hx hb hts hin0 hown hK hP 0 rfl rfl 0 (by decide) (hts (.fieldLink RX0 7 "MissedPoints$Draws" "z" "I") (by decide +kernel)) (fun _ h9 => h9) rfl dX0_draw_16 ?_
  refine lv_bipush (v := 16) hx hb dX0_draw_19 (by decide) ?_
  refine lv_iushr (v := (Int32.toUInt32 ((x0 * (1103515245 : Int32)) + (12345 : Int32)) >>> (Int32.toUInt32 16 &&& Int32.toUInt32 31)).toInt32) hx hb dX0_draw_21 rfl ?_
  have hP9 := hP.sub (ws' := [(h0, .inr (0, [.int ((x0 * (1103515245 : Int32)) + (12345 : Int32))]))]) [0] rfl
  have hD9 := hD.sub (ws' := [(h0, .inr (0, [.int ((x0 * (1103515245 : Int32)) + (12345 : Int32))]))]) [0] (by decide) rfl
  subst hAe
  exact W.iret (v := (Int32.toUInt32 ((x0 * (1103515245 : Int32)) + (12345 : Int32)) >>> (Int32.toUInt32 16 &&& Int32.toUInt32 31)).toInt32) hx hb hr (fun t ht hW => ⟨⟨_, (), rfl, rfl, by rw [ht]; exact hP9, hD9⟩, hS.F ht⟩) hS.2.2 dX0_draw_22
set_option maxHeartbeats 4000000 in
set_option maxRecDepth 100000 in
theorem c_X2_empty_0 (l : Launch) (D : va_G) (cI cS : ClassId) (sz : Nat) (h0 h1 : Nat) (f0 : Nat → Int32) (x0 x1 : Int32) : Met l yX2_empty wsX2_empty ({ frames := 0, cells := 0, slots := 0, locals := 0 }) (PQ D cI cS [(h0, .inr (2, [.ref h1, .int x0, .int x1])), (h1, .inl (cI, 12, .inl f0))] sz [.ref h0]) (QV D [(h0, .inr (2, [.ref h1, .int x0, .int x1])), (h1, .inl (cI, 12, .inl f0))] [(h0, .inr (2, [.ref h1, .int 0, .int (x1 + (1 : Int32))])), (h1, .inl (cI, 12, .inl (upd (upd (upd (upd (upd (upd (upd (upd (upd (upd (upd (upd f0 0 0) 1 0) 2 0) 3 0) 4 0) 5 0) 6 0) 7 0) 8 0) 9 0) 10 0) 11 0)))] sz) 0 0 (va_A [(h0, .inr (2, [.ref h1, .int x0, .int x1])), (h1, .inl (cI, 12, .inl f0))] sz) := by
  refine Met.ofW (cc := cX2_empty) (maxL := 2) (ret := none) (by decide) rfl ?_
  intro p e s m args below meth c s₁ B hml hv
  obtain ⟨rfl, hsz, hP, hKK, hD0⟩ := hv
  have hx := B.exec
  have hb := B.bytes
  have hr := B.returns
  have hts := atoms_spec (ws := wsX2_empty) B.pre
  have hown : s.vm.findClass RX2 = some m.cls := findClass_of_methodNamed B.named
  have hlocks := B.notSynchronized
  have hK := hKK.1
  have hN := hKK.2
  have hin2 : ∀ w ∈ wsX20, w ∈ wsX2_empty := by decide +kernel
  subst hsz
  have hD := hD0.self (sz := s.heap.size)
  obtain ⟨A, hAe⟩ : ∃ A, A = va_A [(h0, .inr (2, [.ref h1, .int x0, .int x1])), (h1, .inl (cI, 12, .inl f0))] s.heap.size := ⟨_, rfl⟩
  rw [← hAe] at hD
  have hA : ∀ q : Nat, s.heap.size ≤ q → A q := fun q h => by rw [hAe]; exact Or.inr h
  have hS : va_S A s.heap s.heap [] := va_S.rf
  have hl := lv_entry ([.ref h0]) (n := 2) (Nat.le_of_ble_eq_true rfl)
  rw [lg_entry_eq]
  generalize (lg_sl ([.ref h0]) ++ List.replicate (2 - (lg_sl ([.ref h0])).length) Slot.unset).toArray = ls at hl ⊢
  have hl : lv_has ls 2 [(0, .ref h0)] := hl
  refine lv_iconst (v := 0) hx hb dX2_empty_0 (by decide) ?_
  refine lv_istore_n (lv' := [(1, .int 0), (0, .ref h0)]) hx hb dX2_empty_1 rfl hl (by decide) rfl (fun ls hl => ?_)
  refine lv_iload_n hx hb dX2_empty_2 rfl (lv_at hl 0 rfl) ?_
  refine lv_bipush (v := 12) hx hb dX2_empty_3 (by decide) ?_
  refine lv_icmp_ge (tgt := 21) hx hb dX2_empty_5 (by decide) (fun c5068 => ?_) (fun c5068 => ?_)
  · exact absurd c5068 (by decide)
  · refine lv_aload_n hx hb dX2_empty_8 rfl (lv_at hl 1 rfl) ?_
    refine va_get (D := D) (ci := 2) (v := .ref h1) (C := RX2) (T := TX2) (N := 3) hx hb hts hin2 hown hK hP 0 rfl rfl 0 (by decide) (hts (.fieldLink RX2 9 "MissedPoints$Net" "links" "[I") (by decide +kernel)) (fun _ h9 => h9) rfl dX2_empty_9 ?_
    refine lv_iload_n hx hb dX2_empty_12 rfl (lv_at hl 0 rfl) ?_
    refine lv_iconst (v := 0) hx hb dX2_empty_13 (by decide) ?_
    refine va_iast hx hb hK hP hD hS 1 0 rfl rfl (lz_vp (x := 0) (n := 12) (by decide) (by decide)) dX2_empty_14 (fun H locs hP hD hS => ?_)
    have hP : va_P D cls [(h0, .inr (2, [.ref h1, .int x0, .int x1])), (h1, .inl (cI, 12, .inl (upd f0 0 0)))] H := hP
    have hD : va_D A [(h0, .inr (2, [.ref h1, .int x0, .int x1])), (h1, .inl (cI, 12, .inl (upd f0 0 0)))] := hD
    refine lv_iinc (v := 1) (lv' := [(1, .int 1), (0, .ref h0)]) hx hb dX2_empty_15 hl (k := 0) rfl (by decide) (by decide) rfl (fun ls hl => ?_)
    refine lv_goto (tgt := 2) hx hb dX2_empty_18 (by decide) ?_
    refine lv_iload_n hx hb dX2_empty_2 rfl (lv_at hl 0 rfl) ?_
    refine lv_bipush (v := 12) hx hb dX2_empty_3 (by decide) ?_
    refine lv_icmp_ge (tgt := 21) hx hb dX2_empty_5 (by decide) (fun c5069 => ?_) (fun c5069 => ?_)
    · exact absurd c5069 (by decide)
    · refine lv_aload_n hx hb dX2_empty_8 rfl (lv_at hl 1 rfl) ?_
      refine va_get (D := D) (ci := 2) (v := .ref h1) (C := RX2) (T := TX2) (N := 3) hx hb hts hin2 hown hK hP 0 rfl rfl 0 (by decide) (hts (.fieldLink RX2 9 "MissedPoints$Net" "links" "[I") (by decide +kernel)) (fun _ h9 => h9) rfl dX2_empty_9 ?_
      refine lv_iload_n hx hb dX2_empty_12 rfl (lv_at hl 0 rfl) ?_
      refine lv_iconst (v := 0) hx hb dX2_empty_13 (by decide) ?_
      refine va_iast hx hb hK hP hD hS 1 0 rfl rfl (lz_vp (x := 1) (n := 12) (by decide) (by decide)) dX2_empty_14 (fun H locs hP hD hS => ?_)
      have hP : va_P D cls [(h0, .inr (2, [.ref h1, .int x0, .int x1])), (h1, .inl (cI, 12, .inl (upd (upd f0 0 0) 1 0)))] H := hP
      have hD : va_D A [(h0, .inr (2, [.ref h1, .int x0, .int x1])), (h1, .inl (cI, 12, .inl (upd (upd f0 0 0) 1 0)))] := hD
      refine lv_iinc (v := 2) (lv' := [(1, .int 2), (0, .ref h0)]) hx hb dX2_empty_15 hl (k := 0) rfl (by decide) (by decide) rfl (fun ls hl => ?_)
      refine lv_goto (tgt := 2) hx hb dX2_empty_18 (by decide) ?_
      refine lv_iload_n hx hb dX2_empty_2 rfl (lv_at hl 0 rfl) ?_
      refine lv_bipush (v := 12) hx hb dX2_empty_3 (by decide) ?_
      refine lv_icmp_ge (tgt := 21) hx hb dX2_empty_5 (by decide) (fun c5070 => ?_) (fun c5070 => ?_)
      · exact absurd c5070 (by decide)
      · refine lv_aload_n hx hb dX2_empty_8 rfl (lv_at hl 1 rfl) ?_
        refine va_get (D := D) (ci := 2) (v := .ref h1) (C := RX2) (T := TX2) (N := 3) hx hb hts hin2 hown hK hP 0 rfl rfl 0 (by decide) (hts (.fieldLink RX2 9 "MissedPoints$Net" "links" "[I") (by decide +kernel)) (fun _ h9 => h9) rfl dX2_empty_9 ?_
        refine lv_iload_n hx hb dX2_empty_12 rfl (lv_at hl 0 rfl) ?_
        refine lv_iconst (v := 0) hx hb dX2_empty_13 (by decide) ?_
        refine va_iast hx hb hK hP hD hS 1 0 rfl rfl (lz_vp (x := 2) (n := 12) (by decide) (by decide)) dX2_empty_14 (fun H locs hP hD hS => ?_)
        have hP : va_P D cls [(h0, .inr (2, [.ref h1, .int x0, .int x1])), (h1, .inl (cI, 12, .inl (upd (upd (upd f0 0 0) 1 0) 2 0)))] H := hP
        have hD : va_D A [(h0, .inr (2, [.ref h1, .int x0, .int x1])), (h1, .inl (cI, 12, .inl (upd (upd (upd f0 0 0) 1 0) 2 0)))] := hD
        refine lv_iinc (v := 3) (lv' := [(1, .int 3), (0, .ref h0)]) hx hb dX2_empty_15 hl (k := 0) rfl (by decide) (by decide) rfl (fun ls hl => ?_)
        refine lv_goto (tgt := 2) hx hb dX2_empty_18 (by decide) ?_
        refine lv_iload_n hx hb dX2_empty_2 rfl (lv_at hl 0 rfl) ?_
        refine lv_bipush (v := 12) hx hb dX2_empty_3 (by decide) ?_
        refine lv_icmp_ge (tgt := 21) hx hb dX2_empty_5 (by decide) (fun c5071 => ?_) (fun c5071 => ?_)
        · exact absurd c5071 (by decide)
        · refine lv_aload_n hx hb dX2_empty_8 rfl (lv_at hl 1 rfl) ?_
          refine va_get (D := D) (ci := 2) (v := .ref h1) (C := RX2) (T := TX2) (N := 3) hx hb hts hin2 hown hK hP 0 rfl rfl 0 (by decide) (hts (.fieldLink RX2 9 "MissedPoints$Net" "links" "[I") (by decide +kernel)) (fun _ h9 => h9) rfl dX2_empty_9 ?_
          refine lv_iload_n hx hb dX2_empty_12 rfl (lv_at hl 0 rfl) ?_
          refine lv_iconst (v := 0) hx hb dX2_empty_13 (by decide) ?_
          refine va_iast hx hb hK hP hD hS 1 0 rfl rfl (lz_vp (x := 3) (n := 12) (by decide) (by decide)) dX2_empty_14 (fun H locs hP hD hS => ?_)
          have hP : va_P D cls [(h0, .inr (2, [.ref h1, .int x0, .int x1])), (h1, .inl (cI, 12, .inl (upd (upd (upd (upd f0 0 0) 1 0) 2 0) 3 0)))] H := hP
          have hD : va_D A [(h0, .inr (2, [.ref h1, .int x0, .int x1])), (h1, .inl (cI, 12, .inl (upd (upd (upd (upd f0 0 0) 1 0) 2 0) 3 0)))] := hD
          refine lv_iinc (v := 4) (lv' := [(1, .int 4), (0, .ref h0)]) hx hb dX2_empty_15 hl (k := 0) rfl (by decide) (by decide) rfl (fun ls hl => ?_)
          refine lv_goto (tgt := 2) hx hb dX2_empty_18 (by decide) ?_
          refine lv_iload_n hx hb dX2_empty_2 rfl (lv_at hl 0 rfl) ?_
          refine lv_bipush (v := 12) hx hb dX2_empty_3 (by decide) ?_
          refine lv_icmp_ge (tgt := 21) hx hb dX2_empty_5 (by decide) (fun c5072 => ?_) (fun c5072 => ?_)
          · exact absurd c5072 (by decide)
          · refine lv_aload_n hx hb dX2_empty_8 rfl (lv_at hl 1 rfl) ?_
            refine va_get (D := D) (ci := 2) (v := .ref h1) (C := RX2) (T := TX2) (N := 3) hx hb hts hin2 hown hK hP 0 rfl rfl 0 (by decide) (hts (.fieldLink RX2 9 "MissedPoints$Net" "links" "[I") (by decide +kernel)) (fun _ h9 => h9) rfl dX2_empty_9 ?_
            refine lv_iload_n hx hb dX2_empty_12 rfl (lv_at hl 0 rfl) ?_
            refine lv_iconst (v := 0) hx hb dX2_empty_13 (by decide) ?_
            refine va_iast hx hb hK hP hD hS 1 0 rfl rfl (lz_vp (x := 4) (n := 12) (by decide) (by decide)) dX2_empty_14 (fun H locs hP hD hS => ?_)
            have hP : va_P D cls [(h0, .inr (2, [.ref h1, .int x0, .int x1])), (h1, .inl (cI, 12, .inl (upd (upd (upd (upd (upd f0 0 0) 1 0) 2 0) 3 0) 4 0)))] H := hP
            have hD : va_D A [(h0, .inr (2, [.ref h1, .int x0, .int x1])), (h1, .inl (cI, 12, .inl (upd (upd (upd (upd (upd f0 0 0) 1 0) 2 0) 3 0) 4 0)))] := hD
            refine lv_iinc (v := 5) (lv' := [(1, .int 5), (0, .ref h0)]) hx hb dX2_empty_15 hl (k := 0) rfl (by decide) (by decide) rfl (fun ls hl => ?_)
            refine lv_goto (tgt := 2) hx hb dX2_empty_18 (by decide) ?_
            refine lv_iload_n hx hb dX2_empty_2 rfl (lv_at hl 0 rfl) ?_
            refine lv_bipush (v := 12) hx hb dX2_empty_3 (by decide) ?_
            refine lv_icmp_ge (tgt := 21) hx hb dX2_empty_5 (by decide) (fun c5073 => ?_) (fun c5073 => ?_)
            · exact absurd c5073 (by decide)
            · refine lv_aload_n hx hb dX2_empty_8 rfl (lv_at hl 1 rfl) ?_
              refine va_get (D := D) (ci := 2) (v := .ref h1) (C := RX2) (T := TX2) (N := 3) hx hb hts hin2 hown hK hP 0 rfl rfl 0 (by decide) (hts (.fieldLink RX2 9 "MissedPoints$Net" "links" "[I") (by decide +kernel)) (fun _ h9 => h9) rfl dX2_empty_9 ?_
              refine lv_iload_n hx hb dX2_empty_12 rfl (lv_at hl 0 rfl) ?_
              refine lv_iconst (v := 0) hx hb dX2_empty_13 (by decide) ?_
              refine va_iast hx hb hK hP hD hS 1 0 rfl rfl (lz_vp (x := 5) (n := 12) (by decide) (by decide)) dX2_empty_14 (fun H locs hP hD hS => ?_)
              have hP : va_P D cls [(h0, .inr (2, [.ref h1, .int x0, .int x1])), (h1, .inl (cI, 12, .inl (upd (upd (upd (upd (upd (upd f0 0 0) 1 0) 2 0) 3 0) 4 0) 5 0)))] H := hP
              have hD : va_D A [(h0, .inr (2, [.ref h1, .int x0, .int x1])), (h1, .inl (cI, 12, .inl (upd (upd (upd (upd (upd (upd f0 0 0) 1 0) 2 0) 3 0) 4 0) 5 0)))] := hD
              refine lv_iinc (v := 6) (lv' := [(1, .int 6), (0, .ref h0)]) hx hb dX2_empty_15 hl (k := 0) rfl (by decide) (by decide) rfl (fun ls hl => ?_)
              refine lv_goto (tgt := 2) hx hb dX2_empty_18 (by decide) ?_
              refine lv_iload_n hx hb dX2_empty_2 rfl (lv_at hl 0 rfl) ?_
              refine lv_bipush (v := 12) hx hb dX2_empty_3 (by decide) ?_
              refine lv_icmp_ge (tgt := 21) hx hb dX2_empty_5 (by decide) (fun c5074 => ?_) (fun c5074 => ?_)
              · exact absurd c5074 (by decide)
              · refine lv_aload_n hx hb dX2_empty_8 rfl (lv_at hl 1 rfl) ?_
                refine va_get (D := D) (ci := 2) (v := .ref h1) (C := RX2) (T := TX2) (N := 3) hx hb hts hin2 hown hK hP 0 rfl rfl 0 (by decide) (hts (.fieldLink RX2 9 "MissedPoints$Net" "links" "[I") (by decide +kernel)) (fun _ h9 => h9) rfl dX2_empty_9 ?_
                refine lv_iload_n hx hb dX2_empty_12 rfl (lv_at hl 0 rfl) ?_
                refine lv_iconst (v := 0) hx hb dX2_empty_13 (by decide) ?_
                refine va_iast hx hb hK hP hD hS 1 0 rfl rfl (lz_vp (x := 6) (n := 12) (by decide) (by decide)) dX2_empty_14 (fun H locs hP hD hS => ?_)
                have hP : va_P D cls [(h0, .inr (2, [.ref h1, .int x0, .int x1])), (h1, .inl (cI, 12, .inl (upd (upd (upd (upd (upd (upd (upd f0 0 0) 1 0) 2 0) 3 0) 4 0) 5 0) 6 0)))] H := hP
                have hD : va_D A [(h0, .inr (2, [.ref h1, .int x0, .int x1])), (h1, .inl (cI, 12, .inl (upd (upd (upd (upd (upd (upd (upd f0 0 0) 1 0) 2 0) 3 0) 4 0) 5 0) 6 0)))] := hD
                refine lv_iinc (v := 7) (lv' := [(1, .int 7), (0, .ref h0)]) hx hb dX2_empty_15 hl (k := 0) rfl (by decide) (by decide) rfl (fun ls hl => ?_)
                refine lv_goto (tgt := 2) hx hb dX2_empty_18 (by decide) ?_
                refine lv_iload_n hx hb dX2_empty_2 rfl (lv_at hl 0 rfl) ?_
                refine lv_bipush (v := 12) hx hb dX2_empty_3 (by decide) ?_
                refine lv_icmp_ge (tgt := 21) hx hb dX2_empty_5 (by decide) (fun c5075 => ?_) (fun c5075 => ?_)
                · exact absurd c5075 (by decide)
                · refine lv_aload_n hx hb dX2_empty_8 rfl (lv_at hl 1 rfl) ?_
                  refine va_get (D := D) (ci := 2) (v := .ref h1) (C := RX2) (T := TX2) (N := 3) hx hb hts hin2 hown hK hP 0 rfl rfl 0 (by decide) (hts (.fieldLink RX2 9 "MissedPoints$Net" "links" "[I") (by decide +kernel)) (fun _ h9 => h9) rfl dX2_empty_9 ?_
                  refine lv_iload_n hx hb dX2_empty_12 rfl (lv_at hl 0 rfl) ?_
                  refine lv_iconst (v := 0) hx hb dX2_empty_13 (by decide) ?_
                  refine va_iast hx hb hK hP hD hS 1 0 rfl rfl (lz_vp (x := 7) (n := 12) (by decide) (by decide)) dX2_empty_14 (fun H locs hP hD hS => ?_)
                  have hP : va_P D cls [(h0, .inr (2, [.ref h1, .int x0, .int x1])), (h1, .inl (cI, 12, .inl (upd (upd (upd (upd (upd (upd (upd (upd f0 0 0) 1 0) 2 0) 3 0) 4 0) 5 0) 6 0) 7 0)))] H := hP
                  have hD : va_D A [(h0, .inr (2, [.ref h1, .int x0, .int x1])), (h1, .inl (cI, 12, .inl (upd (upd (upd (upd (upd (upd (upd (upd f0 0 0) 1 0) 2 0) 3 0) 4 0) 5 0) 6 0) 7 0)))] := hD
                  refine lv_iinc (v := 8) (lv' := [(1, .int 8), (0, .ref h0)]) hx hb dX2_empty_15 hl (k := 0) rfl (by decide) (by decide) rfl (fun ls hl => ?_)
                  refine lv_goto (tgt := 2) hx hb dX2_empty_18 (by decide) ?_
                  refine lv_iload_n hx hb dX2_empty_2 rfl (lv_at hl 0 rfl) ?_
                  refine lv_bipush (v := 12) hx hb dX2_empty_3 (by decide) ?_
                  refine lv_icmp_ge (tgt := 21) hx hb dX2_empty_5 (by decide) (fun c5076 => ?_) (fun c5076 => ?_)
                  · exact absurd c5076 (by decide)
                  · refine lv_aload_n hx hb dX2_empty_8 rfl (lv_at hl 1 rfl) ?_
                    refine va_get (D := D) (ci := 2) (v := .ref h1) (C := RX2) (T := TX2) (N := 3) hx hb hts hin2 hown hK hP 0 rfl rfl 0 (by decide) (hts (.fieldLink RX2 9 "MissedPoints$Net" "links" "[I") (by decide +kernel)) (fun _ h9 => h9) rfl dX2_empty_9 ?_
                    refine lv_iload_n hx hb dX2_empty_12 rfl (lv_at hl 0 rfl) ?_
                    refine lv_iconst (v := 0) hx hb dX2_empty_13 (by decide) ?_
                    refine va_iast hx hb hK hP hD hS 1 0 rfl rfl (lz_vp (x := 8) (n := 12) (by decide) (by decide)) dX2_empty_14 (fun H locs hP hD hS => ?_)
                    have hP : va_P D cls [(h0, .inr (2, [.ref h1, .int x0, .int x1])), (h1, .inl (cI, 12, .inl (upd (upd (upd (upd (upd (upd (upd (upd (upd f0 0 0) 1 0) 2 0) 3 0) 4 0) 5 0) 6 0) 7 0) 8 0)))] H := hP
                    have hD : va_D A [(h0, .inr (2, [.ref h1, .int x0, .int x1])), (h1, .inl (cI, 12, .inl (upd (upd (upd (upd (upd (upd (upd (upd (upd f0 0 0) 1 0) 2 0) 3 0) 4 0) 5 0) 6 0) 7 0) 8 0)))] := hD
                    refine lv_iinc (v := 9) (lv' := [(1, .int 9), (0, .ref h0)]) hx hb dX2_empty_15 hl (k := 0) rfl (by decide) (by decide) rfl (fun ls hl => ?_)
                    refine lv_goto (tgt := 2) hx hb dX2_empty_18 (by decide) ?_
                    refine lv_iload_n hx hb dX2_empty_2 rfl (lv_at hl 0 rfl) ?_
                    refine lv_bipush (v := 12) hx hb dX2_empty_3 (by decide) ?_
                    refine lv_icmp_ge (tgt := 21) hx hb dX2_empty_5 (by decide) (fun c5077 => ?_) (fun c5077 => ?_)
                    · exact absurd c5077 (by decide)
                    · refine lv_aload_n hx hb dX2_empty_8 rfl (lv_at hl 1 rfl) ?_
                      refine va_get (D := D) (ci := 2) (v := .ref h1) (C := RX2) (T := TX2) (N := 3) hx hb hts hin2 hown hK hP 0 rfl rfl 0 (by decide) (hts (.fieldLink RX2 9 "MissedPoints$Net" "links" "[I") (by decide +kernel)) (fun _ h9 => h9) rfl dX2_empty_9 ?_
                      refine lv_iload_n hx hb dX2_empty_12 rfl (lv_at hl 0 rfl) ?_
                      refine lv_iconst (v := 0) hx hb dX2_empty_13 (by decide) ?_
                      refine va_iast hx hb hK hP hD hS 1 0 rfl rfl (lz_vp (x := 9) (n := 12) (by decide) (by decide)) dX2_empty_14 (fun H locs hP hD hS => ?_)
                      have hP : va_P D cls [(h0, .inr (2, [.ref h1, .int x0, .int x1])), (h1, .inl (cI, 12, .inl (upd (upd (upd (upd (upd (upd (upd (upd (upd (upd f0 0 0) 1 0) 2 0) 3 0) 4 0) 5 0) 6 0) 7 0) 8 0) 9 0)))] H := hP
                      have hD : va_D A [(h0, .inr (2, [.ref h1, .int x0, .int x1])), (h1, .inl (cI, 12, .inl (upd (upd (upd (upd (upd (upd (upd (upd (upd (upd f0 0 0) 1 0) 2 0) 3 0) 4 0) 5 0) 6 0) 7 0) 8 0) 9 0)))] := hD
                      refine lv_iinc (v := 10) (lv' := [(1, .int 10), (0, .ref h0)]) hx hb dX2_empty_15 hl (k := 0) rfl (by decide) (by decide) rfl (fun ls hl => ?_)
                      refine lv_goto (tgt := 2) hx hb dX2_empty_18 (by decide) ?_
                      refine lv_iload_n hx hb dX2_empty_2 rfl (lv_at hl 0 rfl) ?_
                      refine lv_bipush (v := 12) hx hb dX2_empty_3 (by decide) ?_
                      refine lv_icmp_ge (tgt := 21) hx hb dX2_empty_5 (by decide) (fun c5078 => ?_) (fun c5078 => ?_)
                      · exact absurd c5078 (by decide)
                      · refine lv_aload_n hx hb dX2_empty_8 rfl (lv_at hl 1 rfl) ?_
                        refine va_get (D := D) (ci := 2) (v := .ref h1) (C := RX2) (T := TX2) (N := 3) hx hb hts hin2 hown hK hP 0 rfl rfl 0 (by decide) (hts (.fieldLink RX2 9 "MissedPoints$Net" "links" "[I") (by decide +kernel)) (fun _ h9 => h9) rfl dX2_empty_9 ?_
                        refine lv_iload_n hx hb dX2_empty_12 rfl (lv_at hl 0 rfl) ?_
                        refine lv_iconst (v := 0) hx hb dX2_empty_13 (by decide) ?_
                        refine va_iast hx hb hK hP hD hS 1 0 rfl rfl (lz_vp (x := 10) (n := 12) (by decide) (by decide)) dX2_empty_14 (fun H locs hP hD hS => ?_)
                        have hP : va_P D cls [(h0, .inr (2, [.ref h1, .int x0, .int x1])), (h1, .inl (cI, 12, .inl (upd (upd (upd (upd (upd (upd (upd (upd (upd (upd (upd f0 0 0) 1 0) 2 0) 3 0) 4 0) 5 0) 6 0) 7 0) 8 0) 9 0) 10 0)))] H := hP
                        have hD : va_D A [(h0, .inr (2, [.ref h1, .int x0, .int x1])), (h1, .inl (cI, 12, .inl (upd (upd (upd (upd (upd (upd (upd (upd (upd (upd (upd f0 0 0) 1 0) 2 0) 3 0) 4 0) 5 0) 6 0) 7 0) 8 0) 9 0) 10 0)))] := hD
                        refine lv_iinc (v := 11) (lv' := [(1, .int 11), (0, .ref h0)]) hx hb dX2_empty_15 hl (k := 0) rfl (by decide) (by decide) rfl (fun ls hl => ?_)
                        refine lv_goto (tgt := 2) hx hb dX2_empty_18 (by decide) ?_
                        refine lv_iload_n hx hb dX2_empty_2 rfl (lv_at hl 0 rfl) ?_
                        refine lv_bipush (v := 12) hx hb dX2_empty_3 (by decide) ?_
                        refine lv_icmp_ge (tgt := 21) hx hb dX2_empty_5 (by decide) (fun c5079 => ?_) (fun c5079 => ?_)
                        · exact absurd c5079 (by decide)
                        · refine lv_aload_n hx hb dX2_empty_8 rfl (lv_at hl 1 rfl) ?_
                          refine va_get (D := D) (ci := 2) (v := .ref h1) (C := RX2) (T := TX2) (N := 3) hx hb hts hin2 hown hK hP 0 rfl rfl 0 (by decide) (hts (.fieldLink RX2 9 "MissedPoints$Net" "links" "[I") (by decide +kernel)) (fun _ h9 => h9) rfl dX2_empty_9 ?_
                          refine lv_iload_n hx hb dX2_empty_12 rfl (lv_at hl 0 rfl) ?_
                          refine lv_iconst (v := 0) hx hb dX2_empty_13 (by decide) ?_
                          refine va_iast hx hb hK hP hD hS 1 0 rfl rfl (lz_vp (x := 11) (n := 12) (by decide) (by decide)) dX2_empty_14 (fun H locs hP hD hS => ?_)
                          have hP : va_P D cls [(h0, .inr (2, [.ref h1, .int x0, .int x1])), (h1, .inl (cI, 12, .inl (upd (upd (upd (upd (upd (upd (upd (upd (upd (upd (upd (upd f0 0 0) 1 0) 2 0) 3 0) 4 0) 5 0) 6 0) 7 0) 8 0) 9 0) 10 0) 11 0)))] H := hP
                          have hD : va_D A [(h0, .inr (2, [.ref h1, .int x0, .int x1])), (h1, .inl (cI, 12, .inl (upd (upd (upd (upd (upd (upd (upd (upd (upd (upd (upd (upd f0 0 0) 1 0) 2 0) 3 0) 4 0) 5 0) 6 0) 7 0) 8 0) 9 0) 10 0) 11 0)))] := hD
                          refine lv_iinc (v := 12) (lv' := [(1, .int 12), (0, .ref h0)]) hx hb dX2_empty_15 hl (k := 0) rfl (by decide) (by decide) rfl (fun ls hl => ?_)
                          refine lv_goto (tgt := 2) hx hb dX2_empty_18 (by decide) ?_
                          refine lv_iload_n hx hb dX2_empty_2 rfl (lv_at hl 0 rfl) ?_
                          refine lv_bipush (v := 12) hx hb dX2_empty_3 (by decide) ?_
                          refine lv_icmp_ge (tgt := 21) hx hb dX2_empty_5 (by decide) (fun c5080 => ?_) (fun c5080 => ?_)
                          · refine lv_aload_n hx hb dX2_empty_21 rfl (lv_at hl 1 rfl) ?_
                            refine lv_iconst (v := 0) hx hb dX2_empty_22 (by decide) ?_
                            refine va_put (D := D) (ci := 2) (v := .int 0) (ty := .int) (C := RX2) (T := TX2) (N := 3) hx hb hts hin2 tyX2 tyX2_ok nmX2 hown hK hP hD hS 0 rfl rfl 1 (by decide) (hts (.fieldLink RX2 15 "MissedPoints$Net" "size" "I") (by decide +kernel)) (fun _ h9 => h9) rfl (by decide +kernel) rfl rfl (Nat.le_of_ble_eq_true rfl) dX2_empty_23 (fun H locs hP hD hS => ?_)
                            have hP : va_P D cls [(h0, .inr (2, [.ref h1, .int 0, .int x1])), (h1, .inl (cI, 12, .inl (upd (upd (upd (upd (upd (upd (upd (upd (upd (upd (upd (upd f0 0 0) 1 0) 2 0) 3 0) 4 0) 5 0) 6 0) 7 0) 8 0) 9 0) 10 0) 11 0)))] H := hP
                            have hD : va_D A [(h0, .inr (2, [.ref h1, .int 0, .int x1])), (h1, .inl (cI, 12, .inl (upd (upd (upd (upd (upd (upd (upd (upd (upd (upd (upd (upd f0 0 0) 1 0) 2 0) 3 0) 4 0) 5 0) 6 0) 7 0) 8 0) 9 0) 10 0) 11 0)))] := hD
                            refine lv_aload_n hx hb dX2_empty_26 rfl (lv_at hl 1 rfl) ?_
                            refine lv_dup hx hb dX2_empty_27 rfl ?_
                            refine va_get (D := D) (ci := 2) (v := .int x1) (C := RX2) (T := TX2) (N := 3) hx hb hts hin2 hown hK hP 0 rfl rfl 2 (by decide) (hts (.fieldLink RX2 33 "MissedPoints$Net" "changes" "I") (by decide +kernel)) (fun _ h9 => h9) rfl dX2_empty_28 ?_
                            refine lv_iconst (v := 1) hx hb dX2_empty_31 (by decide) ?_
                            refine lv_iadd hx hb dX2_empty_32 ?_
                            refine va_put (D := D) (ci := 2) (v := .int (x1 + (1 : Int32))) (ty := .int) (C := RX2) (T := TX2) (N := 3) hx hb hts hin2 tyX2 tyX2_ok nmX2 hown hK hP hD hS 0 rfl rfl 2 (by decide) (hts (.fieldLink RX2 33 "MissedPoints$Net" "changes" "I") (by decide +kernel)) (fun _ h9 => h9) rfl (by decide +kernel) rfl rfl (Nat.le_of_ble_eq_true rfl) dX2_empty_33 (fun H locs hP hD hS => ?_)
                            have hP : va_P D cls [(h0, .inr (2, [.ref h1, .int 0, .int (x1 + (1 : Int32))])), (h1, .inl (cI, 12, .inl (upd (upd (upd (upd (upd (upd (upd (upd (upd (upd (upd (upd f0 0 0) 1 0) 2 0) 3 0) 4 0) 5 0) 6 0) 7 0) 8 0) 9 0) 10 0) 11 0)))] H := hP
                            have hD : va_D A [(h0, .inr (2, [.ref h1, .int 0, .int (x1 + (1 : Int32))])), (h1, .inl (cI, 12, .inl (upd (upd (upd (upd (upd (upd (upd (upd (upd (upd (upd (upd f0 0 0) 1 0) 2 0) 3 0) 4 0) 5 0) 6 0) 7 0) 8 0) 9 0) 10 0) 11 0)))] := hD
                            have hP9 := hP.sub (ws' := [(h0, .inr (2, [.ref h1, .int 0, .int (x1 + (1 : Int32))])), (h1, .inl (cI, 12, .inl (upd (upd (upd (upd (upd (upd (upd (upd (upd (upd (upd (upd f0 0 0) 1 0) 2 0) 3 0) 4 0) 5 0) 6 0) 7 0) 8 0) 9 0) 10 0) 11 0)))]) [0, 1] rfl
                            have hD9 := hD.sub (ws' := [(h0, .inr (2, [.ref h1, .int 0, .int (x1 + (1 : Int32))])), (h1, .inl (cI, 12, .inl (upd (upd (upd (upd (upd (upd (upd (upd (upd (upd (upd (upd f0 0 0) 1 0) 2 0) 3 0) 4 0) 5 0) 6 0) 7 0) 8 0) 9 0) 10 0) 11 0)))]) [0, 1] (by decide) rfl
                            subst hAe
                            exact W.vret hx hb hr (fun t ht hW => ⟨⟨(), rfl, trivial, by rw [ht]; exact hP9, hD9⟩, hS.F ht⟩) hS.2.2 dX2_empty_36
                          · exact absurd c5080 (by decide)
set_option maxHeartbeats 4000000 in
set_option maxRecDepth 100000 in
theorem c_X2_add_1 (l : Launch) (D : va_G) (cI cS : ClassId) (sz : Nat) (h0 h1 : Nat) (x0 x1 : Int32) : Met l yX2_add wsX2_add ({ frames := 1, cells := 0, slots := 0, locals := 40 }) (PQ D cI cS [(h0, .inr (2, [.ref h1, .int 0, .int x1]))] sz [.ref h0, .int x0]) (QV D [(h0, .inr (2, [.ref h1, .int 0, .int x1]))] [(h0, .inr (2, [.ref h1, .int (if (12 : Int32) < x0 then (12 : Int32) else x0), .int (x1 + (1 : Int32))]))] sz) 0 0 (va_A [(h0, .inr (2, [.ref h1, .int 0, .int x1]))] sz) := by
  refine Met.ofW (cc := cX2_add) (maxL := 2) (ret := none) (by decide) rfl ?_
  intro p e s m args below meth c s₁ B hml hv
  obtain ⟨rfl, hsz, hP, hKK, hD0⟩ := hv
  have hx := B.exec
  have hb := B.bytes
  have hr := B.returns
  have hts := atoms_spec (ws := wsX2_add) B.pre
  have hown : s.vm.findClass RX2 = some m.cls := findClass_of_methodNamed B.named
  have hlocks := B.notSynchronized
  have hK := hKK.1
  have hN := hKK.2
  have hin2 : ∀ w ∈ wsX20, w ∈ wsX2_add := by decide +kernel
  subst hsz
  have hD := hD0.self (sz := s.heap.size)
  obtain ⟨A, hAe⟩ : ∃ A, A = va_A [(h0, .inr (2, [.ref h1, .int 0, .int x1]))] s.heap.size := ⟨_, rfl⟩
  rw [← hAe] at hD
  have hA : ∀ q : Nat, s.heap.size ≤ q → A q := fun q h => by rw [hAe]; exact Or.inr h
  have hS : va_S A s.heap s.heap [] := va_S.rf
  have hl := lv_entry ([.ref h0, .int x0]) (n := 2) (Nat.le_of_ble_eq_true rfl)
  rw [lg_entry_eq]
  generalize (lg_sl ([.ref h0, .int x0]) ++ List.replicate (2 - (lg_sl ([.ref h0, .int x0])).length) Slot.unset).toArray = ls at hl ⊢
  have hl : lv_has ls 2 [(0, .ref h0), (1, .int x0)] := hl
  refine lv_aload_n hx hb dX2_add_0 rfl (lv_at hl 0 rfl) ?_
  refine lv_aload_n hx hb dX2_add_1 rfl (lv_at hl 0 rfl) ?_
  refine va_get (D := D) (ci := 2) (v := .int 0) (C := RX2) (T := TX2) (N := 3) hx hb hts hin2 hown hK hP 0 rfl rfl 1 (by decide) (hts (.fieldLink RX2 15 "MissedPoints$Net" "size" "I") (by decide +kernel)) (fun _ h9 => h9) rfl dX2_add_2 ?_
  refine lv_iload_n hx hb dX2_add_5 rfl (lv_at hl 1 rfl) ?_
  refine lv_iadd hx hb dX2_add_6 ?_
  refine lz_top (y := x0) (by simp) ?_
  refine lv_bipush (v := 12) hx hb dX2_add_7 (by decide) ?_
  refine va_mmin hx hb (by rw [hml]; exact hl.1.symm) hown (hts (.methodLink RX2 27 Lib.Math.min.name) (by decide +kernel)) (hts (.static Lib.Math.min.name) (by decide +kernel)) (hts (.initialized "java/lang/Math") (by decide +kernel)) (hts (.code Lib.Math.min.name Lib.Math.min.code 2 (some .int)) (by decide +kernel)) (Nat.le_of_ble_eq_true rfl) (Nat.le_of_ble_eq_true rfl) (Nat.le_of_ble_eq_true rfl) (Nat.le_of_ble_eq_true rfl) dX2_add_9 ?_
  refine va_put (D := D) (ci := 2) (v := .int (if (12 : Int32) < x0 then (12 : Int32) else x0)) (ty := .int) (C := RX2) (T := TX2) (N := 3) hx hb hts hin2 tyX2 tyX2_ok nmX2 hown hK hP hD hS 0 rfl rfl 1 (by decide) (hts (.fieldLink RX2 15 "MissedPoints$Net" "size" "I") (by decide +kernel)) (fun _ h9 => h9) rfl (by decide +kernel) rfl rfl (Nat.le_of_ble_eq_true rfl) dX2_add_12 (fun H locs hP hD hS => ?_)
  have hP : va_P D cls [(h0, .inr (2, [.ref h1, .int (if (12 : Int32) < x0 then (12 : Int32) else x0), .int x1]))] H := hP
  have hD : va_D A [(h0, .inr (2, [.ref h1, .int (if (12 : Int32) < x0 then (12 : Int32) else x0), .int x1]))] := hD
  refine lv_aload_n hx hb dX2_add_15 rfl (lv_at hl 0 rfl) ?_
  refine lv_dup hx hb dX2_add_16 rfl ?_
  refine va_get (D := D) (ci := 2) (v := .int x1) (C := RX2) (T := TX2) (N := 3) hx hb hts hin2 hown hK hP 0 rfl rfl 2 (by decide) (hts (.fieldLink RX2 33 "MissedPoints$Net" "changes" "I") (by decide +kernel)) (fun _ h9 => h9) rfl dX2_add_17 ?_
  refine lv_iconst (v := 1) hx hb dX2_add_20 (by decide) ?_
  refine lv_iadd hx hb dX2_add_21 ?_
  refine va_put (D := D) (ci := 2) (v := .int (x1 + (1 : Int32))) (ty := .int) (C := RX2) (T := TX2) (N := 3) hx hb hts hin2 tyX2 tyX2_ok nmX2 hown hK hP hD hS 0 rfl rfl 2 (by decide) (hts (.fieldLink RX2 33 "MissedPoints$Net" "changes" "I") (by decide +kernel)) (fun _ h9 => h9) rfl (by decide +kernel) rfl rfl (Nat.le_of_ble_eq_true rfl) dX2_add_22 (fun H locs hP hD hS => ?_)
  have hP : va_P D cls [(h0, .inr (2, [.ref h1, .int (if (12 : Int32) < x0 then (12 : Int32) else x0), .int (x1 + (1 : Int32))]))] H := hP
  have hD : va_D A [(h0, .inr (2, [.ref h1, .int (if (12 : Int32) < x0 then (12 : Int32) else x0), .int (x1 + (1 : Int32))]))] := hD
  have hP9 := hP.sub (ws' := [(h0, .inr (2, [.ref h1, .int (if (12 : Int32) < x0 then (12 : Int32) else x0), .int (x1 + (1 : Int32))]))]) [0] rfl
  have hD9 := hD.sub (ws' := [(h0, .inr (2, [.ref h1, .int (if (12 : Int32) < x0 then (12 : Int32) else x0), .int (x1 + (1 : Int32))]))]) [0] (by decide) rfl
  subst hAe
  exact W.vret hx hb hr (fun t ht hW => ⟨⟨(), rfl, trivial, by rw [ht]; exact hP9, hD9⟩, hS.F ht⟩) hS.2.2 dX2_add_25
set_option maxRecDepth 20000 in
theorem ggX2_join_X2_areTwo : GoodIn wsX2_join wsX2_areTwo := goodIn_r _ [7, 8, 9, 10, 6, 11, 12, 13, 14, 15] (by decide +kernel) (by decide +kernel)
set_option maxRecDepth 20000 in
theorem gX2_join_X2_areTwo : GoodIn wsX2_join (wsV RX2 36 RX2 yX2_areTwo wsX2_areTwo) := goodIn_app (goodIn_of _ (by decide +kernel)) ggX2_join_X2_areTwo
theorem dX2_join_0 : decode cX2_join 0 = .ok (.aload_n 0, 1) := by decide +kernel
theorem dX2_join_1 : decode cX2_join 1 = .ok (.iload_n 1, 1) := by decide +kernel
theorem dX2_join_10 : decode cX2_join 10 = .ok (.iload_n 3, 1) := by decide +kernel
theorem dX2_join_11 : decode cX2_join 11 = .ok (.ifCond .eq 30, 3) := by decide +kernel
theorem dX2_join_14 : decode cX2_join 14 = .ok (.aload_n 0, 1) := by decide +kernel
theorem dX2_join_15 : decode cX2_join 15 = .ok (.getfield 9, 3) := by decide +kernel
theorem dX2_join_18 : decode cX2_join 18 = .ok (.iload_n 1, 1) := by decide +kernel
theorem dX2_join_19 : decode cX2_join 19 = .ok (.dup2, 1) := by decide +kernel
theorem dX2_join_2 : decode cX2_join 2 = .ok (.iload_n 2, 1) := by decide +kernel
theorem dX2_join_20 : decode cX2_join 20 = .ok (.iaload, 1) := by decide +kernel
theorem dX2_join_21 : decode cX2_join 21 = .ok (.iconst 1, 1) := by decide +kernel
theorem dX2_join_22 : decode cX2_join 22 = .ok (.iload_n 2, 1) := by decide +kernel
theorem dX2_join_23 : decode cX2_join 23 = .ok (.ishl, 1) := by decide +kernel
theorem dX2_join_24 : decode cX2_join 24 = .ok (.ior, 1) := by decide +kernel
theorem dX2_join_25 : decode cX2_join 25 = .ok (.iastore, 1) := by decide +kernel
theorem dX2_join_26 : decode cX2_join 26 = .ok (.aload_n 0, 1) := by decide +kernel
theorem dX2_join_27 : decode cX2_join 27 = .ok (.getfield 9, 3) := by decide +kernel
theorem dX2_join_3 : decode cX2_join 3 = .ok (.invokevirtual 36, 3) := by decide +kernel
theorem dX2_join_30 : decode cX2_join 30 = .ok (.iload_n 2, 1) := by decide +kernel
theorem dX2_join_31 : decode cX2_join 31 = .ok (.dup2, 1) := by decide +kernel
theorem dX2_join_32 : decode cX2_join 32 = .ok (.iaload, 1) := by decide +kernel
theorem dX2_join_33 : decode cX2_join 33 = .ok (.iconst 1, 1) := by decide +kernel
theorem dX2_join_34 : decode cX2_join 34 = .ok (.iload_n 1, 1) := by decide +kernel
theorem dX2_join_35 : decode cX2_join 35 = .ok (.ishl, 1) := by decide +kernel
theorem dX2_join_36 : decode cX2_join 36 = .ok (.ior, 1) := by decide +kernel
theorem dX2_join_37 : decode cX2_join 37 = .ok (.iastore, 1) := by decide +kernel
theorem dX2_join_38 : decode cX2_join 38 = .ok (.goto 31, 3) := by decide +kernel
theorem dX2_join_6 : decode cX2_join 6 = .ok (.ifCond .ne 4, 3) := by decide +kernel
theorem dX2_join_69 : decode cX2_join 69 = .ok (.aload_n 0, 1) := by decide +kernel
theorem dX2_join_70 : decode cX2_join 70 = .ok (.dup, 1) := by decide +kernel
theorem dX2_join_71 : decode cX2_join 71 = .ok (.getfield 33, 3) := by decide +kernel
theorem dX2_join_74 : decode cX2_join 74 = .ok (.iconst 1, 1) := by decide +kernel
theorem dX2_join_75 : decode cX2_join 75 = .ok (.iadd, 1) := by decide +kernel
theorem dX2_join_76 : decode cX2_join 76 = .ok (.putfield 33, 3) := by decide +kernel
theorem dX2_join_79 : decode cX2_join 79 = .ok (.return_, 1) := by decide +kernel
set_option maxHeartbeats 4000000 in
set_option maxRecDepth 100000 in
theorem c_join (l : Launch) (D : va_G) (cI cS : ClassId) (sz : Nat) (h0 h1 : Nat) (f : Nat → Int32) (ch : Int32) (k a b : Nat) (hk : k ≤ 12) (ha : a < k) (hb12 : b < k) (hab : a ≠ b) : Met l yX2_join wsX2_join ({ frames := 2, cells := 0, slots := 0, locals := 80 }) (PQ D cI cS [(h0, .inr (2, [.ref h1, .int (nI k), .int ch])), (h1, .inl (cI, 12, .inl f))] sz [.ref h0, .int (nI a), .int (nI b), .int 1]) (QV D [(h0, .inr (2, [.ref h1, .int (nI k), .int ch])), (h1, .inl (cI, 12, .inl f))] [(h0, .inr (2, [.ref h1, .int (nI k), .int (ch + 1)])), (h1, .inl (cI, 12, .inl (lay1 f a b)))] sz) 0 0 (va_A [(h0, .inr (2, [.ref h1, .int (nI k), .int ch])), (h1, .inl (cI, 12, .inl f))] sz) := by
  refine Met.ofW (cc := cX2_join) (maxL := 4) (ret := none) (by decide) rfl ?_
  intro p e s m args below meth c s₁ B hml hv
  obtain ⟨rfl, hsz, hP, hKK, hD0⟩ := hv
  have hx := B.exec
  have hb := B.bytes
  have hr := B.returns
  have hts := atoms_spec (ws := wsX2_join) B.pre
  have hown : s.vm.findClass RX2 = some m.cls := findClass_of_methodNamed B.named
  have hlocks := B.notSynchronized
  have hK := hKK.1
  have hN := hKK.2
  have hin2 : ∀ w ∈ wsX20, w ∈ wsX2_join := by decide +kernel
  subst hsz
  have hD := hD0.self (sz := s.heap.size)
  obtain ⟨A, hAe⟩ : ∃ A, A = va_A [(h0, .inr (2, [.ref h1, .int (nI k), .int ch])), (h1, .inl (cI, 12, .inl f))] s.heap.size := ⟨_, rfl⟩
  rw [← hAe] at hD
  have hA : ∀ q : Nat, s.heap.size ≤ q → A q := fun q h => by rw [hAe]; exact Or.inr h
  have hS : va_S A s.heap s.heap [] := va_S.rf
  have hl := lv_entry ([.ref h0, .int (nI a), .int (nI b), .int 1]) (n := 4) (Nat.le_of_ble_eq_true rfl)
  rw [lg_entry_eq]
  generalize (lg_sl ([.ref h0, .int (nI a), .int (nI b), .int 1]) ++ List.replicate (4 - (lg_sl ([.ref h0, .int (nI a), .int (nI b), .int 1])).length) Slot.unset).toArray = ls at hl ⊢
  have hl : lv_has ls 4 [(0, .ref h0), (1, .int (nI a)), (2, .int (nI b)), (3, .int 1)] := hl
  refine lv_aload_n hx hb dX2_join_0 rfl (lv_at hl 0 rfl) ?_
  refine lv_iload_n hx hb dX2_join_1 rfl (lv_at hl 1 rfl) ?_
  refine lv_iload_n hx hb dX2_join_2 rfl (lv_at hl 2 rfl) ?_
  have hPc := hP.sub (ws' := [(h0, .inr (2, [.ref h1, .int (nI k), .int ch]))]) [0] rfl
  refine lz_sv (As := [.int (nI a), .int (nI b)]) (rest := []) ⟨hx, hb, hml, hown, hts⟩ (c_X2_areTwo_1 l D cI cS h0 h1 (nI a) (nI b) (nI k) ch) hKK hPc (ci := 2) rfl rfl (cwV 2 hts gX2_join_X2_areTwo rfl rfl rfl (by decide +kernel) ⟨Nat.le_of_ble_eq_true rfl, Nat.le_of_ble_eq_true rfl⟩) rfl hl.1 rfl (Nat.le_of_ble_eq_true rfl) dX2_join_3 ⟨Nat.le_of_ble_eq_true rfl, Nat.le_of_ble_eq_true rfl⟩ (fun r5046 hw => ?_)
  rw [if_neg (show ¬ ((nI a) < 0) from (nI_pos (by omega)))] at hw
  rw [if_neg (show ¬ ((nI k) ≤ (nI a)) from (nI_ge ha (by omega)))] at hw
  rw [if_neg (show ¬ ((nI b) < 0) from (nI_pos (by omega)))] at hw
  rw [if_neg (show ¬ ((nI k) ≤ (nI b)) from (nI_ge hb12 (by omega)))] at hw
  rw [if_neg (show ¬ ((nI a) = (nI b)) from (fun e => hab ((nI_eq (by omega) (by omega)).mp e)))] at hw
  subst hw
  refine lv_if_ne (tgt := 10) hx hb dX2_join_6 (by decide) (fun c5047 => ?_) (fun c5047 => ?_)
  · refine lv_iload_n hx hb dX2_join_10 rfl (lv_at hl 3 rfl) ?_
    refine lv_if_eq (tgt := 41) hx hb dX2_join_11 (by decide) (fun c5048 => ?_) (fun c5048 => ?_)
    · exact absurd c5048 (by decide)
    · refine lv_aload_n hx hb dX2_join_14 rfl (lv_at hl 0 rfl) ?_
      refine va_get (D := D) (ci := 2) (v := .ref h1) (C := RX2) (T := TX2) (N := 3) hx hb hts hin2 hown hK hP 0 rfl rfl 0 (by decide) (hts (.fieldLink RX2 9 "MissedPoints$Net" "links" "[I") (by decide +kernel)) (fun _ h9 => h9) rfl dX2_join_15 ?_
      refine lv_iload_n hx hb dX2_join_18 rfl (lv_at hl 1 rfl) ?_
      refine lv_dup2_11 hx hb dX2_join_19 rfl rfl ?_
      refine lz_ald hx hb hK hP 1 0 rfl rfl a ⟨by omega, Nat.le_of_ble_eq_true rfl⟩ dX2_join_20 ?_
      refine lv_iconst (v := 1) hx hb dX2_join_21 (by decide) ?_
      refine lv_iload_n hx hb dX2_join_22 rfl (lv_at hl 2 rfl) ?_
      refine lv_ishl hx hb dX2_join_23 ?_
      refine lv_ior hx hb dX2_join_24 ?_
      refine lz_top (y := (f a ||| bt1 b)) (rfl) ?_
      refine lz_ast hx hb hK hP hD hS 1 0 rfl rfl a ⟨by omega, Nat.le_of_ble_eq_true rfl⟩ dX2_join_25 (fun H locs hP hD hS => ?_)
      have hP : va_P D cls [(h0, .inr (2, [.ref h1, .int (nI k), .int ch])), (h1, .inl (cI, 12, .inl (upd f a (f a ||| bt1 b))))] H := hP
      have hD : va_D A [(h0, .inr (2, [.ref h1, .int (nI k), .int ch])), (h1, .inl (cI, 12, .inl (upd f a (f a ||| bt1 b))))] := hD
      refine lv_aload_n hx hb dX2_join_26 rfl (lv_at hl 0 rfl) ?_
      refine va_get (D := D) (ci := 2) (v := .ref h1) (C := RX2) (T := TX2) (N := 3) hx hb hts hin2 hown hK hP 0 rfl rfl 0 (by decide) (hts (.fieldLink RX2 9 "MissedPoints$Net" "links" "[I") (by decide +kernel)) (fun _ h9 => h9) rfl dX2_join_27 ?_
      refine lv_iload_n hx hb dX2_join_30 rfl (lv_at hl 2 rfl) ?_
      refine lv_dup2_11 hx hb dX2_join_31 rfl rfl ?_
      refine lz_ald hx hb hK hP 1 0 rfl rfl b ⟨by omega, Nat.le_of_ble_eq_true rfl⟩ dX2_join_32 ?_
      refine lv_iconst (v := 1) hx hb dX2_join_33 (by decide) ?_
      refine lv_iload_n hx hb dX2_join_34 rfl (lv_at hl 1 rfl) ?_
      refine lv_ishl hx hb dX2_join_35 ?_
      refine lv_ior hx hb dX2_join_36 ?_
      refine lz_top (y := (upd f a (f a ||| bt1 b) b ||| bt1 a)) (rfl) ?_
      refine lz_ast hx hb hK hP hD hS 1 0 rfl rfl b ⟨by omega, Nat.le_of_ble_eq_true rfl⟩ dX2_join_37 (fun H locs hP hD hS => ?_)
      have hP : va_P D cls [(h0, .inr (2, [.ref h1, .int (nI k), .int ch])), (h1, .inl (cI, 12, .inl (upd (upd f a (f a ||| bt1 b)) b (upd f a (f a ||| bt1 b) b ||| bt1 a))))] H := hP
      have hD : va_D A [(h0, .inr (2, [.ref h1, .int (nI k), .int ch])), (h1, .inl (cI, 12, .inl (upd (upd f a (f a ||| bt1 b)) b (upd f a (f a ||| bt1 b) b ||| bt1 a))))] := hD
      refine lv_goto (tgt := 69) hx hb dX2_join_38 (by decide) ?_
      refine lv_aload_n hx hb dX2_join_69 rfl (lv_at hl 0 rfl) ?_
      refine lv_dup hx hb dX2_join_70 rfl ?_
      refine va_get (D := D) (ci := 2) (v := .int ch) (C := RX2) (T := TX2) (N := 3) hx hb hts hin2 hown hK hP 0 rfl rfl 2 (by decide) (hts (.fieldLink RX2 33 "MissedPoints$Net" "changes" "I") (by decide +kernel)) (fun _ h9 => h9) rfl dX2_join_71 ?_
      refine lv_iconst (v := 1) hx hb dX2_join_74 (by decide) ?_
      refine lv_iadd hx hb dX2_join_75 ?_
      refine va_put (D := D) (ci := 2) (v := .int (ch + (1 : Int32))) (ty := .int) (C := RX2) (T := TX2) (N := 3) hx hb hts hin2 tyX2 tyX2_ok nmX2 hown hK hP hD hS 0 rfl rfl 2 (by decide) (hts (.fieldLink RX2 33 "MissedPoints$Net" "changes" "I") (by decide +kernel)) (fun _ h9 => h9) rfl (by decide +kernel) rfl rfl (Nat.le_of_ble_eq_true rfl) dX2_join_76 (fun H locs hP hD hS => ?_)
      have hP : va_P D cls [(h0, .inr (2, [.ref h1, .int (nI k), .int (ch + (1 : Int32))])), (h1, .inl (cI, 12, .inl (upd (upd f a (f a ||| bt1 b)) b (upd f a (f a ||| bt1 b) b ||| bt1 a))))] H := hP
      have hD : va_D A [(h0, .inr (2, [.ref h1, .int (nI k), .int (ch + (1 : Int32))])), (h1, .inl (cI, 12, .inl (upd (upd f a (f a ||| bt1 b)) b (upd f a (f a ||| bt1 b) b ||| bt1 a))))] := hD
      have hP9 : va_P D cls [(h0, .inr (2, [.ref h1, .int (nI k), .int (ch + 1)])), (h1, .inl (cI, 12, .inl (lay1 f a b)))] H := hP.sub [0, 1] rfl
      have hD9 : va_D A [(h0, .inr (2, [.ref h1, .int (nI k), .int (ch + 1)])), (h1, .inl (cI, 12, .inl (lay1 f a b)))] := hD.sub [0, 1] (by decide) rfl
      subst hAe
      exact W.vret hx hb hr (fun t ht hW => ⟨⟨(), rfl, trivial, by rw [ht]; exact hP9, hD9⟩, hS.F ht⟩) hS.2.2 dX2_join_79
  · exact absurd c5047 (by decide)
theorem dX2_dealAnew_12 : decode cX2_dealAnew 12 = .ok (.iload 4, 2) := by decide +kernel
theorem dX2_dealAnew_14 : decode cX2_dealAnew 14 = .ok (.aload_n 0, 1) := by decide +kernel
theorem dX2_dealAnew_15 : decode cX2_dealAnew 15 = .ok (.getfield 15, 3) := by decide +kernel
theorem dX2_dealAnew_18 : decode cX2_dealAnew 18 = .ok (.if_icmp .ge 50, 3) := by decide +kernel
theorem dX2_dealAnew_68 : decode cX2_dealAnew 68 = .ok (.return_, 1) := by decide +kernel
theorem dX2_dealAnew_27 : decode cX2_dealAnew 27 = .ok (.iload 5, 2) := by decide +kernel
theorem dX2_dealAnew_29 : decode cX2_dealAnew 29 = .ok (.aload_n 0, 1) := by decide +kernel
theorem dX2_dealAnew_30 : decode cX2_dealAnew 30 = .ok (.getfield 15, 3) := by decide +kernel
theorem dX2_dealAnew_33 : decode cX2_dealAnew 33 = .ok (.if_icmp .ge 29, 3) := by decide +kernel
theorem dX2_dealAnew_62 : decode cX2_dealAnew 62 = .ok (.iinc 4 1, 3) := by decide +kernel
theorem dX2_dealAnew_65 : decode cX2_dealAnew 65 = .ok (.goto (-53), 3) := by decide +kernel
set_option maxRecDepth 20000 in
theorem ggX2_dealAnew_X0_draw : GoodIn wsX2_dealAnew wsX0_draw := goodIn_r _ [21, 22, 23, 39] (by decide +kernel) (by decide +kernel)
set_option maxRecDepth 20000 in
theorem gX2_dealAnew_X0_draw : GoodIn wsX2_dealAnew (wsV RX2 60 RX0 yX0_draw wsX0_draw) := goodIn_app (goodIn_of _ (by decide +kernel)) ggX2_dealAnew_X0_draw
set_option maxRecDepth 20000 in
theorem ggX2_dealAnew_X2_join : GoodIn wsX2_dealAnew wsX2_join := goodIn_r _ [27, 7, 8, 28, 29, 30, 5, 31, 32, 33, 34, 35, 1, 36, 37, 38] (by decide +kernel) (by decide +kernel)
set_option maxRecDepth 20000 in
theorem gX2_dealAnew_X2_join : GoodIn wsX2_dealAnew (wsV RX2 43 RX2 yX2_join wsX2_join) := goodIn_app (goodIn_of _ (by decide +kernel)) ggX2_dealAnew_X2_join
theorem dX2_dealAnew_36 : decode cX2_dealAnew 36 = .ok (.aload_n 3, 1) := by decide +kernel
theorem dX2_dealAnew_37 : decode cX2_dealAnew 37 = .ok (.invokevirtual 60, 3) := by decide +kernel
theorem dX2_dealAnew_40 : decode cX2_dealAnew 40 = .ok (.bipush 10, 2) := by decide +kernel
theorem dX2_dealAnew_42 : decode cX2_dealAnew 42 = .ok (.irem, 1) := by decide +kernel
theorem dX2_dealAnew_43 : decode cX2_dealAnew 43 = .ok (.iload_n 2, 1) := by decide +kernel
theorem dX2_dealAnew_44 : decode cX2_dealAnew 44 = .ok (.if_icmp .ge 12, 3) := by decide +kernel
theorem dX2_dealAnew_47 : decode cX2_dealAnew 47 = .ok (.aload_n 0, 1) := by decide +kernel
theorem dX2_dealAnew_48 : decode cX2_dealAnew 48 = .ok (.iload 4, 2) := by decide +kernel
theorem dX2_dealAnew_50 : decode cX2_dealAnew 50 = .ok (.iload 5, 2) := by decide +kernel
theorem dX2_dealAnew_52 : decode cX2_dealAnew 52 = .ok (.iconst 1, 1) := by decide +kernel
theorem dX2_dealAnew_53 : decode cX2_dealAnew 53 = .ok (.invokevirtual 43, 3) := by decide +kernel
theorem dX2_dealAnew_56 : decode cX2_dealAnew 56 = .ok (.iinc 5 1, 3) := by decide +kernel
theorem dX2_dealAnew_59 : decode cX2_dealAnew 59 = .ok (.goto (-32), 3) := by decide +kernel
theorem dX2_dealAnew_21 : decode cX2_dealAnew 21 = .ok (.iload 4, 2) := by decide +kernel
theorem dX2_dealAnew_23 : decode cX2_dealAnew 23 = .ok (.iconst 1, 1) := by decide +kernel
theorem dX2_dealAnew_24 : decode cX2_dealAnew 24 = .ok (.iadd, 1) := by decide +kernel
theorem dX2_dealAnew_25 : decode cX2_dealAnew 25 = .ok (.istore 5, 2) := by decide +kernel
set_option maxRecDepth 20000 in
theorem ggX2_dealAnew_X2_add : GoodIn wsX2_dealAnew wsX2_add := goodIn_r _ [12, 1, 13, 14, 15, 16, 8, 36, 37, 38] (by decide +kernel) (by decide +kernel)
set_option maxRecDepth 20000 in
theorem gX2_dealAnew_X2_add : GoodIn wsX2_dealAnew (wsV RX2 56 RX2 yX2_add wsX2_add) := goodIn_app (goodIn_of _ (by decide +kernel)) ggX2_dealAnew_X2_add
set_option maxRecDepth 20000 in
theorem ggX2_dealAnew_X2_empty : GoodIn wsX2_dealAnew wsX2_empty := goodIn_r _ [6, 7, 1, 8, 36, 37, 38] (by decide +kernel) (by decide +kernel)
set_option maxRecDepth 20000 in
theorem gX2_dealAnew_X2_empty : GoodIn wsX2_dealAnew (wsV RX2 53 RX2 yX2_empty wsX2_empty) := goodIn_app (goodIn_of _ (by decide +kernel)) ggX2_dealAnew_X2_empty
theorem dX2_dealAnew_0 : decode cX2_dealAnew 0 = .ok (.aload_n 0, 1) := by decide +kernel
theorem dX2_dealAnew_1 : decode cX2_dealAnew 1 = .ok (.invokevirtual 53, 3) := by decide +kernel
theorem dX2_dealAnew_10 : decode cX2_dealAnew 10 = .ok (.istore 4, 2) := by decide +kernel
theorem dX2_dealAnew_4 : decode cX2_dealAnew 4 = .ok (.aload_n 0, 1) := by decide +kernel
theorem dX2_dealAnew_5 : decode cX2_dealAnew 5 = .ok (.iload_n 1, 1) := by decide +kernel
theorem dX2_dealAnew_6 : decode cX2_dealAnew 6 = .ok (.invokevirtual 56, 3) := by decide +kernel
theorem dX2_dealAnew_9 : decode cX2_dealAnew 9 = .ok (.iconst 0, 1) := by decide +kernel
set_option maxHeartbeats 4000000 in
set_option maxRecDepth 100000 in
theorem c_dealAnew (l : Launch) (D : va_G) (cI cS : ClassId) (sz : Nat) (h0 h1 h2 : Nat) (f : Nat → Int32) (sv zv od : Int32) (k c0 : Nat) (hk : k ≤ 12) : Met l yX2_dealAnew wsX2_dealAnew ({ frames := 3, cells := 0, slots := 0, locals := 120 }) (PQ D cI cS [(h0, .inr (2, [.ref h1, .int sv, .int (nI c0)])), (h1, .inl (cI, 12, .inl f)), (h2, .inr (0, [.int zv]))] sz [.ref h0, .int (nI k), .int od, .ref h2]) (QE (S := (Nat → Int32) × Nat) D [(h0, .inr (2, [.ref h1, .int sv, .int (nI c0)])), (h1, .inl (cI, 12, .inl f)), (h2, .inr (0, [.int zv]))] (fun u => [(h0, .inr (2, [.ref h1, .int (nI k), .int (nI (u.2))])), (h1, .inl (cI, 12, .inl u.1)), (h2, .inr (0, [.int ((dO od k zv k).2)]))]) sz (fun u => Like k u.1 (dO od k zv k).1 ∧ c0 < u.2 ∧ u.2 ≤ c0 + 200)) 0 0 (va_A [(h0, .inr (2, [.ref h1, .int sv, .int (nI c0)])), (h1, .inl (cI, 12, .inl f)), (h2, .inr (0, [.int zv]))] sz) := by
  refine Met.ofW (cc := cX2_dealAnew) (maxL := 6) (ret := none) (by decide) rfl ?_
  intro p e s m args below meth c s₁ B hml hv
  obtain ⟨rfl, hsz, hP, hKK, hD0⟩ := hv
  have hx := B.exec
  have hb := B.bytes
  have hr := B.returns
  have hts := atoms_spec (ws := wsX2_dealAnew) B.pre
  have hown : s.vm.findClass RX2 = some m.cls := findClass_of_methodNamed B.named
  have hlocks := B.notSynchronized
  have hK := hKK.1
  have hN := hKK.2
  have hin0 : ∀ w ∈ wsX00, w ∈ wsX2_dealAnew := by decide +kernel
  have hin2 : ∀ w ∈ wsX20, w ∈ wsX2_dealAnew := by decide +kernel
  subst hsz
  have hD := hD0.self (sz := s.heap.size)
  obtain ⟨A, hAe⟩ : ∃ A, A = va_A [(h0, .inr (2, [.ref h1, .int sv, .int (nI c0)])), (h1, .inl (cI, 12, .inl f)), (h2, .inr (0, [.int zv]))] s.heap.size := ⟨_, rfl⟩
  rw [← hAe] at hD
  have hA : ∀ q : Nat, s.heap.size ≤ q → A q := fun q h => by rw [hAe]; exact Or.inr h
  have hS : va_S A s.heap s.heap [] := va_S.rf
  have hl := lv_entry ([.ref h0, .int (nI k), .int od, .ref h2]) (n := 6) (Nat.le_of_ble_eq_true rfl)
  rw [lg_entry_eq]
  generalize (lg_sl ([.ref h0, .int (nI k), .int od, .ref h2]) ++ List.replicate (6 - (lg_sl ([.ref h0, .int (nI k), .int od, .ref h2])).length) Slot.unset).toArray = ls at hl ⊢
  have hl : lv_has ls 6 [(0, .ref h0), (1, .int (nI k)), (2, .int od), (3, .ref h2)] := hl
  have l2 : ∀ (r a cn : Nat) (g : Nat → Int32) (z : Int32), a + r = k → Like k g (dO od k zv a).1 → z = (dO od k zv a).2 → c0 < cn → cn ≤ c0 + 2 + 13 * a → ∀ (ls : Array Slot) (H : Heap) (locs : List Loc), va_P D cls [(h0, .inr (2, [.ref h1, .int (nI k), .int (nI cn)])), (h1, .inl (cI, 12, .inl g)), (h2, .inr (0, [.int z]))] H → va_D A [(h0, .inr (2, [.ref h1, .int (nI k), .int (nI cn)])), (h1, .inl (cI, 12, .inl g)), (h2, .inr (0, [.int z]))] → va_S A s.heap H locs → lv_has ls 6 [(4, .int (nI a)), (0, .ref h0), (1, .int (nI k)), (2, .int od), (3, .ref h2)] → W p l e (headSpec wsX2_dealAnew ({ frames := 3, cells := 0, slots := 0, locals := 120 })).room s m ([.ref h0, .int (nI k), .int od, .ref h2]).toArray below meth c H locs 0 0 (MQ below (QE (S := (Nat → Int32) × Nat) D [(h0, .inr (2, [.ref h1, .int sv, .int (nI c0)])), (h1, .inl (cI, 12, .inl f)), (h2, .inr (0, [.int zv]))] (fun u => [(h0, .inr (2, [.ref h1, .int (nI k), .int (nI (u.2))])), (h1, .inl (cI, 12, .inl u.1)), (h2, .inr (0, [.int ((dO od k zv k).2)]))]) s.heap.size (fun u => Like k u.1 (dO od k zv k).1 ∧ c0 < u.2 ∧ u.2 ≤ c0 + 200)) ([.ref h0, .int (nI k), .int od, .ref h2]).toArray s 0 0 (va_A [(h0, .inr (2, [.ref h1, .int sv, .int (nI c0)])), (h1, .inl (cI, 12, .inl f)), (h2, .inr (0, [.int zv]))] s.heap.size)) (F0 m 12 ls []) := by
    intro r
    induction r with
    | zero =>
      intro a cn g z ha hg hz b1 b2 ls H locs hP hD hS hl
      obtain rfl : a = k := by omega
      subst hz
      refine lv_iload hx hb dX2_dealAnew_12 (lv_at hl 0 rfl) ?_
      refine lv_aload_n hx hb dX2_dealAnew_14 rfl (lv_at hl 1 rfl) ?_
      refine va_get (D := D) (ci := 2) (v := .int (nI a)) (C := RX2) (T := TX2) (N := 3) hx hb hts hin2 hown hK hP 0 rfl rfl 1 (by decide) (hts (.fieldLink RX2 15 "MissedPoints$Net" "size" "I") (by decide +kernel)) (fun _ h9 => h9) rfl dX2_dealAnew_15 ?_
      refine lv_icmp_ge (tgt := 68) hx hb dX2_dealAnew_18 (by decide) (fun c5049 => ?_) (fun c5049 => ?_)
      · have hP9 := hP.sub (ws' := [(h0, .inr (2, [.ref h1, .int (nI a), .int (nI cn)])), (h1, .inl (cI, 12, .inl g)), (h2, .inr (0, [.int ((dO od a zv a).2)]))]) [0, 1, 2] rfl
        have hD9 := hD.sub (ws' := [(h0, .inr (2, [.ref h1, .int (nI a), .int (nI cn)])), (h1, .inl (cI, 12, .inl g)), (h2, .inr (0, [.int ((dO od a zv a).2)]))]) [0, 1, 2] (by decide) rfl
        subst hAe
        exact W.vret hx hb hr (fun t ht hW => ⟨⟨(g, cn), rfl, ⟨hg, b1, by show cn ≤ c0 + 200; omega⟩, by rw [ht]; exact hP9, hD9⟩, hS.F ht⟩) hS.2.2 dX2_dealAnew_68
      · exact absurd (nI_le (Nat.le_refl _) (by omega)) c5049
    | succ r ih =>
      intro a cn g z ha hg hz b1 b2 ls H locs hP hD hS hl
      have l3 : ∀ (r2 q cn : Nat) (g : Nat → Int32) (z : Int32), a + 1 + q + r2 = k → Like k g (dI od a (dO od k zv a) q).1 → z = (dI od a (dO od k zv a) q).2 → c0 < cn → cn ≤ c0 + 2 + 13 * a + q → ∀ (ls : Array Slot) (H : Heap) (locs : List Loc), va_P D cls [(h0, .inr (2, [.ref h1, .int (nI k), .int (nI cn)])), (h1, .inl (cI, 12, .inl g)), (h2, .inr (0, [.int z]))] H → va_D A [(h0, .inr (2, [.ref h1, .int (nI k), .int (nI cn)])), (h1, .inl (cI, 12, .inl g)), (h2, .inr (0, [.int z]))] → va_S A s.heap H locs → lv_has ls 6 [(5, .int (nI (a + 1 + q))), (4, .int (nI a)), (0, .ref h0), (1, .int (nI k)), (2, .int od), (3, .ref h2)] → W p l e (headSpec wsX2_dealAnew ({ frames := 3, cells := 0, slots := 0, locals := 120 })).room s m ([.ref h0, .int (nI k), .int od, .ref h2]).toArray below meth c H locs 0 0 (MQ below (QE (S := (Nat → Int32) × Nat) D [(h0, .inr (2, [.ref h1, .int sv, .int (nI c0)])), (h1, .inl (cI, 12, .inl f)), (h2, .inr (0, [.int zv]))] (fun u => [(h0, .inr (2, [.ref h1, .int (nI k), .int (nI (u.2))])), (h1, .inl (cI, 12, .inl u.1)), (h2, .inr (0, [.int ((dO od k zv k).2)]))]) s.heap.size (fun u => Like k u.1 (dO od k zv k).1 ∧ c0 < u.2 ∧ u.2 ≤ c0 + 200)) ([.ref h0, .int (nI k), .int od, .ref h2]).toArray s 0 0 (va_A [(h0, .inr (2, [.ref h1, .int sv, .int (nI c0)])), (h1, .inl (cI, 12, .inl f)), (h2, .inr (0, [.int zv]))] s.heap.size)) (F0 m 27 ls []) := by
        intro r2
        induction r2 with
        | zero =>
          intro q cn g z hq hg hz b1 b2 ls H locs hP hD hS hl
          refine lv_iload hx hb dX2_dealAnew_27 (lv_at hl 0 rfl) ?_
          refine lv_aload_n hx hb dX2_dealAnew_29 rfl (lv_at hl 2 rfl) ?_
          refine va_get (D := D) (ci := 2) (v := .int (nI k)) (C := RX2) (T := TX2) (N := 3) hx hb hts hin2 hown hK hP 0 rfl rfl 1 (by decide) (hts (.fieldLink RX2 15 "MissedPoints$Net" "size" "I") (by decide +kernel)) (fun _ h9 => h9) rfl dX2_dealAnew_30 ?_
          refine lv_icmp_ge (tgt := 62) hx hb dX2_dealAnew_33 (by decide) (fun c5050 => ?_) (fun c5050 => ?_)
          · refine lv_iinc (v := (nI (a + 1))) (lv' := [(4, .int (nI (a + 1))), (5, .int (nI (a + 1 + q))), (0, .ref h0), (1, .int (nI k)), (2, .int od), (3, .ref h2)]) hx hb dX2_dealAnew_62 hl (k := 1) rfl (nI_1 _) (by decide) rfl (fun ls hl => ?_)
            refine lv_goto (tgt := 12) hx hb dX2_dealAnew_65 (by decide) ?_
            exact ih (a + 1) cn g z (by omega) (by show Like k g (dI od a (dO od k zv a) (k - (a + 1))).1; rw [show k - (a + 1) = q by omega]; exact hg) (by show z = (dI od a (dO od k zv a) (k - (a + 1))).2; rw [show k - (a + 1) = q by omega]; exact hz) b1 (by omega) ls H locs hP hD hS (lv_sub hl [0, 2, 3, 4, 5] rfl)
          · exact absurd (nI_le (show k ≤ a + 1 + q by omega) (by omega)) c5050
        | succ r2 ih2 =>
          intro q cn g z hq hg hz b1 b2 ls H locs hP hD hS hl
          refine lv_iload hx hb dX2_dealAnew_27 (lv_at hl 0 rfl) ?_
          refine lv_aload_n hx hb dX2_dealAnew_29 rfl (lv_at hl 2 rfl) ?_
          refine va_get (D := D) (ci := 2) (v := .int (nI k)) (C := RX2) (T := TX2) (N := 3) hx hb hts hin2 hown hK hP 0 rfl rfl 1 (by decide) (hts (.fieldLink RX2 15 "MissedPoints$Net" "size" "I") (by decide +kernel)) (fun _ h9 => h9) rfl dX2_dealAnew_30 ?_
          refine lv_icmp_ge (tgt := 62) hx hb dX2_dealAnew_33 (by decide) (fun c5051 => ?_) (fun c5051 => ?_)
          · exact absurd c5051 (nI_ge (show a + 1 + q < k by omega) (by omega))
          · refine lv_aload_n hx hb dX2_dealAnew_36 rfl (lv_at hl 5 rfl) ?_
            have hPc := hP.sub (ws' := [(h2, .inr (0, [.int z]))]) [2] rfl
            have hDc := hD.sub (ws' := [(h2, .inr (0, [.int z]))]) [2] (by decide) rfl
            refine lz_qi (wr := [(h0, .inr (2, [.ref h1, .int (nI k), .int (nI cn)])), (h1, .inl (cI, 12, .inl g))]) (w1 := [(h2, .inr (0, [.int ((z * (1103515245 : Int32)) + (12345 : Int32))]))]) (As := []) (rest := []) ⟨hx, hb, hml, hown, hts⟩ (c_X0_draw_0 l D cI cS _ h2 z) hKK hP hD hS hA [2] [0, 1] (by decide) rfl rfl (by decide) (by decide) hPc hDc (ci := 0) rfl rfl (cwV 0 hts gX2_dealAnew_X0_draw rfl rfl rfl (by decide +kernel) ⟨Nat.le_of_ble_eq_true rfl, Nat.le_of_ble_eq_true rfl⟩) rfl hl.1 rfl (Nat.le_of_ble_eq_true rfl) dX2_dealAnew_37 ⟨Nat.le_of_ble_eq_true rfl, Nat.le_of_ble_eq_true rfl⟩ (fun r5052 H locs hw hP hD hS => ?_)
            have hP : va_P D cls [(h0, .inr (2, [.ref h1, .int (nI k), .int (nI cn)])), (h1, .inl (cI, 12, .inl g)), (h2, .inr (0, [.int ((z * (1103515245 : Int32)) + (12345 : Int32))]))] H := hP
            have hD : va_D A [(h0, .inr (2, [.ref h1, .int (nI k), .int (nI cn)])), (h1, .inl (cI, 12, .inl g)), (h2, .inr (0, [.int ((z * (1103515245 : Int32)) + (12345 : Int32))]))] := hD
            subst hw
            refine lz_top (y := zd z) rfl ?_
            have hP : va_P D cls [(h0, .inr (2, [.ref h1, .int (nI k), .int (nI cn)])), (h1, .inl (cI, 12, .inl g)), (h2, .inr (0, [.int (zs z)]))] H := hP
            have hD : va_D A [(h0, .inr (2, [.ref h1, .int (nI k), .int (nI cn)])), (h1, .inl (cI, 12, .inl g)), (h2, .inr (0, [.int (zs z)]))] := hD
            refine lv_bipush (v := 10) hx hb dX2_dealAnew_40 (by decide) ?_
            refine lv_irem hx hb dX2_dealAnew_42 (by decide) ?_
            refine lz_top (y := (zr z)) (rfl) ?_
            refine lv_iload_n hx hb dX2_dealAnew_43 rfl (lv_at hl 4 rfl) ?_
            refine lv_icmp_ge (tgt := 56) hx hb dX2_dealAnew_44 (by decide) (fun c5053 => ?_) (fun c5053 => ?_)
            · refine lv_iinc (v := (nI (a + 1 + (q + 1)))) (lv' := [(5, .int (nI (a + 1 + (q + 1)))), (4, .int (nI a)), (0, .ref h0), (1, .int (nI k)), (2, .int od), (3, .ref h2)]) hx hb dX2_dealAnew_56 hl (k := 0) rfl (nI_1 _) (by decide) rfl (fun ls hl => ?_)
              refine lv_goto (tgt := 27) hx hb dX2_dealAnew_59 (by decide) ?_
              exact ih2 (q + 1) cn g (zs z) (by omega) (by show Like k g (dst od a (a + 1 + q) (dI od a (dO od k zv a) q)).1; unfold dst; rw [← hz, if_pos c5053]; exact hg) (by show zs z = zs (dI od a (dO od k zv a) q).2; rw [← hz]) (by omega) (by omega) ls H locs (hP.sub [0, 1, 2] rfl) (hD.sub [0, 1, 2] (by decide) rfl) hS hl
            · refine lv_aload_n hx hb dX2_dealAnew_47 rfl (lv_at hl 2 rfl) ?_
              refine lv_iload hx hb dX2_dealAnew_48 (lv_at hl 1 rfl) ?_
              refine lv_iload hx hb dX2_dealAnew_50 (lv_at hl 0 rfl) ?_
              refine lv_iconst (v := 1) hx hb dX2_dealAnew_52 (by decide) ?_
              have hPc := hP.sub (ws' := [(h0, .inr (2, [.ref h1, .int (nI k), .int (nI cn)])), (h1, .inl (cI, 12, .inl g))]) [0, 1] rfl
              have hDc := hD.sub (ws' := [(h0, .inr (2, [.ref h1, .int (nI k), .int (nI cn)])), (h1, .inl (cI, 12, .inl g))]) [0, 1] (by decide) rfl
              refine lz_qv (wr := [(h2, .inr (0, [.int (zs z)]))]) (w1 := [(h0, .inr (2, [.ref h1, .int (nI k), .int (nI cn + 1)])), (h1, .inl (cI, 12, .inl (lay1 g a (a + 1 + q))))]) (As := [.int (nI a), .int (nI (a + 1 + q)), .int 1]) (rest := []) ⟨hx, hb, hml, hown, hts⟩ (c_join l D cI cS _ h0 h1 g (nI cn) k a (a + 1 + q) hk (by omega) (by omega) (by omega)) hKK hP hD hS hA [0, 1] [2] (by decide) rfl rfl (by decide) (by decide) hPc hDc (ci := 2) rfl rfl (cwV 3 hts gX2_dealAnew_X2_join rfl rfl rfl (by decide +kernel) ⟨Nat.le_of_ble_eq_true rfl, Nat.le_of_ble_eq_true rfl⟩) rfl hl.1 rfl (Nat.le_of_ble_eq_true rfl) dX2_dealAnew_53 ⟨Nat.le_of_ble_eq_true rfl, Nat.le_of_ble_eq_true rfl⟩ (fun H locs hP hD hS => ?_)
              have hP : va_P D cls [(h2, .inr (0, [.int (zs z)])), (h0, .inr (2, [.ref h1, .int (nI k), .int (nI cn + 1)])), (h1, .inl (cI, 12, .inl (lay1 g a (a + 1 + q))))] H := hP
              have hD : va_D A [(h2, .inr (0, [.int (zs z)])), (h0, .inr (2, [.ref h1, .int (nI k), .int (nI cn + 1)])), (h1, .inl (cI, 12, .inl (lay1 g a (a + 1 + q))))] := hD
              rw [nI_1] at hP hD
              have hP : va_P D cls [(h2, .inr (0, [.int (zs z)])), (h0, .inr (2, [.ref h1, .int (nI k), .int (nI (cn + 1))])), (h1, .inl (cI, 12, .inl (lay1 g a (a + 1 + q))))] H := hP
              have hD : va_D A [(h2, .inr (0, [.int (zs z)])), (h0, .inr (2, [.ref h1, .int (nI k), .int (nI (cn + 1))])), (h1, .inl (cI, 12, .inl (lay1 g a (a + 1 + q))))] := hD
              refine lv_iinc (v := (nI (a + 1 + (q + 1)))) (lv' := [(5, .int (nI (a + 1 + (q + 1)))), (4, .int (nI a)), (0, .ref h0), (1, .int (nI k)), (2, .int od), (3, .ref h2)]) hx hb dX2_dealAnew_56 hl (k := 0) rfl (nI_1 _) (by decide) rfl (fun ls hl => ?_)
              refine lv_goto (tgt := 27) hx hb dX2_dealAnew_59 (by decide) ?_
              exact ih2 (q + 1) (cn + 1) (lay1 g a (a + 1 + q)) (zs z) (by omega) (by show Like k (lay1 g a (a + 1 + q)) (dst od a (a + 1 + q) (dI od a (dO od k zv a) q)).1; unfold dst; rw [← hz, if_neg c5053]; exact hg.lay (by omega) (by omega)) (by show zs z = zs (dI od a (dO od k zv a) q).2; rw [← hz]) (by omega) (by omega) ls H locs (hP.sub [1, 2, 0] rfl) (hD.sub [1, 2, 0] (by decide) rfl) hS hl
      refine lv_iload hx hb dX2_dealAnew_12 (lv_at hl 0 rfl) ?_
      refine lv_aload_n hx hb dX2_dealAnew_14 rfl (lv_at hl 1 rfl) ?_
      refine va_get (D := D) (ci := 2) (v := .int (nI k)) (C := RX2) (T := TX2) (N := 3) hx hb hts hin2 hown hK hP 0 rfl rfl 1 (by decide) (hts (.fieldLink RX2 15 "MissedPoints$Net" "size" "I") (by decide +kernel)) (fun _ h9 => h9) rfl dX2_dealAnew_15 ?_
      refine lv_icmp_ge (tgt := 68) hx hb dX2_dealAnew_18 (by decide) (fun c5054 => ?_) (fun c5054 => ?_)
      · exact absurd c5054 (nI_ge (show a < k by omega) (by omega))
      · refine lv_iload hx hb dX2_dealAnew_21 (lv_at hl 0 rfl) ?_
        refine lv_iconst (v := 1) hx hb dX2_dealAnew_23 (by decide) ?_
        refine lv_iadd hx hb dX2_dealAnew_24 ?_
        refine lz_top (y := (nI (a + 1))) (nI_1 _) ?_
        refine lv_istore (lv' := [(5, .int (nI (a + 1))), (4, .int (nI a)), (0, .ref h0), (1, .int (nI k)), (2, .int od), (3, .ref h2)]) hx hb dX2_dealAnew_25 hl (by decide) rfl (fun ls hl => ?_)
        exact l3 r 0 cn g z (by omega) hg hz b1 (by omega) ls H locs hP hD hS hl
  refine lv_aload_n hx hb dX2_dealAnew_0 rfl (lv_at hl 0 rfl) ?_
  have hPc := hP.sub (ws' := [(h0, .inr (2, [.ref h1, .int sv, .int (nI c0)])), (h1, .inl (cI, 12, .inl f))]) [0, 1] rfl
  have hDc := hD.sub (ws' := [(h0, .inr (2, [.ref h1, .int sv, .int (nI c0)])), (h1, .inl (cI, 12, .inl f))]) [0, 1] (by decide) rfl
  refine lz_qv (wr := [(h2, .inr (0, [.int zv]))]) (w1 := [(h0, .inr (2, [.ref h1, .int 0, .int ((nI c0) + (1 : Int32))])), (h1, .inl (cI, 12, .inl (upd (upd (upd (upd (upd (upd (upd (upd (upd (upd (upd (upd f 0 0) 1 0) 2 0) 3 0) 4 0) 5 0) 6 0) 7 0) 8 0) 9 0) 10 0) 11 0)))]) (As := []) (rest := []) ⟨hx, hb, hml, hown, hts⟩ (c_X2_empty_0 l D cI cS _ h0 h1 (f) sv (nI c0)) hKK hP hD hS hA [0, 1] [2] (by decide) rfl rfl (by decide) (by decide) hPc hDc (ci := 2) rfl rfl (cwV 0 hts gX2_dealAnew_X2_empty rfl rfl rfl (by decide +kernel) ⟨Nat.le_of_ble_eq_true rfl, Nat.le_of_ble_eq_true rfl⟩) rfl hl.1 rfl (Nat.le_of_ble_eq_true rfl) dX2_dealAnew_1 ⟨Nat.le_of_ble_eq_true rfl, Nat.le_of_ble_eq_true rfl⟩ (fun H locs hP hD hS => ?_)
  have hP : va_P D cls [(h2, .inr (0, [.int zv])), (h0, .inr (2, [.ref h1, .int 0, .int ((nI c0) + (1 : Int32))])), (h1, .inl (cI, 12, .inl (upd (upd (upd (upd (upd (upd (upd (upd (upd (upd (upd (upd f 0 0) 1 0) 2 0) 3 0) 4 0) 5 0) 6 0) 7 0) 8 0) 9 0) 10 0) 11 0)))] H := hP
  have hD : va_D A [(h2, .inr (0, [.int zv])), (h0, .inr (2, [.ref h1, .int 0, .int ((nI c0) + (1 : Int32))])), (h1, .inl (cI, 12, .inl (upd (upd (upd (upd (upd (upd (upd (upd (upd (upd (upd (upd f 0 0) 1 0) 2 0) 3 0) 4 0) 5 0) 6 0) 7 0) 8 0) 9 0) 10 0) 11 0)))] := hD
  have hP9 := lz_pc (f := (upd (upd (upd (upd (upd (upd (upd (upd (upd (upd (upd (upd f 0 0) 1 0) 2 0) 3 0) 4 0) 5 0) 6 0) 7 0) 8 0) 9 0) 10 0) 11 0)) (g := fun _ => 0) 2 rfl (fun j hj => by simp only [upd]; (repeat' split) <;> first | rfl | omega) hP
  have hP : va_P D cls [(h2, .inr (0, [.int zv])), (h0, .inr (2, [.ref h1, .int 0, .int ((nI c0) + (1 : Int32))])), (h1, .inl (cI, 12, .inl (fun _ => 0)))] H := hP9
  have hD : va_D A [(h2, .inr (0, [.int zv])), (h0, .inr (2, [.ref h1, .int 0, .int ((nI c0) + (1 : Int32))])), (h1, .inl (cI, 12, .inl (fun _ => 0)))] := va_D.set (p := 2) hD rfl
  refine lv_aload_n hx hb dX2_dealAnew_4 rfl (lv_at hl 0 rfl) ?_
  refine lv_iload_n hx hb dX2_dealAnew_5 rfl (lv_at hl 1 rfl) ?_
  have hPc := hP.sub (ws' := [(h0, .inr (2, [.ref h1, .int 0, .int ((nI c0) + (1 : Int32))]))]) [1] rfl
  have hDc := hD.sub (ws' := [(h0, .inr (2, [.ref h1, .int 0, .int ((nI c0) + (1 : Int32))]))]) [1] (by decide) rfl
  refine lz_qv (wr := [(h2, .inr (0, [.int zv])), (h1, .inl (cI, 12, .inl (fun _ => 0)))]) (w1 := [(h0, .inr (2, [.ref h1, .int (if (12 : Int32) < (nI k) then (12 : Int32) else (nI k)), .int (((nI c0) + (1 : Int32)) + (1 : Int32))]))]) (As := [.int (nI k)]) (rest := []) ⟨hx, hb, hml, hown, hts⟩ (c_X2_add_1 l D cI cS _ h0 h1 (nI k) ((nI c0) + (1 : Int32))) hKK hP hD hS hA [1] [0, 2] (by decide) rfl rfl (by decide) (by decide) hPc hDc (ci := 2) rfl rfl (cwV 1 hts gX2_dealAnew_X2_add rfl rfl rfl (by decide +kernel) ⟨Nat.le_of_ble_eq_true rfl, Nat.le_of_ble_eq_true rfl⟩) rfl hl.1 rfl (Nat.le_of_ble_eq_true rfl) dX2_dealAnew_6 ⟨Nat.le_of_ble_eq_true rfl, Nat.le_of_ble_eq_true rfl⟩ (fun H locs hP hD hS => ?_)
  have hP : va_P D cls [(h2, .inr (0, [.int zv])), (h1, .inl (cI, 12, .inl (fun _ => 0))), (h0, .inr (2, [.ref h1, .int (if (12 : Int32) < (nI k) then (12 : Int32) else (nI k)), .int (((nI c0) + (1 : Int32)) + (1 : Int32))]))] H := hP
  have hD : va_D A [(h2, .inr (0, [.int zv])), (h1, .inl (cI, 12, .inl (fun _ => 0))), (h0, .inr (2, [.ref h1, .int (if (12 : Int32) < (nI k) then (12 : Int32) else (nI k)), .int (((nI c0) + (1 : Int32)) + (1 : Int32))]))] := hD
  rw [if_neg (show ¬ (12 : Int32) < nI k from nI_nlt (a := 12) hk (by omega)), nI_1, nI_1] at hP hD
  have hP : va_P D cls [(h2, .inr (0, [.int zv])), (h1, .inl (cI, 12, .inl (fun _ => 0))), (h0, .inr (2, [.ref h1, .int (nI k), .int (nI (c0 + 2))]))] H := hP
  have hD : va_D A [(h2, .inr (0, [.int zv])), (h1, .inl (cI, 12, .inl (fun _ => 0))), (h0, .inr (2, [.ref h1, .int (nI k), .int (nI (c0 + 2))]))] := hD
  refine lv_iconst (v := 0) hx hb dX2_dealAnew_9 (by decide) ?_
  refine lv_istore (lv' := [(4, .int 0), (0, .ref h0), (1, .int (nI k)), (2, .int od), (3, .ref h2)]) hx hb dX2_dealAnew_10 hl (by decide) rfl (fun ls hl => ?_)
  exact l2 k 0 (c0 + 2) (fun _ => 0) zv (by omega) (fun j hj => rfl) rfl (by omega) (by omega) ls H locs (hP.sub [2, 1, 0] rfl) (hD.sub [2, 1, 0] (by decide) rfl) hS (by rw [nI_0]; exact hl)
