set_option maxRecDepth 20000 in
theorem ggX10_noteBarrier_J6_bitCount_0f7a4 : GoodIn wsX10_noteBarrier wsJ6_bitCount_0f7a4 := goodIn_r _ [7, 8, 9, 10] (by decide +kernel) (by decide +kernel)
set_option maxRecDepth 20000 in
theorem gX10_noteBarrier_J6_bitCount_0f7a4 : GoodIn wsX10_noteBarrier (va_wsS RX10 40 yJ6_bitCount_0f7a4 wsJ6_bitCount_0f7a4) := goodIn_app (goodIn_of _ (by decide +kernel)) ggX10_noteBarrier_J6_bitCount_0f7a4
theorem dX10_noteBarrier_11 : decode cX10_noteBarrier 11 = .ok (.aload_n 0, 1) := by decide +kernel
theorem dX10_noteBarrier_12 : decode cX10_noteBarrier 12 = .ok (.getfield 59, 3) := by decide +kernel
theorem dX10_noteBarrier_15 : decode cX10_noteBarrier 15 = .ok (.invokestatic 40, 3) := by decide +kernel
theorem dX10_noteBarrier_18 : decode cX10_noteBarrier 18 = .ok (.if_icmp .le 8, 3) := by decide +kernel
theorem dX10_noteBarrier_7 : decode cX10_noteBarrier 7 = .ok (.iload_n 1, 1) := by decide +kernel
theorem dX10_noteBarrier_8 : decode cX10_noteBarrier 8 = .ok (.invokestatic 40, 3) := by decide +kernel
set_option maxHeartbeats 4000000 in
set_option maxRecDepth 100000 in
theorem k_X10_noteBarrier (l : Launch) (D : va_G) (cI cS : ClassId) (sz : Nat) (a : Nat → Nat) (na nc N : Nat) (L u0 : SU) (hL : TyX L) (hN : N = 0 ∨ N = 24576) (x0 : Int32) : Met l yX10_noteBarrier wsX10_noteBarrier ({ frames := 1, cells := 0, slots := 0, locals := 40 }) (PQ D cI cS (wX cI cS a na nc N L u0) sz [.ref (a 18), .int x0]) (QE (S := SU) D (wX cI cS a na nc N L u0) (wX cI cS a na nc N L) sz (fun _ => True)) 0 0 (va_A (wX cI cS a na nc N L u0) sz) := by
  refine Met.ofW (cc := cX10_noteBarrier) (maxL := 2) (ret := none) (by decide) rfl ?_
  intro p e s m args below meth c s₁ B hml hv
  obtain ⟨rfl, hsz, hP, hKK, hD0⟩ := hv
  have hx := B.exec
  have hb := B.bytes
  have hr := B.returns
  have hts := atoms_spec (ws := wsX10_noteBarrier) B.pre
  have hown : s.vm.findClass RX10 = some m.cls := findClass_of_methodNamed B.named
  have hlocks := B.notSynchronized
  have hK := hKK.1
  have hin10 : ∀ w ∈ wsX100, w ∈ wsX10_noteBarrier := by decide +kernel
  subst hsz
  have hD := hD0.self (sz := s.heap.size)
  obtain ⟨A, hAe⟩ : ∃ A, A = va_A (wX cI cS a na nc N L u0) s.heap.size := ⟨_, rfl⟩
  rw [← hAe] at hD
  have hA : ∀ q : Nat, s.heap.size ≤ q → A q := fun q h => by rw [hAe]; exact Or.inr h
  have hS : va_S A s.heap s.heap [] := va_S.rf
  have hl := lv_entry ([.ref (a 18), .int x0]) (n := 2) (Nat.le_of_ble_eq_true rfl)
  rw [lg_entry_eq]
  generalize (lg_sl ([.ref (a 18), .int x0]) ++ List.replicate (2 - (lg_sl ([.ref (a 18), .int x0])).length) Slot.unset).toArray = ls at hl ⊢
  have hl : lv_has ls 2 [(0, .ref (a 18)), (1, .int x0)] := hl
  obtain ⟨u, hu9⟩ : ∃ u : SU, u = u0 := ⟨_, rfl⟩
  rw [← hu9] at hP hD
  have ct21 : ∀ (u : SU) (H : Heap) (locs : List Loc) (ls : Array Slot), va_P D cls (wX cI cS a na nc N L u) H → va_D A (wX cI cS a na nc N L u) → va_S A s.heap H locs → lv_has ls 2 [(0, .ref (a 18)), (1, .int x0)] → W p l e (headSpec wsX10_noteBarrier ({ frames := 1, cells := 0, slots := 0, locals := 40 })).room s m ([.ref (a 18), .int x0]).toArray below meth c H locs 0 0 (MQ below (QE (S := SU) D (wX cI cS a na nc N L u0) (wX cI cS a na nc N L) s.heap.size (fun _ => True)) ([.ref (a 18), .int x0]).toArray s 0 0 (va_A (wX cI cS a na nc N L u0) s.heap.size)) (F0 m 21 ls []) := by
    intro u H locs ls hP hD hS hl
    refine lv_aload_n hx hb dX10_noteBarrier_21 rfl (lv_at hl 0 rfl) ?_
    refine lv_iload_n hx hb dX10_noteBarrier_22 rfl (lv_at hl 1 rfl) ?_
    refine va_put (D := D) (ci := 10) (v := .int x0) (ty := .int) (C := RX10) (T := TX10) (N := 8) hx hb hts hin10 tyX10 tyX10_ok nmX10 hown hK hP hD hS 18 rfl rfl 5 (by decide) (hts (.fieldLink RX10 59 "MissedPoints$Witness" "greatestBarrier" "I") (by decide +kernel)) (fun _ h9 => h9) rfl (by decide +kernel) rfl rfl (Nat.le_of_ble_eq_true rfl) dX10_noteBarrier_23 (fun H locs hP hD hS => ?_)
    rw [sxf_18_5] at hP hD
    generalize sU u 18 _ = u at hP hD
    refine lv_aload_n hx hb dX10_noteBarrier_26 rfl (lv_at hl 0 rfl) ?_
    refine lv_dup hx hb dX10_noteBarrier_27 rfl ?_
    refine va_get (D := D) (ci := 10) (v := .int (u 18 6)) (C := RX10) (T := TX10) (N := 8) hx hb hts hin10 hown hK hP 18 rfl rfl 6 (by decide) (hts (.fieldLink RX10 62 "MissedPoints$Witness" "inEachBarrier" "I") (by decide +kernel)) (fun _ h9 => h9) rfl dX10_noteBarrier_28 ?_
    refine wk_any (fun r36726 => ?_)
    refine lv_iload_n hx hb dX10_noteBarrier_31 rfl (lv_at hl 1 rfl) ?_
    refine lv_iand hx hb dX10_noteBarrier_32 ?_
    refine wk_topP (P := fun r => r = r36726 &&& x0) rfl (fun r36727 qr36727 => ?_)
    refine va_put (D := D) (ci := 10) (v := .int r36727) (ty := .int) (C := RX10) (T := TX10) (N := 8) hx hb hts hin10 tyX10 tyX10_ok nmX10 hown hK hP hD hS 18 rfl rfl 6 (by decide) (hts (.fieldLink RX10 62 "MissedPoints$Witness" "inEachBarrier" "I") (by decide +kernel)) (fun _ h9 => h9) rfl (by decide +kernel) rfl rfl (Nat.le_of_ble_eq_true rfl) dX10_noteBarrier_33 (fun H locs hP hD hS => ?_)
    rw [sxf_18_6] at hP hD
    generalize sU u 18 _ = u at hP hD
    refine lv_aload_n hx hb dX10_noteBarrier_36 rfl (lv_at hl 0 rfl) ?_
    refine lv_dup hx hb dX10_noteBarrier_37 rfl ?_
    refine va_get (D := D) (ci := 10) (v := .int (u 18 4)) (C := RX10) (T := TX10) (N := 8) hx hb hts hin10 hown hK hP 18 rfl rfl 4 (by decide) (hts (.fieldLink RX10 56 "MissedPoints$Witness" "barrierCount" "I") (by decide +kernel)) (fun _ h9 => h9) rfl dX10_noteBarrier_38 ?_
    refine wk_any (fun r36728 => ?_)
    refine lv_iconst (v := 1) hx hb dX10_noteBarrier_41 (by decide) ?_
    refine lv_iadd hx hb dX10_noteBarrier_42 ?_
    refine wk_topP (P := fun r => r = r36728 + (1 : Int32)) rfl (fun r36729 qr36729 => ?_)
    refine va_put (D := D) (ci := 10) (v := .int r36729) (ty := .int) (C := RX10) (T := TX10) (N := 8) hx hb hts hin10 tyX10 tyX10_ok nmX10 hown hK hP hD hS 18 rfl rfl 4 (by decide) (hts (.fieldLink RX10 56 "MissedPoints$Witness" "barrierCount" "I") (by decide +kernel)) (fun _ h9 => h9) rfl (by decide +kernel) rfl rfl (Nat.le_of_ble_eq_true rfl) dX10_noteBarrier_43 (fun H locs hP hD hS => ?_)
    rw [sxf_18_4] at hP hD
    generalize sU u 18 _ = u at hP hD
    subst hAe
    exact W.vret hx hb hr (fun t ht hW => ⟨⟨u, rfl, trivial, by rw [ht]; exact hP, hD⟩, hS.F ht⟩) hS.2.2 dX10_noteBarrier_46
  refine lv_aload_n hx hb dX10_noteBarrier_0 rfl (lv_at hl 0 rfl) ?_
  refine va_get (D := D) (ci := 10) (v := .int (u 18 4)) (C := RX10) (T := TX10) (N := 8) hx hb hts hin10 hown hK hP 18 rfl rfl 4 (by decide) (hts (.fieldLink RX10 56 "MissedPoints$Witness" "barrierCount" "I") (by decide +kernel)) (fun _ h9 => h9) rfl dX10_noteBarrier_1 ?_
  refine wk_any (fun r36730 => ?_)
  refine lv_if_eq (tgt := 21) hx hb dX10_noteBarrier_4 (by decide) (fun c36731 => ?_) (fun c36731 => ?_)
  · have g36732 : Rg 0 0 r36730 := wk_eql (rg_any r36730) (by decide : Rg 0 0 (0 : Int32)) c36731 (by decide)
    exact ct21 u _ _ ls hP hD hS (lv_sub (l' := [(0, .ref (a 18)), (1, .int x0)]) hl [0, 1] rfl)
  · refine lv_iload_n hx hb dX10_noteBarrier_7 rfl (lv_at hl 1 rfl) ?_
    refine lz_ss (As := [.int x0]) (rest := []) ⟨hx, hb, hml, hown, hts⟩ (k_J6_bitCount_0f7a4 l D cI cS x0) hKK (hP.sub (ws' := []) [] rfl) (va_cwS 1 hts gX10_noteBarrier_J6_bitCount_0f7a4 rfl rfl rfl (by decide +kernel) ⟨Nat.le_of_ble_eq_true rfl, Nat.le_of_ble_eq_true rfl⟩) rfl hl.1 rfl (Nat.le_of_ble_eq_true rfl) dX10_noteBarrier_8 ⟨Nat.le_of_ble_eq_true rfl, Nat.le_of_ble_eq_true rfl⟩ (fun r36733 hr36733 => ?_)
    refine lv_aload_n hx hb dX10_noteBarrier_11 rfl (lv_at hl 0 rfl) ?_
    refine va_get (D := D) (ci := 10) (v := .int (u 18 5)) (C := RX10) (T := TX10) (N := 8) hx hb hts hin10 hown hK hP 18 rfl rfl 5 (by decide) (hts (.fieldLink RX10 59 "MissedPoints$Witness" "greatestBarrier" "I") (by decide +kernel)) (fun _ h9 => h9) rfl dX10_noteBarrier_12 ?_
    refine wk_any (fun r36734 => ?_)
    refine lz_ss (As := [.int r36734]) (rest := [.int r36733]) ⟨hx, hb, hml, hown, hts⟩ (k_J6_bitCount_0f7a4 l D cI cS r36734) hKK (hP.sub (ws' := []) [] rfl) (va_cwS 1 hts gX10_noteBarrier_J6_bitCount_0f7a4 rfl rfl rfl (by decide +kernel) ⟨Nat.le_of_ble_eq_true rfl, Nat.le_of_ble_eq_true rfl⟩) rfl hl.1 rfl (Nat.le_of_ble_eq_true rfl) dX10_noteBarrier_15 ⟨Nat.le_of_ble_eq_true rfl, Nat.le_of_ble_eq_true rfl⟩ (fun r36735 hr36735 => ?_)
    refine lv_icmp_le (tgt := 26) hx hb dX10_noteBarrier_18 (by decide) (fun c36736 => ?_) (fun c36736 => ?_)
    · refine lv_aload_n hx hb dX10_noteBarrier_26 rfl (lv_at hl 0 rfl) ?_
      refine lv_dup hx hb dX10_noteBarrier_27 rfl ?_
      refine va_get (D := D) (ci := 10) (v := .int (u 18 6)) (C := RX10) (T := TX10) (N := 8) hx hb hts hin10 hown hK hP 18 rfl rfl 6 (by decide) (hts (.fieldLink RX10 62 "MissedPoints$Witness" "inEachBarrier" "I") (by decide +kernel)) (fun _ h9 => h9) rfl dX10_noteBarrier_28 ?_
      refine wk_any (fun r36737 => ?_)
      refine lv_iload_n hx hb dX10_noteBarrier_31 rfl (lv_at hl 1 rfl) ?_
      refine lv_iand hx hb dX10_noteBarrier_32 ?_
      refine wk_topP (P := fun r => r = r36737 &&& x0) rfl (fun r36738 qr36738 => ?_)
      refine va_put (D := D) (ci := 10) (v := .int r36738) (ty := .int) (C := RX10) (T := TX10) (N := 8) hx hb hts hin10 tyX10 tyX10_ok nmX10 hown hK hP hD hS 18 rfl rfl 6 (by decide) (hts (.fieldLink RX10 62 "MissedPoints$Witness" "inEachBarrier" "I") (by decide +kernel)) (fun _ h9 => h9) rfl (by decide +kernel) rfl rfl (Nat.le_of_ble_eq_true rfl) dX10_noteBarrier_33 (fun H locs hP hD hS => ?_)
      rw [sxf_18_6] at hP hD
      generalize sU u 18 _ = u at hP hD
      refine lv_aload_n hx hb dX10_noteBarrier_36 rfl (lv_at hl 0 rfl) ?_
      refine lv_dup hx hb dX10_noteBarrier_37 rfl ?_
      refine va_get (D := D) (ci := 10) (v := .int (u 18 4)) (C := RX10) (T := TX10) (N := 8) hx hb hts hin10 hown hK hP 18 rfl rfl 4 (by decide) (hts (.fieldLink RX10 56 "MissedPoints$Witness" "barrierCount" "I") (by decide +kernel)) (fun _ h9 => h9) rfl dX10_noteBarrier_38 ?_
      refine wk_any (fun r36739 => ?_)
      refine lv_iconst (v := 1) hx hb dX10_noteBarrier_41 (by decide) ?_
      refine lv_iadd hx hb dX10_noteBarrier_42 ?_
      refine wk_topP (P := fun r => r = r36739 + (1 : Int32)) rfl (fun r36740 qr36740 => ?_)
      refine va_put (D := D) (ci := 10) (v := .int r36740) (ty := .int) (C := RX10) (T := TX10) (N := 8) hx hb hts hin10 tyX10 tyX10_ok nmX10 hown hK hP hD hS 18 rfl rfl 4 (by decide) (hts (.fieldLink RX10 56 "MissedPoints$Witness" "barrierCount" "I") (by decide +kernel)) (fun _ h9 => h9) rfl (by decide +kernel) rfl rfl (Nat.le_of_ble_eq_true rfl) dX10_noteBarrier_43 (fun H locs hP hD hS => ?_)
      rw [sxf_18_4] at hP hD
      generalize sU u 18 _ = u at hP hD
      subst hAe
      exact W.vret hx hb hr (fun t ht hW => ⟨⟨u, rfl, trivial, by rw [ht]; exact hP, hD⟩, hS.F ht⟩) hS.2.2 dX10_noteBarrier_46
    · exact ct21 u _ _ ls hP hD hS (lv_sub (l' := [(0, .ref (a 18)), (1, .int x0)]) hl [0, 1] rfl)
theorem dX10_seekBarriers_122 : decode cX10_seekBarriers 122 = .ok (.iconst 0, 1) := by decide +kernel
theorem dX10_seekBarriers_14 : decode cX10_seekBarriers 14 = .ok (.return_, 1) := by decide +kernel
theorem dX10_seekBarriers_151 : decode cX10_seekBarriers 151 = .ok (.iload_n 3, 1) := by decide +kernel
theorem dX10_seekBarriers_152 : decode cX10_seekBarriers 152 = .ok (.iload_n 1, 1) := by decide +kernel
theorem dX10_seekBarriers_153 : decode cX10_seekBarriers 153 = .ok (.isub, 1) := by decide +kernel
theorem dX10_seekBarriers_154 : decode cX10_seekBarriers 154 = .ok (.iload_n 1, 1) := by decide +kernel
theorem dX10_seekBarriers_155 : decode cX10_seekBarriers 155 = .ok (.iand, 1) := by decide +kernel
theorem dX10_seekBarriers_156 : decode cX10_seekBarriers 156 = .ok (.istore_n 3, 1) := by decide +kernel
theorem dX10_seekBarriers_157 : decode cX10_seekBarriers 157 = .ok (.iinc 4 1, 3) := by decide +kernel
theorem dX10_seekBarriers_160 : decode cX10_seekBarriers 160 = .ok (.goto (-75), 3) := by decide +kernel
theorem dX10_seekBarriers_163 : decode cX10_seekBarriers 163 = .ok (.return_, 1) := by decide +kernel
set_option maxHeartbeats 4000000 in
set_option maxRecDepth 100000 in
theorem k_X10_seekBarriers (l : Launch) (D : va_G) (cI cS : ClassId) (sz : Nat) (a : Nat → Nat) (na nc N : Nat) (L u0 : SU) (hL : TyX L) (hN : N = 0 ∨ N = 24576) : Met l yX10_seekBarriers wsX10_seekBarriers ({ frames := 17, cells := 0, slots := 0, locals := 680 }) (PQ D cI cS (wX cI cS a na nc N L u0) sz [.ref (a 18)]) (QE (S := SU) D (wX cI cS a na nc N L u0) (wX cI cS a na nc N L) sz (fun _ => True)) 0 0 (va_A (wX cI cS a na nc N L u0) sz) := by
  refine Met.ofW (cc := cX10_seekBarriers) (maxL := 7) (ret := none) (by decide) rfl ?_
  intro p e s m args below meth c s₁ B hml hv
  obtain ⟨rfl, hsz, hP, hKK, hD0⟩ := hv
  have hx := B.exec
  have hb := B.bytes
  have hr := B.returns
  have hts := atoms_spec (ws := wsX10_seekBarriers) B.pre
  have hown : s.vm.findClass RX10 = some m.cls := findClass_of_methodNamed B.named
  have hlocks := B.notSynchronized
  have hK := hKK.1
  have hin2 : ∀ w ∈ wsX20, w ∈ wsX10_seekBarriers := by decide +kernel
  have hin10 : ∀ w ∈ wsX100, w ∈ wsX10_seekBarriers := by decide +kernel
  subst hsz
  have hD := hD0.self (sz := s.heap.size)
  obtain ⟨A, hAe⟩ : ∃ A, A = va_A (wX cI cS a na nc N L u0) s.heap.size := ⟨_, rfl⟩
  rw [← hAe] at hD
  have hA : ∀ q : Nat, s.heap.size ≤ q → A q := fun q h => by rw [hAe]; exact Or.inr h
  have hS : va_S A s.heap s.heap [] := va_S.rf
  have hl := lv_entry ([.ref (a 18)]) (n := 7) (Nat.le_of_ble_eq_true rfl)
  rw [lg_entry_eq]
  generalize (lg_sl ([.ref (a 18)]) ++ List.replicate (7 - (lg_sl ([.ref (a 18)])).length) Slot.unset).toArray = ls at hl ⊢
  have hl : lv_has ls 7 [(0, .ref (a 18))] := hl
  obtain ⟨u, hu9⟩ : ∃ u : SU, u = u0 := ⟨_, rfl⟩
  rw [← hu9] at hP hD
  have lp85 : ∀ (n85 : Nat) (y85_l1 : Int32) (y85_l2 : Int32) (y85_l3 : Int32) (y85_l4 : Int32) (u : SU) (H : Heap) (locs : List Loc) (ls : Array Slot), Rg 0 4095 y85_l1 → Rg 0 4095 y85_l3 → Rg 0 4096 y85_l4 → va_P D cls (wX cI cS a na nc N L u) H → va_D A (wX cI cS a na nc N L u) → va_S A s.heap H locs → lv_has ls 7 [(0, .ref (a 18)), (1, .int y85_l1), (2, .int y85_l2), (3, .int y85_l3), (4, .int y85_l4)] → 4096 - y85_l4.toInt < (n85 : Int) → W p l e (headSpec wsX10_seekBarriers ({ frames := 17, cells := 0, slots := 0, locals := 680 })).room s m ([.ref (a 18)]).toArray below meth c H locs 0 0 (MQ below (QE (S := SU) D (wX cI cS a na nc N L u0) (wX cI cS a na nc N L) s.heap.size (fun _ => True)) ([.ref (a 18)]).toArray s 0 0 (va_A (wX cI cS a na nc N L u0) s.heap.size)) (F0 m 85 ls []) := by
    intro n85
    induction n85 with
    | zero =>
      intro y85_l1 y85_l2 y85_l3 y85_l4 u H locs ls g85_l1 g85_l3 g85_l4 hP hD hS hl hm85
      exact absurd rfl (me_z g85_l4 hm85)
    | succ n85 ih85 =>
      intro y85_l1 y85_l2 y85_l3 y85_l4 u H locs ls g85_l1 g85_l3 g85_l4 hP hD hS hl hm85
      have ct123 : ∀ (y123_l5 : Int32) (y123_s0 : Int32) (u : SU) (H : Heap) (locs : List Loc) (ls : Array Slot), Rg 0 4095 y85_l1 → Rg 0 4095 y85_l3 → Rg 0 4095 y85_l4 → Rg 0 1 y123_s0 → va_P D cls (wX cI cS a na nc N L u) H → va_D A (wX cI cS a na nc N L u) → va_S A s.heap H locs → lv_has ls 7 [(0, .ref (a 18)), (1, .int y85_l1), (2, .int y85_l2), (3, .int y85_l3), (4, .int y85_l4), (5, .int y123_l5)] → W p l e (headSpec wsX10_seekBarriers ({ frames := 17, cells := 0, slots := 0, locals := 680 })).room s m ([.ref (a 18)]).toArray below meth c H locs 0 0 (MQ below (QE (S := SU) D (wX cI cS a na nc N L u0) (wX cI cS a na nc N L) s.heap.size (fun _ => True)) ([.ref (a 18)]).toArray s 0 0 (va_A (wX cI cS a na nc N L u0) s.heap.size)) (F0 m 123 ls [.int y123_s0]) := by
        intro y123_l5 y123_s0 u H locs ls g123_l1 g123_l3 g123_l4 g123_s0 hP hD hS hl
        refine lv_istore (lv' := [(6, .int y123_s0), (0, .ref (a 18)), (1, .int y85_l1), (2, .int y85_l2), (3, .int y85_l3), (4, .int y85_l4), (5, .int y123_l5)]) hx hb dX10_seekBarriers_123 hl (by decide) rfl (fun ls hl => ?_)
        refine lv_iload hx hb dX10_seekBarriers_125 (lv_at hl 0 rfl) ?_
        refine lv_if_eq (tgt := 145) hx hb dX10_seekBarriers_127 (by decide) (fun c37627 => ?_) (fun c37627 => ?_)
        · have g37628 : Rg 0 0 y123_s0 := wk_eql g123_s0 (by decide : Rg 0 0 (0 : Int32)) c37627 (by decide)
          refine lv_iload_n hx hb dX10_seekBarriers_145 rfl (lv_at hl 4 rfl) ?_
          refine lv_iload_n hx hb dX10_seekBarriers_146 rfl (lv_at hl 2 rfl) ?_
          refine lv_icmp_ne (tgt := 151) hx hb dX10_seekBarriers_147 (by decide) (fun c37629 => ?_) (fun c37629 => ?_)
          · refine lv_iload_n hx hb dX10_seekBarriers_151 rfl (lv_at hl 4 rfl) ?_
            refine lv_iload_n hx hb dX10_seekBarriers_152 rfl (lv_at hl 2 rfl) ?_
            refine wk_isub (e1 := (-4095)) (f := 4095) hx hb dX10_seekBarriers_153 g123_l3 g123_l1 (by decide) (fun r37630 hr37630 er37630 qr37630 => ?_)
            refine lv_iload_n hx hb dX10_seekBarriers_154 rfl (lv_at hl 2 rfl) ?_
            refine wk_iandr hx hb dX10_seekBarriers_155 g123_l1 (by decide) (fun r37631 hr37631 qr37631 => ?_)
            refine lv_istore_n (lv' := [(3, .int r37631), (6, .int y123_s0), (0, .ref (a 18)), (1, .int y85_l1), (2, .int y85_l2), (4, .int y85_l4), (5, .int y123_l5)]) hx hb dX10_seekBarriers_156 rfl hl (by decide) rfl (fun ls hl => ?_)
            refine wk_iinc (lv' := fun r => [(4, .int r), (3, .int r37631), (6, .int y123_s0), (0, .ref (a 18)), (1, .int y85_l1), (2, .int y85_l2), (5, .int y123_l5)]) (e1 := 1) (f := 4096) hx hb dX10_seekBarriers_157 hl (k := 5) rfl (by decide) g123_l4 (by decide) (fun _ => rfl) (fun r37632 ls hr37632 er37632 hl => ?_)
            refine lv_goto (tgt := 85) hx hb dX10_seekBarriers_160 (by decide) ?_
            exact ih85 y85_l1 y85_l2 r37631 r37632 u _ _ ls g123_l1 hr37631 (show Rg 0 4096 r37632 from rg_w hr37632 (by decide) (by decide)) hP hD hS (lv_sub (l' := [(0, .ref (a 18)), (1, .int y85_l1), (2, .int y85_l2), (3, .int r37631), (4, .int r37632)]) hl [3, 4, 5, 1, 0] rfl) (me_up hm85 er37632 (by decide))
          · subst hAe
            exact W.vret hx hb hr (fun t ht hW => ⟨⟨u, rfl, trivial, by rw [ht]; exact hP, hD⟩, hS.F ht⟩) hS.2.2 dX10_seekBarriers_150
        · have g37633 : Rg 1 1 y123_s0 := rg_ne_lo (k := 0) g123_s0 (by decide) c37627 (by decide)
          refine lv_aload_n hx hb dX10_seekBarriers_130 rfl (lv_at hl 1 rfl) ?_
          refine lv_iload_n hx hb dX10_seekBarriers_131 rfl (lv_at hl 4 rfl) ?_
          refine wk_sv 18 (As := [.int y85_l3]) (rest := []) ⟨hx, hb, hml, hown, hts⟩ (k_X10_oddWithout l D cI cS a na nc N L u hL hN y85_l3) hKK hP (ci := 10) rfl rfl (cwV 1 hts gX10_seekBarriers_X10_oddWithout rfl rfl rfl (by decide +kernel) ⟨Nat.le_of_ble_eq_true rfl, Nat.le_of_ble_eq_true rfl⟩) rfl hl.1 rfl (Nat.le_of_ble_eq_true rfl) dX10_seekBarriers_132 ⟨Nat.le_of_ble_eq_true rfl, Nat.le_of_ble_eq_true rfl⟩ (fun r37634 hr37634 => ?_)
          refine lv_iload hx hb dX10_seekBarriers_135 (lv_at hl 6 rfl) ?_
          refine lv_icmp_ne (tgt := 145) hx hb dX10_seekBarriers_137 (by decide) (fun c37635 => ?_) (fun c37635 => ?_)
          · refine lv_iload_n hx hb dX10_seekBarriers_145 rfl (lv_at hl 4 rfl) ?_
            refine lv_iload_n hx hb dX10_seekBarriers_146 rfl (lv_at hl 2 rfl) ?_
            refine lv_icmp_ne (tgt := 151) hx hb dX10_seekBarriers_147 (by decide) (fun c37636 => ?_) (fun c37636 => ?_)
            · refine lv_iload_n hx hb dX10_seekBarriers_151 rfl (lv_at hl 4 rfl) ?_
              refine lv_iload_n hx hb dX10_seekBarriers_152 rfl (lv_at hl 2 rfl) ?_
              refine wk_isub (e1 := (-4095)) (f := 4095) hx hb dX10_seekBarriers_153 g123_l3 g123_l1 (by decide) (fun r37637 hr37637 er37637 qr37637 => ?_)
              refine lv_iload_n hx hb dX10_seekBarriers_154 rfl (lv_at hl 2 rfl) ?_
              refine wk_iandr hx hb dX10_seekBarriers_155 g123_l1 (by decide) (fun r37638 hr37638 qr37638 => ?_)
              refine lv_istore_n (lv' := [(3, .int r37638), (6, .int y123_s0), (0, .ref (a 18)), (1, .int y85_l1), (2, .int y85_l2), (4, .int y85_l4), (5, .int y123_l5)]) hx hb dX10_seekBarriers_156 rfl hl (by decide) rfl (fun ls hl => ?_)
              refine wk_iinc (lv' := fun r => [(4, .int r), (3, .int r37638), (6, .int y123_s0), (0, .ref (a 18)), (1, .int y85_l1), (2, .int y85_l2), (5, .int y123_l5)]) (e1 := 1) (f := 4096) hx hb dX10_seekBarriers_157 hl (k := 5) rfl (by decide) g123_l4 (by decide) (fun _ => rfl) (fun r37639 ls hr37639 er37639 hl => ?_)
              refine lv_goto (tgt := 85) hx hb dX10_seekBarriers_160 (by decide) ?_
              exact ih85 y85_l1 y85_l2 r37638 r37639 u _ _ ls g123_l1 hr37638 (show Rg 0 4096 r37639 from rg_w hr37639 (by decide) (by decide)) hP hD hS (lv_sub (l' := [(0, .ref (a 18)), (1, .int y85_l1), (2, .int y85_l2), (3, .int r37638), (4, .int r37639)]) hl [3, 4, 5, 1, 0] rfl) (me_up hm85 er37639 (by decide))
            · subst hAe
              exact W.vret hx hb hr (fun t ht hW => ⟨⟨u, rfl, trivial, by rw [ht]; exact hP, hD⟩, hS.F ht⟩) hS.2.2 dX10_seekBarriers_150
          · refine lv_aload_n hx hb dX10_seekBarriers_140 rfl (lv_at hl 1 rfl) ?_
            refine lv_iload_n hx hb dX10_seekBarriers_141 rfl (lv_at hl 4 rfl) ?_
            refine wk_qv (wX cI cS a na nc N L) u (As := [.int y85_l3]) (rest := []) ⟨hx, hb, hml, hown, hts⟩ (k_X10_noteBarrier l D cI cS _ a na nc N L u hL hN y85_l3) hKK hP hD hS hA 18 (ci := 10) rfl rfl (cwV 1 hts gX10_seekBarriers_X10_noteBarrier rfl rfl rfl (by decide +kernel) ⟨Nat.le_of_ble_eq_true rfl, Nat.le_of_ble_eq_true rfl⟩) rfl hl.1 rfl (Nat.le_of_ble_eq_true rfl) dX10_seekBarriers_142 ⟨Nat.le_of_ble_eq_true rfl, Nat.le_of_ble_eq_true rfl⟩ (fun u H locs hr37640 hP hD hS => ?_)
            refine lv_iload_n hx hb dX10_seekBarriers_145 rfl (lv_at hl 4 rfl) ?_
            refine lv_iload_n hx hb dX10_seekBarriers_146 rfl (lv_at hl 2 rfl) ?_
            refine lv_icmp_ne (tgt := 151) hx hb dX10_seekBarriers_147 (by decide) (fun c37641 => ?_) (fun c37641 => ?_)
            · refine lv_iload_n hx hb dX10_seekBarriers_151 rfl (lv_at hl 4 rfl) ?_
              refine lv_iload_n hx hb dX10_seekBarriers_152 rfl (lv_at hl 2 rfl) ?_
              refine wk_isub (e1 := (-4095)) (f := 4095) hx hb dX10_seekBarriers_153 g123_l3 g123_l1 (by decide) (fun r37642 hr37642 er37642 qr37642 => ?_)
              refine lv_iload_n hx hb dX10_seekBarriers_154 rfl (lv_at hl 2 rfl) ?_
              refine wk_iandr hx hb dX10_seekBarriers_155 g123_l1 (by decide) (fun r37643 hr37643 qr37643 => ?_)
              refine lv_istore_n (lv' := [(3, .int r37643), (6, .int y123_s0), (0, .ref (a 18)), (1, .int y85_l1), (2, .int y85_l2), (4, .int y85_l4), (5, .int y123_l5)]) hx hb dX10_seekBarriers_156 rfl hl (by decide) rfl (fun ls hl => ?_)
              refine wk_iinc (lv' := fun r => [(4, .int r), (3, .int r37643), (6, .int y123_s0), (0, .ref (a 18)), (1, .int y85_l1), (2, .int y85_l2), (5, .int y123_l5)]) (e1 := 1) (f := 4096) hx hb dX10_seekBarriers_157 hl (k := 5) rfl (by decide) g123_l4 (by decide) (fun _ => rfl) (fun r37644 ls hr37644 er37644 hl => ?_)
              refine lv_goto (tgt := 85) hx hb dX10_seekBarriers_160 (by decide) ?_
              exact ih85 y85_l1 y85_l2 r37643 r37644 u _ _ ls g123_l1 hr37643 (show Rg 0 4096 r37644 from rg_w hr37644 (by decide) (by decide)) hP hD hS (lv_sub (l' := [(0, .ref (a 18)), (1, .int y85_l1), (2, .int y85_l2), (3, .int r37643), (4, .int r37644)]) hl [3, 4, 5, 1, 0] rfl) (me_up hm85 er37644 (by decide))
            · subst hAe
              exact W.vret hx hb hr (fun t ht hW => ⟨⟨u, rfl, trivial, by rw [ht]; exact hP, hD⟩, hS.F ht⟩) hS.2.2 dX10_seekBarriers_150
      refine lv_iload hx hb dX10_seekBarriers_85 (lv_at hl 4 rfl) ?_
      refine lv_sipush (v := 4096) hx hb dX10_seekBarriers_87 (by decide) ?_
      refine lv_icmp_ge (tgt := 163) hx hb dX10_seekBarriers_90 (by decide) (fun c37645 => ?_) (fun c37645 => ?_)
      · have g37646 : Rg 4096 4096 y85_l4 := rg_ler (by decide : Rg 4096 4096 (4096 : Int32)) g85_l4 c37645 (by decide)
        subst hAe
        exact W.vret hx hb hr (fun t ht hW => ⟨⟨u, rfl, trivial, by rw [ht]; exact hP, hD⟩, hS.F ht⟩) hS.2.2 dX10_seekBarriers_163
      · have g37647 : Rg 0 4095 y85_l4 := rg_ltl g85_l4 (by decide : Rg 4096 4096 (4096 : Int32)) (rg_nle c37645) (by decide)
        refine lv_iload_n hx hb dX10_seekBarriers_93 rfl (lv_at hl 3 rfl) ?_
        refine lz_ss (As := [.int y85_l3]) (rest := []) ⟨hx, hb, hml, hown, hts⟩ (k_J6_bitCount_0f7a4 l D cI cS y85_l3) hKK (hP.sub (ws' := []) [] rfl) (va_cwS 1 hts gX10_seekBarriers_J6_bitCount_0f7a4 rfl rfl rfl (by decide +kernel) ⟨Nat.le_of_ble_eq_true rfl, Nat.le_of_ble_eq_true rfl⟩) rfl hl.1 rfl (Nat.le_of_ble_eq_true rfl) dX10_seekBarriers_94 ⟨Nat.le_of_ble_eq_true rfl, Nat.le_of_ble_eq_true rfl⟩ (fun r37648 hr37648 => ?_)
        refine lv_iload_n hx hb dX10_seekBarriers_97 rfl (lv_at hl 2 rfl) ?_
        refine lv_iadd hx hb dX10_seekBarriers_98 ?_
        refine wk_topP (P := fun r => r = r37648 + y85_l2) rfl (fun r37649 qr37649 => ?_)
        refine lv_istore (lv' := [(5, .int r37649), (0, .ref (a 18)), (1, .int y85_l1), (2, .int y85_l2), (3, .int y85_l3), (4, .int y85_l4)]) hx hb dX10_seekBarriers_99 hl (by decide) rfl (fun ls hl => ?_)
        refine lv_iload_n hx hb dX10_seekBarriers_101 rfl (lv_at hl 4 rfl) ?_
        refine lz_ss (As := [.int y85_l3]) (rest := []) ⟨hx, hb, hml, hown, hts⟩ (k_J6_bitCount_0f7a4 l D cI cS y85_l3) hKK (hP.sub (ws' := []) [] rfl) (va_cwS 1 hts gX10_seekBarriers_J6_bitCount_0f7a4 rfl rfl rfl (by decide +kernel) ⟨Nat.le_of_ble_eq_true rfl, Nat.le_of_ble_eq_true rfl⟩) rfl hl.1 rfl (Nat.le_of_ble_eq_true rfl) dX10_seekBarriers_102 ⟨Nat.le_of_ble_eq_true rfl, Nat.le_of_ble_eq_true rfl⟩ (fun r37650 hr37650 => ?_)
        refine lv_iload hx hb dX10_seekBarriers_105 (lv_at hl 0 rfl) ?_
        refine lv_iadd hx hb dX10_seekBarriers_107 ?_
        refine wk_topP (P := fun r => r = r37650 + r37649) rfl (fun r37651 qr37651 => ?_)
        refine lv_aload_n hx hb dX10_seekBarriers_108 rfl (lv_at hl 1 rfl) ?_
        refine va_get (D := D) (ci := 10) (v := .ref (a 1)) (C := RX10) (T := TX10) (N := 8) hx hb hts hin10 hown hK hP 18 rfl rfl 0 (by decide) (hts (.fieldLink RX10 19 "MissedPoints$Witness" "net" "LMissedPoints$Net;") (by decide +kernel)) (fun _ h9 => h9) rfl dX10_seekBarriers_109 ?_
        refine va_getN (D := D) (ci := 2) (v := .int (L 1 1)) (C := RX2) (T := TX2) (N := 3) hx hb hts hin2 hown hK hP 1 rfl rfl 1 (by decide) (va_Nw.use rfl hKK.2.2.2.2.2.2.2.2.2.2.2.2.2.2.2.2.2.2.1) (fun _ h9 => h9) rfl dX10_seekBarriers_112 ?_
        refine lv_icmp_gt (tgt := 122) hx hb dX10_seekBarriers_115 (by decide) (fun c37652 => ?_) (fun c37652 => ?_)
        · have g37653 : Rg 1 2147483647 r37651 := rg_ltr hL.1 (rg_any r37651) c37652 (by decide)
          refine lv_iconst (v := 0) hx hb dX10_seekBarriers_122 (by decide) ?_
          exact ct123 r37649 (0 : Int32) u _ _ ls g85_l1 g85_l3 g37647 (by decide : Rg 0 1 (0 : Int32)) hP hD hS (lv_sub (l' := [(0, .ref (a 18)), (1, .int y85_l1), (2, .int y85_l2), (3, .int y85_l3), (4, .int y85_l4), (5, .int r37649)]) hl [1, 2, 3, 4, 5, 0] rfl)
        · have g37654 : Rg (-2147483648) 12 r37651 := rg_lel (rg_any r37651) hL.1 (rg_nlt c37652) (by decide)
          refine lv_iconst (v := 1) hx hb dX10_seekBarriers_118 (by decide) ?_
          refine lv_goto (tgt := 123) hx hb dX10_seekBarriers_119 (by decide) ?_
          exact ct123 r37649 (1 : Int32) u _ _ ls g85_l1 g85_l3 g37647 (by decide : Rg 0 1 (1 : Int32)) hP hD hS (lv_sub (l' := [(0, .ref (a 18)), (1, .int y85_l1), (2, .int y85_l2), (3, .int y85_l3), (4, .int y85_l4), (5, .int r37649)]) hl [1, 2, 3, 4, 5, 0] rfl)
  refine lv_aload_n hx hb dX10_seekBarriers_0 rfl (lv_at hl 0 rfl) ?_
  refine va_get (D := D) (ci := 10) (v := .int (u 18 7)) (C := RX10) (T := TX10) (N := 8) hx hb hts hin10 hown hK hP 18 rfl rfl 7 (by decide) (hts (.fieldLink RX10 15 "MissedPoints$Witness" "changesSeen" "I") (by decide +kernel)) (fun _ h9 => h9) rfl dX10_seekBarriers_1 ?_
  refine wk_any (fun r37655 => ?_)
  refine lv_aload_n hx hb dX10_seekBarriers_4 rfl (lv_at hl 0 rfl) ?_
  refine va_get (D := D) (ci := 10) (v := .ref (a 1)) (C := RX10) (T := TX10) (N := 8) hx hb hts hin10 hown hK hP 18 rfl rfl 0 (by decide) (hts (.fieldLink RX10 19 "MissedPoints$Witness" "net" "LMissedPoints$Net;") (by decide +kernel)) (fun _ h9 => h9) rfl dX10_seekBarriers_5 ?_
  refine va_getN (D := D) (ci := 2) (v := .int (u 1 2)) (C := RX2) (T := TX2) (N := 3) hx hb hts hin2 hown hK hP 1 rfl rfl 2 (by decide) (va_Nw.use rfl hKK.2.2.2.2.2.2.2.2.2.2.2.2.2.2.2.2.2.1) (fun _ h9 => h9) rfl dX10_seekBarriers_8 ?_
  refine wk_any (fun r37656 => ?_)
  refine lv_icmp_ne (tgt := 15) hx hb dX10_seekBarriers_11 (by decide) (fun c37657 => ?_) (fun c37657 => ?_)
  · refine lv_aload_n hx hb dX10_seekBarriers_15 rfl (lv_at hl 0 rfl) ?_
    refine lv_aload_n hx hb dX10_seekBarriers_16 rfl (lv_at hl 0 rfl) ?_
    refine va_get (D := D) (ci := 10) (v := .ref (a 1)) (C := RX10) (T := TX10) (N := 8) hx hb hts hin10 hown hK hP 18 rfl rfl 0 (by decide) (hts (.fieldLink RX10 19 "MissedPoints$Witness" "net" "LMissedPoints$Net;") (by decide +kernel)) (fun _ h9 => h9) rfl dX10_seekBarriers_17 ?_
    refine va_getN (D := D) (ci := 2) (v := .int (u 1 2)) (C := RX2) (T := TX2) (N := 3) hx hb hts hin2 hown hK hP 1 rfl rfl 2 (by decide) (va_Nw.use rfl hKK.2.2.2.2.2.2.2.2.2.2.2.2.2.2.2.2.2.1) (fun _ h9 => h9) rfl dX10_seekBarriers_20 ?_
    refine wk_any (fun r37658 => ?_)
    refine va_put (D := D) (ci := 10) (v := .int r37658) (ty := .int) (C := RX10) (T := TX10) (N := 8) hx hb hts hin10 tyX10 tyX10_ok nmX10 hown hK hP hD hS 18 rfl rfl 7 (by decide) (hts (.fieldLink RX10 15 "MissedPoints$Witness" "changesSeen" "I") (by decide +kernel)) (fun _ h9 => h9) rfl (by decide +kernel) rfl rfl (Nat.le_of_ble_eq_true rfl) dX10_seekBarriers_23 (fun H locs hP hD hS => ?_)
    rw [sxf_18_7] at hP hD
    generalize sU u 18 _ = u at hP hD
    refine lv_aload_n hx hb dX10_seekBarriers_26 rfl (lv_at hl 0 rfl) ?_
    refine va_get (D := D) (ci := 10) (v := .ref (a 1)) (C := RX10) (T := TX10) (N := 8) hx hb hts hin10 hown hK hP 18 rfl rfl 0 (by decide) (hts (.fieldLink RX10 19 "MissedPoints$Witness" "net" "LMissedPoints$Net;") (by decide +kernel)) (fun _ h9 => h9) rfl dX10_seekBarriers_27 ?_
    refine wk_sv 1 (As := []) (rest := []) ⟨hx, hb, hml, hown, hts⟩ (k_X2_all l D cI cS a na nc N L u hL hN) hKK hP (ci := 2) rfl rfl (cwV 0 hts gX10_seekBarriers_X2_all rfl rfl rfl (by decide +kernel) ⟨Nat.le_of_ble_eq_true rfl, Nat.le_of_ble_eq_true rfl⟩) rfl hl.1 rfl (Nat.le_of_ble_eq_true rfl) dX10_seekBarriers_30 ⟨Nat.le_of_ble_eq_true rfl, Nat.le_of_ble_eq_true rfl⟩ (fun r37659 hr37659 => ?_)
    refine lv_aload_n hx hb dX10_seekBarriers_33 rfl (lv_at hl 0 rfl) ?_
    refine va_get (D := D) (ci := 10) (v := .ref (a 7)) (C := RX10) (T := TX10) (N := 8) hx hb hts hin10 hown hK hP 18 rfl rfl 1 (by decide) (hts (.fieldLink RX10 23 "MissedPoints$Witness" "pairs" "LMissedPoints$Pairs;") (by decide +kernel)) (fun _ h9 => h9) rfl dX10_seekBarriers_34 ?_
    refine wk_qi (wX cI cS a na nc N L) u (As := []) (rest := [.int r37659]) ⟨hx, hb, hml, hown, hts⟩ (k_X3_loosePoints l D cI cS _ a na nc N L u hL hN) hKK hP hD hS hA 7 (ci := 3) rfl rfl (cwV 0 hts gX10_seekBarriers_X3_loosePoints rfl rfl rfl (by decide +kernel) ⟨Nat.le_of_ble_eq_true rfl, Nat.le_of_ble_eq_true rfl⟩) rfl hl.1 rfl (Nat.le_of_ble_eq_true rfl) dX10_seekBarriers_37 ⟨Nat.le_of_ble_eq_true rfl, Nat.le_of_ble_eq_true rfl⟩ (fun r37660 u H locs hr37660 hP hD hS => ?_)
    refine lv_iconst (v := (-1)) hx hb dX10_seekBarriers_40 (by decide) ?_
    refine lv_ixor hx hb dX10_seekBarriers_41 ?_
    refine wk_topP (P := fun r => r = r37660 ^^^ ((-1) : Int32)) rfl (fun r37661 qr37661 => ?_)
    refine wk_iandl hx hb dX10_seekBarriers_42 hr37659.1 (by decide) (fun r37662 hr37662 qr37662 => ?_)
    refine lv_istore_n (lv' := [(1, .int r37662), (0, .ref (a 18))]) hx hb dX10_seekBarriers_43 rfl hl (by decide) rfl (fun ls hl => ?_)
    refine lv_aload_n hx hb dX10_seekBarriers_44 rfl (lv_at hl 1 rfl) ?_
    refine va_get (D := D) (ci := 10) (v := .ref (a 7)) (C := RX10) (T := TX10) (N := 8) hx hb hts hin10 hown hK hP 18 rfl rfl 1 (by decide) (hts (.fieldLink RX10 23 "MissedPoints$Witness" "pairs" "LMissedPoints$Pairs;") (by decide +kernel)) (fun _ h9 => h9) rfl dX10_seekBarriers_45 ?_
    refine lv_aload_n hx hb dX10_seekBarriers_48 rfl (lv_at hl 1 rfl) ?_
    refine va_get (D := D) (ci := 10) (v := .ref (a 1)) (C := RX10) (T := TX10) (N := 8) hx hb hts hin10 hown hK hP 18 rfl rfl 0 (by decide) (hts (.fieldLink RX10 19 "MissedPoints$Witness" "net" "LMissedPoints$Net;") (by decide +kernel)) (fun _ h9 => h9) rfl dX10_seekBarriers_49 ?_
    refine wk_sv 1 (As := []) (rest := [.ref (a 7)]) ⟨hx, hb, hml, hown, hts⟩ (k_X2_all l D cI cS a na nc N L u hL hN) hKK hP (ci := 2) rfl rfl (cwV 0 hts gX10_seekBarriers_X2_all rfl rfl rfl (by decide +kernel) ⟨Nat.le_of_ble_eq_true rfl, Nat.le_of_ble_eq_true rfl⟩) rfl hl.1 rfl (Nat.le_of_ble_eq_true rfl) dX10_seekBarriers_52 ⟨Nat.le_of_ble_eq_true rfl, Nat.le_of_ble_eq_true rfl⟩ (fun r37663 hr37663 => ?_)
    refine wk_qi (wX cI cS a na nc N L) u (As := [.int r37663]) (rest := []) ⟨hx, hb, hml, hown, hts⟩ (k_X3_lack l D cI cS _ a na nc N L u hL hN r37663) hKK hP hD hS hA 7 (ci := 3) rfl rfl (cwV 1 hts gX10_seekBarriers_X3_lack rfl rfl rfl (by decide +kernel) ⟨Nat.le_of_ble_eq_true rfl, Nat.le_of_ble_eq_true rfl⟩) rfl hl.1 rfl (Nat.le_of_ble_eq_true rfl) dX10_seekBarriers_55 ⟨Nat.le_of_ble_eq_true rfl, Nat.le_of_ble_eq_true rfl⟩ (fun r37664 u H locs hr37664 hP hD hS => ?_)
    refine lv_istore_n (lv' := [(2, .int r37664), (1, .int r37662), (0, .ref (a 18))]) hx hb dX10_seekBarriers_58 rfl hl (by decide) rfl (fun ls hl => ?_)
    refine lv_aload_n hx hb dX10_seekBarriers_59 rfl (lv_at hl 2 rfl) ?_
    refine lv_iconst (v := 0) hx hb dX10_seekBarriers_60 (by decide) ?_
    refine va_put (D := D) (ci := 10) (v := .int 0) (ty := .int) (C := RX10) (T := TX10) (N := 8) hx hb hts hin10 tyX10 tyX10_ok nmX10 hown hK hP hD hS 18 rfl rfl 4 (by decide) (hts (.fieldLink RX10 56 "MissedPoints$Witness" "barrierCount" "I") (by decide +kernel)) (fun _ h9 => h9) rfl (by decide +kernel) rfl rfl (Nat.le_of_ble_eq_true rfl) dX10_seekBarriers_61 (fun H locs hP hD hS => ?_)
    rw [sxf_18_4] at hP hD
    generalize sU u 18 _ = u at hP hD
    refine lv_aload_n hx hb dX10_seekBarriers_64 rfl (lv_at hl 2 rfl) ?_
    refine lv_iconst (v := 0) hx hb dX10_seekBarriers_65 (by decide) ?_
    refine va_put (D := D) (ci := 10) (v := .int 0) (ty := .int) (C := RX10) (T := TX10) (N := 8) hx hb hts hin10 tyX10 tyX10_ok nmX10 hown hK hP hD hS 18 rfl rfl 5 (by decide) (hts (.fieldLink RX10 59 "MissedPoints$Witness" "greatestBarrier" "I") (by decide +kernel)) (fun _ h9 => h9) rfl (by decide +kernel) rfl rfl (Nat.le_of_ble_eq_true rfl) dX10_seekBarriers_66 (fun H locs hP hD hS => ?_)
    rw [sxf_18_5] at hP hD
    generalize sU u 18 _ = u at hP hD
    refine lv_aload_n hx hb dX10_seekBarriers_69 rfl (lv_at hl 2 rfl) ?_
    refine lv_aload_n hx hb dX10_seekBarriers_70 rfl (lv_at hl 2 rfl) ?_
    refine va_get (D := D) (ci := 10) (v := .ref (a 1)) (C := RX10) (T := TX10) (N := 8) hx hb hts hin10 hown hK hP 18 rfl rfl 0 (by decide) (hts (.fieldLink RX10 19 "MissedPoints$Witness" "net" "LMissedPoints$Net;") (by decide +kernel)) (fun _ h9 => h9) rfl dX10_seekBarriers_71 ?_
    refine wk_sv 1 (As := []) (rest := [.ref (a 18)]) ⟨hx, hb, hml, hown, hts⟩ (k_X2_all l D cI cS a na nc N L u hL hN) hKK hP (ci := 2) rfl rfl (cwV 0 hts gX10_seekBarriers_X2_all rfl rfl rfl (by decide +kernel) ⟨Nat.le_of_ble_eq_true rfl, Nat.le_of_ble_eq_true rfl⟩) rfl hl.1 rfl (Nat.le_of_ble_eq_true rfl) dX10_seekBarriers_74 ⟨Nat.le_of_ble_eq_true rfl, Nat.le_of_ble_eq_true rfl⟩ (fun r37665 hr37665 => ?_)
    refine va_put (D := D) (ci := 10) (v := .int r37665) (ty := .int) (C := RX10) (T := TX10) (N := 8) hx hb hts hin10 tyX10 tyX10_ok nmX10 hown hK hP hD hS 18 rfl rfl 6 (by decide) (hts (.fieldLink RX10 62 "MissedPoints$Witness" "inEachBarrier" "I") (by decide +kernel)) (fun _ h9 => h9) rfl (by decide +kernel) rfl rfl (Nat.le_of_ble_eq_true rfl) dX10_seekBarriers_77 (fun H locs hP hD hS => ?_)
    rw [sxf_18_6] at hP hD
    generalize sU u 18 _ = u at hP hD
    refine lv_iconst (v := 0) hx hb dX10_seekBarriers_80 (by decide) ?_
    refine lv_istore_n (lv' := [(3, .int 0), (2, .int r37664), (1, .int r37662), (0, .ref (a 18))]) hx hb dX10_seekBarriers_81 rfl hl (by decide) rfl (fun ls hl => ?_)
    refine lv_iconst (v := 0) hx hb dX10_seekBarriers_82 (by decide) ?_
    refine lv_istore (lv' := [(4, .int 0), (3, .int 0), (2, .int r37664), (1, .int r37662), (0, .ref (a 18))]) hx hb dX10_seekBarriers_83 hl (by decide) rfl (fun ls hl => ?_)
    exact lp85 4097 r37662 r37664 (0 : Int32) (0 : Int32) u _ _ ls hr37662 (by decide : Rg 0 4095 (0 : Int32)) (by decide : Rg 0 4096 (0 : Int32)) hP hD hS (lv_sub (l' := [(0, .ref (a 18)), (1, .int r37662), (2, .int r37664), (3, .int 0), (4, .int 0)]) hl [4, 3, 2, 1, 0] rfl) (me_i (by decide : Rg 0 4096 (0 : Int32)) (by decide))
  · subst hAe
    exact W.vret hx hb hr (fun t ht hW => ⟨⟨u, rfl, trivial, by rw [ht]; exact hP, hD⟩, hS.F ht⟩) hS.2.2 dX10_seekBarriers_14
set_option maxRecDepth 20000 in
theorem ggX10_isCritical_X3_best : GoodIn wsX10_isCritical wsX3_best := goodIn_r _ [14, 15, 16, 17, 13, 18, 19, 20, 21, 22, 23, 24, 25, 26, 27, 28, 29, 30, 31, 32, 33, 34, 35, 5, 36, 37, 38, 39, 40, 41, 42, 43, 4, 6, 7, 8, 9, 44, 45, 46, 47, 59, 60, 61, 62, 56, 57, 58, 63, 64] (by decide +kernel) (by decide +kernel)
set_option maxRecDepth 20000 in
theorem gX10_isCritical_X3_best : GoodIn wsX10_isCritical (wsV RX10 72 RX3 yX3_best wsX3_best) := goodIn_app (goodIn_of _ (by decide +kernel)) ggX10_isCritical_X3_best
theorem dX10_isCritical_13 : decode cX10_isCritical 13 = .ok (.iconst 0, 1) := by decide +kernel
theorem dX10_isCritical_14 : decode cX10_isCritical 14 = .ok (.istore_n 3, 1) := by decide +kernel
theorem dX10_isCritical_15 : decode cX10_isCritical 15 = .ok (.iload_n 3, 1) := by decide +kernel
theorem dX10_isCritical_16 : decode cX10_isCritical 16 = .ok (.aload_n 0, 1) := by decide +kernel
theorem dX10_isCritical_17 : decode cX10_isCritical 17 = .ok (.getfield 19, 3) := by decide +kernel
theorem dX10_isCritical_20 : decode cX10_isCritical 20 = .ok (.getfield 65, 3) := by decide +kernel
theorem dX10_isCritical_23 : decode cX10_isCritical 23 = .ok (.if_icmp .ge 41, 3) := by decide +kernel
theorem dX10_isCritical_26 : decode cX10_isCritical 26 = .ok (.iload_n 1, 1) := by decide +kernel
theorem dX10_isCritical_27 : decode cX10_isCritical 27 = .ok (.iload_n 3, 1) := by decide +kernel
theorem dX10_isCritical_28 : decode cX10_isCritical 28 = .ok (.ishr, 1) := by decide +kernel
theorem dX10_isCritical_29 : decode cX10_isCritical 29 = .ok (.iconst 1, 1) := by decide +kernel
theorem dX10_isCritical_30 : decode cX10_isCritical 30 = .ok (.iand, 1) := by decide +kernel
theorem dX10_isCritical_31 : decode cX10_isCritical 31 = .ok (.ifCond .eq 27, 3) := by decide +kernel
theorem dX10_isCritical_34 : decode cX10_isCritical 34 = .ok (.iconst 2, 1) := by decide +kernel
theorem dX10_isCritical_35 : decode cX10_isCritical 35 = .ok (.aload_n 0, 1) := by decide +kernel
theorem dX10_isCritical_36 : decode cX10_isCritical 36 = .ok (.getfield 23, 3) := by decide +kernel
theorem dX10_isCritical_39 : decode cX10_isCritical 39 = .ok (.iload_n 1, 1) := by decide +kernel
theorem dX10_isCritical_40 : decode cX10_isCritical 40 = .ok (.iconst 1, 1) := by decide +kernel
theorem dX10_isCritical_41 : decode cX10_isCritical 41 = .ok (.iload_n 3, 1) := by decide +kernel
theorem dX10_isCritical_42 : decode cX10_isCritical 42 = .ok (.ishl, 1) := by decide +kernel
theorem dX10_isCritical_43 : decode cX10_isCritical 43 = .ok (.iconst (-1), 1) := by decide +kernel
theorem dX10_isCritical_44 : decode cX10_isCritical 44 = .ok (.ixor, 1) := by decide +kernel
theorem dX10_isCritical_45 : decode cX10_isCritical 45 = .ok (.iand, 1) := by decide +kernel
theorem dX10_isCritical_46 : decode cX10_isCritical 46 = .ok (.invokevirtual 72, 3) := by decide +kernel
theorem dX10_isCritical_49 : decode cX10_isCritical 49 = .ok (.imul, 1) := by decide +kernel
theorem dX10_isCritical_50 : decode cX10_isCritical 50 = .ok (.iload_n 2, 1) := by decide +kernel
theorem dX10_isCritical_51 : decode cX10_isCritical 51 = .ok (.iconst 1, 1) := by decide +kernel
theorem dX10_isCritical_52 : decode cX10_isCritical 52 = .ok (.isub, 1) := by decide +kernel
theorem dX10_isCritical_53 : decode cX10_isCritical 53 = .ok (.if_icmp .eq 5, 3) := by decide +kernel
theorem dX10_isCritical_56 : decode cX10_isCritical 56 = .ok (.iconst 0, 1) := by decide +kernel
theorem dX10_isCritical_57 : decode cX10_isCritical 57 = .ok (.ireturn, 1) := by decide +kernel
theorem dX10_isCritical_58 : decode cX10_isCritical 58 = .ok (.iinc 3 1, 3) := by decide +kernel
theorem dX10_isCritical_61 : decode cX10_isCritical 61 = .ok (.goto (-46), 3) := by decide +kernel
theorem dX10_isCritical_64 : decode cX10_isCritical 64 = .ok (.iconst 1, 1) := by decide +kernel
theorem dX10_isCritical_65 : decode cX10_isCritical 65 = .ok (.ireturn, 1) := by decide +kernel
set_option maxHeartbeats 4000000 in
set_option maxRecDepth 100000 in
theorem k_X10_isCritical (l : Launch) (D : va_G) (cI cS : ClassId) (sz : Nat) (a : Nat → Nat) (na nc N : Nat) (L u0 : SU) (hL : TyX L) (hN : N = 0 ∨ N = 24576) (x0 : Int32) : Met l yX10_isCritical wsX10_isCritical ({ frames := 16, cells := 0, slots := 0, locals := 640 }) (PQ D cI cS (wX cI cS a na nc N L u0) sz [.ref (a 18), .int x0]) (QF (S := SU) D (wX cI cS a na nc N L u0) (wX cI cS a na nc N L) sz (fun r _ => Rg 0 1 r ∧ True)) 0 0 (va_A (wX cI cS a na nc N L u0) sz) := by
  refine Met.ofW (cc := cX10_isCritical) (maxL := 4) (ret := (some .boolean)) (by decide) rfl ?_
  intro p e s m args below meth c s₁ B hml hv
  obtain ⟨rfl, hsz, hP, hKK, hD0⟩ := hv
  have hx := B.exec
  have hb := B.bytes
  have hr := B.returns
  have hts := atoms_spec (ws := wsX10_isCritical) B.pre
  have hown : s.vm.findClass RX10 = some m.cls := findClass_of_methodNamed B.named
  have hlocks := B.notSynchronized
  have hK := hKK.1
  have hin2 : ∀ w ∈ wsX20, w ∈ wsX10_isCritical := by decide +kernel
  have hin10 : ∀ w ∈ wsX100, w ∈ wsX10_isCritical := by decide +kernel
  subst hsz
  have hD := hD0.self (sz := s.heap.size)
  obtain ⟨A, hAe⟩ : ∃ A, A = va_A (wX cI cS a na nc N L u0) s.heap.size := ⟨_, rfl⟩
  rw [← hAe] at hD
  have hA : ∀ q : Nat, s.heap.size ≤ q → A q := fun q h => by rw [hAe]; exact Or.inr h
  have hS : va_S A s.heap s.heap [] := va_S.rf
  have hl := lv_entry ([.ref (a 18), .int x0]) (n := 4) (Nat.le_of_ble_eq_true rfl)
  rw [lg_entry_eq]
  generalize (lg_sl ([.ref (a 18), .int x0]) ++ List.replicate (4 - (lg_sl ([.ref (a 18), .int x0])).length) Slot.unset).toArray = ls at hl ⊢
  have hl : lv_has ls 4 [(0, .ref (a 18)), (1, .int x0)] := hl
  obtain ⟨u, hu9⟩ : ∃ u : SU, u = u0 := ⟨_, rfl⟩
  rw [← hu9] at hP hD
  have lp15 : ∀ (n15 : Nat) (y15_l2 : Int32) (y15_l3 : Int32) (u : SU) (H : Heap) (locs : List Loc) (ls : Array Slot), Rg 0 12 y15_l3 → va_P D cls (wX cI cS a na nc N L u) H → va_D A (wX cI cS a na nc N L u) → va_S A s.heap H locs → lv_has ls 4 [(0, .ref (a 18)), (1, .int x0), (2, .int y15_l2), (3, .int y15_l3)] → 12 - y15_l3.toInt < (n15 : Int) → W p l e (headSpec wsX10_isCritical ({ frames := 16, cells := 0, slots := 0, locals := 640 })).room s m ([.ref (a 18), .int x0]).toArray below meth c H locs 0 0 (MQ below (QF (S := SU) D (wX cI cS a na nc N L u0) (wX cI cS a na nc N L) s.heap.size (fun r _ => Rg 0 1 r ∧ True)) ([.ref (a 18), .int x0]).toArray s 0 0 (va_A (wX cI cS a na nc N L u0) s.heap.size)) (F0 m 15 ls []) := by
    intro n15
    induction n15 with
    | zero =>
      intro y15_l2 y15_l3 u H locs ls g15_l3 hP hD hS hl hm15
      exact absurd rfl (me_z g15_l3 hm15)
    | succ n15 ih15 =>
      intro y15_l2 y15_l3 u H locs ls g15_l3 hP hD hS hl hm15
      refine lv_iload_n hx hb dX10_isCritical_15 rfl (lv_at hl 3 rfl) ?_
      refine lv_aload_n hx hb dX10_isCritical_16 rfl (lv_at hl 0 rfl) ?_
      refine va_get (D := D) (ci := 10) (v := .ref (a 1)) (C := RX10) (T := TX10) (N := 8) hx hb hts hin10 hown hK hP 18 rfl rfl 0 (by decide) (hts (.fieldLink RX10 19 "MissedPoints$Witness" "net" "LMissedPoints$Net;") (by decide +kernel)) (fun _ h9 => h9) rfl dX10_isCritical_17 ?_
      refine va_getN (D := D) (ci := 2) (v := .int (L 1 1)) (C := RX2) (T := TX2) (N := 3) hx hb hts hin2 hown hK hP 1 rfl rfl 1 (by decide) (va_Nw.use rfl hKK.2.2.2.2.2.2.2.2.2.2.2.2.2.2.2.2.2.2.1) (fun _ h9 => h9) rfl dX10_isCritical_20 ?_
      refine lv_icmp_ge (tgt := 64) hx hb dX10_isCritical_23 (by decide) (fun c37863 => ?_) (fun c37863 => ?_)
      · refine lv_iconst (v := 1) hx hb dX10_isCritical_64 (by decide) ?_
        subst hAe
        exact W.zret (v := 1) hx hb hr (by decide) (fun t ht hW => ⟨⟨_, u, rfl, ⟨(by decide : Rg 0 1 (1 : Int32)), trivial⟩, by rw [ht]; exact hP, hD⟩, hS.F ht⟩) hS.2.2 dX10_isCritical_65
      · have g37864 : Rg 1 12 (L 1 1) := rg_ltr g15_l3 hL.1 (rg_nle c37863) (by decide)
        have g37865 : Rg 0 11 y15_l3 := rg_ltl g15_l3 hL.1 (rg_nle c37863) (by decide)
        refine lv_iload_n hx hb dX10_isCritical_26 rfl (lv_at hl 1 rfl) ?_
        refine lv_iload_n hx hb dX10_isCritical_27 rfl (lv_at hl 3 rfl) ?_
        refine lv_ishr hx hb dX10_isCritical_28 ?_
        refine wk_topP (P := fun r => r = x0 >>> (y15_l3 &&& 31)) rfl (fun r37866 qr37866 => ?_)
        refine lv_iconst (v := 1) hx hb dX10_isCritical_29 (by decide) ?_
        refine wk_iandr hx hb dX10_isCritical_30 (by decide : Rg 1 1 (1 : Int32)) (by decide) (fun r37867 hr37867 qr37867 => ?_)
        refine lv_if_eq (tgt := 58) hx hb dX10_isCritical_31 (by decide) (fun c37868 => ?_) (fun c37868 => ?_)
        · have g37869 : Rg 0 0 r37867 := wk_eql hr37867 (by decide : Rg 0 0 (0 : Int32)) c37868 (by decide)
          refine wk_iinc (lv' := fun r => [(3, .int r), (0, .ref (a 18)), (1, .int x0), (2, .int y15_l2)]) (e1 := 1) (f := 12) hx hb dX10_isCritical_58 hl (k := 3) rfl (by decide) g37865 (by decide) (fun _ => rfl) (fun r37870 ls hr37870 er37870 hl => ?_)
          refine lv_goto (tgt := 15) hx hb dX10_isCritical_61 (by decide) ?_
          exact ih15 y15_l2 r37870 u _ _ ls (show Rg 0 12 r37870 from rg_w hr37870 (by decide) (by decide)) hP hD hS (lv_sub (l' := [(0, .ref (a 18)), (1, .int x0), (2, .int y15_l2), (3, .int r37870)]) hl [1, 2, 3, 0] rfl) (me_up hm15 er37870 (by decide))
        · have g37871 : Rg 1 1 r37867 := rg_ne_lo (k := 0) hr37867 (by decide) c37868 (by decide)
          refine lv_iconst (v := 2) hx hb dX10_isCritical_34 (by decide) ?_
          refine lv_aload_n hx hb dX10_isCritical_35 rfl (lv_at hl 0 rfl) ?_
          refine va_get (D := D) (ci := 10) (v := .ref (a 7)) (C := RX10) (T := TX10) (N := 8) hx hb hts hin10 hown hK hP 18 rfl rfl 1 (by decide) (hts (.fieldLink RX10 23 "MissedPoints$Witness" "pairs" "LMissedPoints$Pairs;") (by decide +kernel)) (fun _ h9 => h9) rfl dX10_isCritical_36 ?_
          refine lv_iload_n hx hb dX10_isCritical_39 rfl (lv_at hl 1 rfl) ?_
          refine lv_iconst (v := 1) hx hb dX10_isCritical_40 (by decide) ?_
          refine lv_iload_n hx hb dX10_isCritical_41 rfl (lv_at hl 3 rfl) ?_
          refine wk_ishl1 (f := 2048) hx hb dX10_isCritical_42 g37865 (by decide) (fun r37872 hr37872 qr37872 => ?_)
          refine lv_iconst (v := (-1)) hx hb dX10_isCritical_43 (by decide) ?_
          refine lv_ixor hx hb dX10_isCritical_44 ?_
          refine wk_topP (P := fun r => r = r37872 ^^^ ((-1) : Int32)) rfl (fun r37873 qr37873 => ?_)
          refine lv_iand hx hb dX10_isCritical_45 ?_
          refine wk_topP (P := fun r => r = x0 &&& r37873) rfl (fun r37874 qr37874 => ?_)
          refine wk_qi (wX cI cS a na nc N L) u (As := [.int r37874]) (rest := [.int 2]) ⟨hx, hb, hml, hown, hts⟩ (k_X3_best l D cI cS _ a na nc N L u hL hN r37874) hKK hP hD hS hA 7 (ci := 3) rfl rfl (cwV 1 hts gX10_isCritical_X3_best rfl rfl rfl (by decide +kernel) ⟨Nat.le_of_ble_eq_true rfl, Nat.le_of_ble_eq_true rfl⟩) rfl hl.1 rfl (Nat.le_of_ble_eq_true rfl) dX10_isCritical_46 ⟨Nat.le_of_ble_eq_true rfl, Nat.le_of_ble_eq_true rfl⟩ (fun r37875 u H locs hr37875 hP hD hS => ?_)
          refine wk_imul (f := 131098) hx hb dX10_isCritical_49 (by decide : Rg 0 2 (2 : Int32)) hr37875.1 (by decide) (fun r37876 hr37876 er37876 qr37876 => ?_)
          refine lv_iload_n hx hb dX10_isCritical_50 rfl (lv_at hl 2 rfl) ?_
          refine lv_iconst (v := 1) hx hb dX10_isCritical_51 (by decide) ?_
          refine lv_isub hx hb dX10_isCritical_52 ?_
          refine wk_topP (P := fun r => r = y15_l2 - (1 : Int32)) rfl (fun r37877 qr37877 => ?_)
          refine lv_icmp_eq (tgt := 58) hx hb dX10_isCritical_53 (by decide) (fun c37878 => ?_) (fun c37878 => ?_)
          · have g37879 : Rg 0 131098 r37877 := wk_eqr hr37876 (rg_any r37877) c37878 (by decide)
            refine wk_iinc (lv' := fun r => [(3, .int r), (0, .ref (a 18)), (1, .int x0), (2, .int y15_l2)]) (e1 := 1) (f := 12) hx hb dX10_isCritical_58 hl (k := 3) rfl (by decide) g37865 (by decide) (fun _ => rfl) (fun r37880 ls hr37880 er37880 hl => ?_)
            refine lv_goto (tgt := 15) hx hb dX10_isCritical_61 (by decide) ?_
            exact ih15 y15_l2 r37880 u _ _ ls (show Rg 0 12 r37880 from rg_w hr37880 (by decide) (by decide)) hP hD hS (lv_sub (l' := [(0, .ref (a 18)), (1, .int x0), (2, .int y15_l2), (3, .int r37880)]) hl [1, 2, 3, 0] rfl) (me_up hm15 er37880 (by decide))
          · refine lv_iconst (v := 0) hx hb dX10_isCritical_56 (by decide) ?_
            subst hAe
            exact W.zret (v := 0) hx hb hr (by decide) (fun t ht hW => ⟨⟨_, u, rfl, ⟨(by decide : Rg 0 1 (0 : Int32)), trivial⟩, by rw [ht]; exact hP, hD⟩, hS.F ht⟩) hS.2.2 dX10_isCritical_57
  refine lv_iload_n hx hb dX10_isCritical_0 rfl (lv_at hl 1 rfl) ?_
  refine lz_ss (As := [.int x0]) (rest := []) ⟨hx, hb, hml, hown, hts⟩ (k_J6_bitCount_0f7a4 l D cI cS x0) hKK (hP.sub (ws' := []) [] rfl) (va_cwS 1 hts gX10_isCritical_J6_bitCount_0f7a4 rfl rfl rfl (by decide +kernel) ⟨Nat.le_of_ble_eq_true rfl, Nat.le_of_ble_eq_true rfl⟩) rfl hl.1 rfl (Nat.le_of_ble_eq_true rfl) dX10_isCritical_1 ⟨Nat.le_of_ble_eq_true rfl, Nat.le_of_ble_eq_true rfl⟩ (fun r37881 hr37881 => ?_)
  refine lv_istore_n (lv' := [(2, .int r37881), (0, .ref (a 18)), (1, .int x0)]) hx hb dX10_isCritical_4 rfl hl (by decide) rfl (fun ls hl => ?_)
  refine lv_iload_n hx hb dX10_isCritical_5 rfl (lv_at hl 0 rfl) ?_
  refine lv_iconst (v := 1) hx hb dX10_isCritical_6 (by decide) ?_
  refine wk_iandr hx hb dX10_isCritical_7 (by decide : Rg 1 1 (1 : Int32)) (by decide) (fun r37882 hr37882 qr37882 => ?_)
  refine lv_if_ne (tgt := 13) hx hb dX10_isCritical_8 (by decide) (fun c37883 => ?_) (fun c37883 => ?_)
  · have g37884 : Rg 1 1 r37882 := rg_ne_lo (k := 0) hr37882 (by decide) c37883 (by decide)
    refine lv_iconst (v := 0) hx hb dX10_isCritical_13 (by decide) ?_
    refine lv_istore_n (lv' := [(3, .int 0), (2, .int r37881), (0, .ref (a 18)), (1, .int x0)]) hx hb dX10_isCritical_14 rfl hl (by decide) rfl (fun ls hl => ?_)
    exact lp15 13 r37881 (0 : Int32) u _ _ ls (by decide : Rg 0 12 (0 : Int32)) hP hD hS (lv_sub (l' := [(0, .ref (a 18)), (1, .int x0), (2, .int r37881), (3, .int 0)]) hl [2, 3, 1, 0] rfl) (me_i (by decide : Rg 0 12 (0 : Int32)) (by decide))
  · have g37885 : Rg 0 0 r37882 := wk_eql hr37882 (by decide : Rg 0 0 (0 : Int32)) c37883 (by decide)
    refine lv_iconst (v := 0) hx hb dX10_isCritical_11 (by decide) ?_
    subst hAe
    exact W.zret (v := 0) hx hb hr (by decide) (fun t ht hW => ⟨⟨_, u, rfl, ⟨(by decide : Rg 0 1 (0 : Int32)), trivial⟩, by rw [ht]; exact hP, hD⟩, hS.F ht⟩) hS.2.2 dX10_isCritical_12
set_option maxRecDepth 20000 in
theorem ggX10_nextEar_J6_bitCount_0f7a4 : GoodIn wsX10_nextEar wsJ6_bitCount_0f7a4 := goodIn_r _ [5, 6, 7, 8] (by decide +kernel) (by decide +kernel)
set_option maxRecDepth 20000 in
theorem gX10_nextEar_J6_bitCount_0f7a4 : GoodIn wsX10_nextEar (va_wsS RX10 40 yJ6_bitCount_0f7a4 wsJ6_bitCount_0f7a4) := goodIn_app (goodIn_of _ (by decide +kernel)) ggX10_nextEar_J6_bitCount_0f7a4
set_option maxRecDepth 20000 in
theorem ggX10_nextEar_X10_isCritical : GoodIn wsX10_nextEar wsX10_isCritical := goodIn_r _ [55, 56, 1, 2, 3, 4, 5, 6, 7, 8, 57, 15, 16, 12, 17, 18, 19, 20, 21, 22, 23, 24, 25, 26, 27, 28, 29, 30, 31, 32, 33, 34, 35, 36, 37, 38, 39, 40, 41, 42, 43, 44, 45, 46, 47, 48, 49, 50, 58, 59, 60, 61, 62, 63, 64, 65, 70, 71, 72, 66, 67, 68, 69, 73, 74] (by decide +kernel) (by decide +kernel)
set_option maxRecDepth 20000 in
theorem gX10_nextEar_X10_isCritical : GoodIn wsX10_nextEar (wsV RX10 89 RX10 yX10_isCritical wsX10_isCritical) := goodIn_app (goodIn_of _ (by decide +kernel)) ggX10_nextEar_X10_isCritical
set_option maxRecDepth 20000 in
theorem ggX10_nextEar_X3_isWhole : GoodIn wsX10_nextEar wsX3_isWhole := goodIn_r _ [13, 14, 15, 16, 12, 17, 18, 19, 20, 21, 22, 23, 24, 25, 26, 27, 28, 29, 30, 31, 32, 33, 34, 35, 36, 37, 38, 4, 39, 40, 41, 42, 43, 44, 45, 46, 3, 5, 6, 7, 8, 47, 48, 49, 50, 66, 67, 68, 69, 70, 71, 72, 73, 74] (by decide +kernel) (by decide +kernel)
set_option maxRecDepth 20000 in
theorem gX10_nextEar_X3_isWhole : GoodIn wsX10_nextEar (wsV RX10 85 RX3 yX3_isWhole wsX3_isWhole) := goodIn_app (goodIn_of _ (by decide +kernel)) ggX10_nextEar_X3_isWhole
theorem dX10_nextEar_0 : decode cX10_nextEar 0 = .ok (.iconst 0, 1) := by decide +kernel
theorem dX10_nextEar_1 : decode cX10_nextEar 1 = .ok (.istore_n 3, 1) := by decide +kernel
theorem dX10_nextEar_10 : decode cX10_nextEar 10 = .ok (.istore 6, 2) := by decide +kernel
theorem dX10_nextEar_12 : decode cX10_nextEar 12 = .ok (.iload 6, 2) := by decide +kernel
theorem dX10_nextEar_14 : decode cX10_nextEar 14 = .ok (.sipush 4096, 3) := by decide +kernel
theorem dX10_nextEar_17 : decode cX10_nextEar 17 = .ok (.if_icmp .ge 77, 3) := by decide +kernel
theorem dX10_nextEar_2 : decode cX10_nextEar 2 = .ok (.bipush 13, 2) := by decide +kernel
theorem dX10_nextEar_20 : decode cX10_nextEar 20 = .ok (.iload 5, 2) := by decide +kernel
theorem dX10_nextEar_22 : decode cX10_nextEar 22 = .ok (.iload_n 2, 1) := by decide +kernel
theorem dX10_nextEar_23 : decode cX10_nextEar 23 = .ok (.if_icmp .eq 71, 3) := by decide +kernel
theorem dX10_nextEar_26 : decode cX10_nextEar 26 = .ok (.iload 5, 2) := by decide +kernel
theorem dX10_nextEar_28 : decode cX10_nextEar 28 = .ok (.iload_n 2, 1) := by decide +kernel
theorem dX10_nextEar_29 : decode cX10_nextEar 29 = .ok (.isub, 1) := by decide +kernel
theorem dX10_nextEar_30 : decode cX10_nextEar 30 = .ok (.iload_n 2, 1) := by decide +kernel
theorem dX10_nextEar_31 : decode cX10_nextEar 31 = .ok (.iand, 1) := by decide +kernel
theorem dX10_nextEar_32 : decode cX10_nextEar 32 = .ok (.istore 5, 2) := by decide +kernel
theorem dX10_nextEar_34 : decode cX10_nextEar 34 = .ok (.iload 5, 2) := by decide +kernel
theorem dX10_nextEar_36 : decode cX10_nextEar 36 = .ok (.invokestatic 40, 3) := by decide +kernel
theorem dX10_nextEar_39 : decode cX10_nextEar 39 = .ok (.istore 7, 2) := by decide +kernel
theorem dX10_nextEar_4 : decode cX10_nextEar 4 = .ok (.istore 4, 2) := by decide +kernel
theorem dX10_nextEar_41 : decode cX10_nextEar 41 = .ok (.iload 7, 2) := by decide +kernel
theorem dX10_nextEar_43 : decode cX10_nextEar 43 = .ok (.iconst 2, 1) := by decide +kernel
theorem dX10_nextEar_44 : decode cX10_nextEar 44 = .ok (.if_icmp .lt 44, 3) := by decide +kernel
theorem dX10_nextEar_47 : decode cX10_nextEar 47 = .ok (.iload 7, 2) := by decide +kernel
theorem dX10_nextEar_49 : decode cX10_nextEar 49 = .ok (.iload 4, 2) := by decide +kernel
theorem dX10_nextEar_51 : decode cX10_nextEar 51 = .ok (.if_icmp .ge 37, 3) := by decide +kernel
theorem dX10_nextEar_54 : decode cX10_nextEar 54 = .ok (.aload_n 0, 1) := by decide +kernel
theorem dX10_nextEar_55 : decode cX10_nextEar 55 = .ok (.getfield 23, 3) := by decide +kernel
theorem dX10_nextEar_58 : decode cX10_nextEar 58 = .ok (.iload_n 2, 1) := by decide +kernel
theorem dX10_nextEar_59 : decode cX10_nextEar 59 = .ok (.iload 5, 2) := by decide +kernel
theorem dX10_nextEar_6 : decode cX10_nextEar 6 = .ok (.iconst 0, 1) := by decide +kernel
theorem dX10_nextEar_61 : decode cX10_nextEar 61 = .ok (.iconst (-1), 1) := by decide +kernel
theorem dX10_nextEar_62 : decode cX10_nextEar 62 = .ok (.ixor, 1) := by decide +kernel
theorem dX10_nextEar_63 : decode cX10_nextEar 63 = .ok (.iand, 1) := by decide +kernel
theorem dX10_nextEar_64 : decode cX10_nextEar 64 = .ok (.invokevirtual 85, 3) := by decide +kernel
theorem dX10_nextEar_67 : decode cX10_nextEar 67 = .ok (.ifCond .eq 21, 3) := by decide +kernel
theorem dX10_nextEar_7 : decode cX10_nextEar 7 = .ok (.istore 5, 2) := by decide +kernel
theorem dX10_nextEar_70 : decode cX10_nextEar 70 = .ok (.aload_n 0, 1) := by decide +kernel
theorem dX10_nextEar_71 : decode cX10_nextEar 71 = .ok (.iload_n 1, 1) := by decide +kernel
theorem dX10_nextEar_72 : decode cX10_nextEar 72 = .ok (.iload 5, 2) := by decide +kernel
theorem dX10_nextEar_74 : decode cX10_nextEar 74 = .ok (.ior, 1) := by decide +kernel
theorem dX10_nextEar_75 : decode cX10_nextEar 75 = .ok (.invokevirtual 89, 3) := by decide +kernel
theorem dX10_nextEar_78 : decode cX10_nextEar 78 = .ok (.ifCond .eq 10, 3) := by decide +kernel
theorem dX10_nextEar_81 : decode cX10_nextEar 81 = .ok (.iload 5, 2) := by decide +kernel
theorem dX10_nextEar_83 : decode cX10_nextEar 83 = .ok (.istore_n 3, 1) := by decide +kernel
theorem dX10_nextEar_84 : decode cX10_nextEar 84 = .ok (.iload 7, 2) := by decide +kernel
theorem dX10_nextEar_86 : decode cX10_nextEar 86 = .ok (.istore 4, 2) := by decide +kernel
theorem dX10_nextEar_88 : decode cX10_nextEar 88 = .ok (.iinc 6 1, 3) := by decide +kernel
theorem dX10_nextEar_9 : decode cX10_nextEar 9 = .ok (.iconst 0, 1) := by decide +kernel
theorem dX10_nextEar_91 : decode cX10_nextEar 91 = .ok (.goto (-79), 3) := by decide +kernel
theorem dX10_nextEar_94 : decode cX10_nextEar 94 = .ok (.iload_n 3, 1) := by decide +kernel
theorem dX10_nextEar_95 : decode cX10_nextEar 95 = .ok (.ireturn, 1) := by decide +kernel
set_option maxHeartbeats 4000000 in
set_option maxRecDepth 100000 in
theorem k_X10_nextEar (l : Launch) (D : va_G) (cI cS : ClassId) (sz : Nat) (a : Nat → Nat) (na nc N : Nat) (L u0 : SU) (hL : TyX L) (hN : N = 0 ∨ N = 24576) (x0 x1 : Int32) : Met l yX10_nextEar wsX10_nextEar ({ frames := 17, cells := 0, slots := 0, locals := 680 }) (PQ D cI cS (wX cI cS a na nc N L u0) sz [.ref (a 18), .int x0, .int x1]) (QF (S := SU) D (wX cI cS a na nc N L u0) (wX cI cS a na nc N L) sz (fun r _ => Rg (-2147483648) 2147483647 r ∧ True)) 0 0 (va_A (wX cI cS a na nc N L u0) sz) := by
  refine Met.ofW (cc := cX10_nextEar) (maxL := 8) (ret := (some .int)) (by decide) rfl ?_
  intro p e s m args below meth c s₁ B hml hv
  obtain ⟨rfl, hsz, hP, hKK, hD0⟩ := hv
  have hx := B.exec
  have hb := B.bytes
  have hr := B.returns
  have hts := atoms_spec (ws := wsX10_nextEar) B.pre
  have hown : s.vm.findClass RX10 = some m.cls := findClass_of_methodNamed B.named
  have hlocks := B.notSynchronized
  have hK := hKK.1
  have hin10 : ∀ w ∈ wsX100, w ∈ wsX10_nextEar := by decide +kernel
  subst hsz
  have hD := hD0.self (sz := s.heap.size)
  obtain ⟨A, hAe⟩ : ∃ A, A = va_A (wX cI cS a na nc N L u0) s.heap.size := ⟨_, rfl⟩
  rw [← hAe] at hD
  have hA : ∀ q : Nat, s.heap.size ≤ q → A q := fun q h => by rw [hAe]; exact Or.inr h
  have hS : va_S A s.heap s.heap [] := va_S.rf
  have hl := lv_entry ([.ref (a 18), .int x0, .int x1]) (n := 8) (Nat.le_of_ble_eq_true rfl)
  rw [lg_entry_eq]
  generalize (lg_sl ([.ref (a 18), .int x0, .int x1]) ++ List.replicate (8 - (lg_sl ([.ref (a 18), .int x0, .int x1])).length) Slot.unset).toArray = ls at hl ⊢
  have hl : lv_has ls 8 [(0, .ref (a 18)), (1, .int x0), (2, .int x1)] := hl
  obtain ⟨u, hu9⟩ : ∃ u : SU, u = u0 := ⟨_, rfl⟩
  rw [← hu9] at hP hD
  have lp12 : ∀ (n12 : Nat) (y12_l3 : Int32) (y12_l4 : Int32) (y12_l5 : Int32) (y12_l6 : Int32) (u : SU) (H : Heap) (locs : List Loc) (ls : Array Slot), Rg 2 13 y12_l4 → Rg 0 4096 y12_l6 → va_P D cls (wX cI cS a na nc N L u) H → va_D A (wX cI cS a na nc N L u) → va_S A s.heap H locs → lv_has ls 8 [(0, .ref (a 18)), (1, .int x0), (2, .int x1), (3, .int y12_l3), (4, .int y12_l4), (5, .int y12_l5), (6, .int y12_l6)] → 4096 - y12_l6.toInt < (n12 : Int) → W p l e (headSpec wsX10_nextEar ({ frames := 17, cells := 0, slots := 0, locals := 680 })).room s m ([.ref (a 18), .int x0, .int x1]).toArray below meth c H locs 0 0 (MQ below (QF (S := SU) D (wX cI cS a na nc N L u0) (wX cI cS a na nc N L) s.heap.size (fun r _ => Rg (-2147483648) 2147483647 r ∧ True)) ([.ref (a 18), .int x0, .int x1]).toArray s 0 0 (va_A (wX cI cS a na nc N L u0) s.heap.size)) (F0 m 12 ls []) := by
    intro n12
    induction n12 with
    | zero =>
      intro y12_l3 y12_l4 y12_l5 y12_l6 u H locs ls g12_l4 g12_l6 hP hD hS hl hm12
      exact absurd rfl (me_z g12_l6 hm12)
    | succ n12 ih12 =>
      intro y12_l3 y12_l4 y12_l5 y12_l6 u H locs ls g12_l4 g12_l6 hP hD hS hl hm12
      refine lv_iload hx hb dX10_nextEar_12 (lv_at hl 6 rfl) ?_
      refine lv_sipush (v := 4096) hx hb dX10_nextEar_14 (by decide) ?_
      refine lv_icmp_ge (tgt := 94) hx hb dX10_nextEar_17 (by decide) (fun c38472 => ?_) (fun c38472 => ?_)
      · have g38473 : Rg 4096 4096 y12_l6 := rg_ler (by decide : Rg 4096 4096 (4096 : Int32)) g12_l6 c38472 (by decide)
        refine lv_iload_n hx hb dX10_nextEar_94 rfl (lv_at hl 3 rfl) ?_
        subst hAe
        exact W.iret (v := y12_l3) hx hb hr (fun t ht hW => ⟨⟨_, u, rfl, ⟨(rg_any y12_l3), trivial⟩, by rw [ht]; exact hP, hD⟩, hS.F ht⟩) hS.2.2 dX10_nextEar_95
      · have g38474 : Rg 0 4095 y12_l6 := rg_ltl g12_l6 (by decide : Rg 4096 4096 (4096 : Int32)) (rg_nle c38472) (by decide)
        refine lv_iload hx hb dX10_nextEar_20 (lv_at hl 5 rfl) ?_
        refine lv_iload_n hx hb dX10_nextEar_22 rfl (lv_at hl 2 rfl) ?_
        refine lv_icmp_eq (tgt := 94) hx hb dX10_nextEar_23 (by decide) (fun c38475 => ?_) (fun c38475 => ?_)
        · refine lv_iload_n hx hb dX10_nextEar_94 rfl (lv_at hl 3 rfl) ?_
          subst hAe
          exact W.iret (v := y12_l3) hx hb hr (fun t ht hW => ⟨⟨_, u, rfl, ⟨(rg_any y12_l3), trivial⟩, by rw [ht]; exact hP, hD⟩, hS.F ht⟩) hS.2.2 dX10_nextEar_95
        · refine lv_iload hx hb dX10_nextEar_26 (lv_at hl 5 rfl) ?_
          refine lv_iload_n hx hb dX10_nextEar_28 rfl (lv_at hl 2 rfl) ?_
          refine lv_isub hx hb dX10_nextEar_29 ?_
          refine wk_topP (P := fun r => r = y12_l5 - x1) rfl (fun r38476 qr38476 => ?_)
          refine lv_iload_n hx hb dX10_nextEar_30 rfl (lv_at hl 2 rfl) ?_
          refine lv_iand hx hb dX10_nextEar_31 ?_
          refine wk_topP (P := fun r => r = r38476 &&& x1) rfl (fun r38477 qr38477 => ?_)
          refine lv_istore (lv' := [(5, .int r38477), (0, .ref (a 18)), (1, .int x0), (2, .int x1), (3, .int y12_l3), (4, .int y12_l4), (6, .int y12_l6)]) hx hb dX10_nextEar_32 hl (by decide) rfl (fun ls hl => ?_)
          refine lv_iload hx hb dX10_nextEar_34 (lv_at hl 0 rfl) ?_
          refine lz_ss (As := [.int r38477]) (rest := []) ⟨hx, hb, hml, hown, hts⟩ (k_J6_bitCount_0f7a4 l D cI cS r38477) hKK (hP.sub (ws' := []) [] rfl) (va_cwS 1 hts gX10_nextEar_J6_bitCount_0f7a4 rfl rfl rfl (by decide +kernel) ⟨Nat.le_of_ble_eq_true rfl, Nat.le_of_ble_eq_true rfl⟩) rfl hl.1 rfl (Nat.le_of_ble_eq_true rfl) dX10_nextEar_36 ⟨Nat.le_of_ble_eq_true rfl, Nat.le_of_ble_eq_true rfl⟩ (fun r38478 hr38478 => ?_)
          refine lv_istore (lv' := [(7, .int r38478), (5, .int r38477), (0, .ref (a 18)), (1, .int x0), (2, .int x1), (3, .int y12_l3), (4, .int y12_l4), (6, .int y12_l6)]) hx hb dX10_nextEar_39 hl (by decide) rfl (fun ls hl => ?_)
          refine lv_iload hx hb dX10_nextEar_41 (lv_at hl 0 rfl) ?_
          refine lv_iconst (v := 2) hx hb dX10_nextEar_43 (by decide) ?_
          refine lv_icmp_lt (tgt := 88) hx hb dX10_nextEar_44 (by decide) (fun c38479 => ?_) (fun c38479 => ?_)
          · have g38480 : Rg (-2147483648) 1 r38478 := rg_ltl hr38478.1 (by decide : Rg 2 2 (2 : Int32)) c38479 (by decide)
            refine wk_iinc (lv' := fun r => [(6, .int r), (7, .int r38478), (5, .int r38477), (0, .ref (a 18)), (1, .int x0), (2, .int x1), (3, .int y12_l3), (4, .int y12_l4)]) (e1 := 1) (f := 4096) hx hb dX10_nextEar_88 hl (k := 7) rfl (by decide) g38474 (by decide) (fun _ => rfl) (fun r38481 ls hr38481 er38481 hl => ?_)
            refine lv_goto (tgt := 12) hx hb dX10_nextEar_91 (by decide) ?_
            exact ih12 y12_l3 y12_l4 r38477 r38481 u _ _ ls g12_l4 (show Rg 0 4096 r38481 from rg_w hr38481 (by decide) (by decide)) hP hD hS (lv_sub (l' := [(0, .ref (a 18)), (1, .int x0), (2, .int x1), (3, .int y12_l3), (4, .int y12_l4), (5, .int r38477), (6, .int r38481)]) hl [3, 4, 5, 6, 7, 2, 0] rfl) (me_up hm12 er38481 (by decide))
          · have g38482 : Rg 2 2147483647 r38478 := rg_ler (by decide : Rg 2 2 (2 : Int32)) hr38478.1 (rg_nlt c38479) (by decide)
            refine lv_iload hx hb dX10_nextEar_47 (lv_at hl 0 rfl) ?_
            refine lv_iload hx hb dX10_nextEar_49 (lv_at hl 6 rfl) ?_
            refine lv_icmp_ge (tgt := 88) hx hb dX10_nextEar_51 (by decide) (fun c38483 => ?_) (fun c38483 => ?_)
            · refine wk_iinc (lv' := fun r => [(6, .int r), (7, .int r38478), (5, .int r38477), (0, .ref (a 18)), (1, .int x0), (2, .int x1), (3, .int y12_l3), (4, .int y12_l4)]) (e1 := 1) (f := 4096) hx hb dX10_nextEar_88 hl (k := 7) rfl (by decide) g38474 (by decide) (fun _ => rfl) (fun r38484 ls hr38484 er38484 hl => ?_)
              refine lv_goto (tgt := 12) hx hb dX10_nextEar_91 (by decide) ?_
              exact ih12 y12_l3 y12_l4 r38477 r38484 u _ _ ls g12_l4 (show Rg 0 4096 r38484 from rg_w hr38484 (by decide) (by decide)) hP hD hS (lv_sub (l' := [(0, .ref (a 18)), (1, .int x0), (2, .int x1), (3, .int y12_l3), (4, .int y12_l4), (5, .int r38477), (6, .int r38484)]) hl [3, 4, 5, 6, 7, 2, 0] rfl) (me_up hm12 er38484 (by decide))
            · have g38485 : Rg 3 13 y12_l4 := rg_ltr g38482 g12_l4 (rg_nle c38483) (by decide)
              have g38486 : Rg 2 12 r38478 := rg_ltl g38482 g12_l4 (rg_nle c38483) (by decide)
              refine lv_aload_n hx hb dX10_nextEar_54 rfl (lv_at hl 2 rfl) ?_
              refine va_get (D := D) (ci := 10) (v := .ref (a 7)) (C := RX10) (T := TX10) (N := 8) hx hb hts hin10 hown hK hP 18 rfl rfl 1 (by decide) (hts (.fieldLink RX10 23 "MissedPoints$Witness" "pairs" "LMissedPoints$Pairs;") (by decide +kernel)) (fun _ h9 => h9) rfl dX10_nextEar_55 ?_
              refine lv_iload_n hx hb dX10_nextEar_58 rfl (lv_at hl 4 rfl) ?_
              refine lv_iload hx hb dX10_nextEar_59 (lv_at hl 1 rfl) ?_
              refine lv_iconst (v := (-1)) hx hb dX10_nextEar_61 (by decide) ?_
              refine lv_ixor hx hb dX10_nextEar_62 ?_
              refine wk_topP (P := fun r => r = r38477 ^^^ ((-1) : Int32)) rfl (fun r38487 qr38487 => ?_)
              refine lv_iand hx hb dX10_nextEar_63 ?_
              refine wk_topP (P := fun r => r = x1 &&& r38487) rfl (fun r38488 qr38488 => ?_)
              refine wk_qi (wX cI cS a na nc N L) u (As := [.int r38488]) (rest := []) ⟨hx, hb, hml, hown, hts⟩ (k_X3_isWhole l D cI cS _ a na nc N L u hL hN r38488) hKK hP hD hS hA 7 (ci := 3) rfl rfl (cwV 1 hts gX10_nextEar_X3_isWhole rfl rfl rfl (by decide +kernel) ⟨Nat.le_of_ble_eq_true rfl, Nat.le_of_ble_eq_true rfl⟩) rfl hl.1 rfl (Nat.le_of_ble_eq_true rfl) dX10_nextEar_64 ⟨Nat.le_of_ble_eq_true rfl, Nat.le_of_ble_eq_true rfl⟩ (fun r38489 u H locs hr38489 hP hD hS => ?_)
              refine lv_if_eq (tgt := 88) hx hb dX10_nextEar_67 (by decide) (fun c38490 => ?_) (fun c38490 => ?_)
              · have g38491 : Rg 0 0 r38489 := wk_eql hr38489.1 (by decide : Rg 0 0 (0 : Int32)) c38490 (by decide)
                refine wk_iinc (lv' := fun r => [(6, .int r), (7, .int r38478), (5, .int r38477), (0, .ref (a 18)), (1, .int x0), (2, .int x1), (3, .int y12_l3), (4, .int y12_l4)]) (e1 := 1) (f := 4096) hx hb dX10_nextEar_88 hl (k := 7) rfl (by decide) g38474 (by decide) (fun _ => rfl) (fun r38492 ls hr38492 er38492 hl => ?_)
                refine lv_goto (tgt := 12) hx hb dX10_nextEar_91 (by decide) ?_
                exact ih12 y12_l3 y12_l4 r38477 r38492 u _ _ ls (show Rg 2 13 y12_l4 from rg_w g38485 (by decide) (by decide)) (show Rg 0 4096 r38492 from rg_w hr38492 (by decide) (by decide)) hP hD hS (lv_sub (l' := [(0, .ref (a 18)), (1, .int x0), (2, .int x1), (3, .int y12_l3), (4, .int y12_l4), (5, .int r38477), (6, .int r38492)]) hl [3, 4, 5, 6, 7, 2, 0] rfl) (me_up hm12 er38492 (by decide))
              · have g38493 : Rg 1 1 r38489 := rg_ne_lo (k := 0) hr38489.1 (by decide) c38490 (by decide)
                refine lv_aload_n hx hb dX10_nextEar_70 rfl (lv_at hl 2 rfl) ?_
                refine lv_iload_n hx hb dX10_nextEar_71 rfl (lv_at hl 3 rfl) ?_
                refine lv_iload hx hb dX10_nextEar_72 (lv_at hl 1 rfl) ?_
                refine lv_ior hx hb dX10_nextEar_74 ?_
                refine wk_topP (P := fun r => r = x0 ||| r38477) rfl (fun r38494 qr38494 => ?_)
                refine wk_qi (wX cI cS a na nc N L) u (As := [.int r38494]) (rest := []) ⟨hx, hb, hml, hown, hts⟩ (k_X10_isCritical l D cI cS _ a na nc N L u hL hN r38494) hKK hP hD hS hA 18 (ci := 10) rfl rfl (cwV 1 hts gX10_nextEar_X10_isCritical rfl rfl rfl (by decide +kernel) ⟨Nat.le_of_ble_eq_true rfl, Nat.le_of_ble_eq_true rfl⟩) rfl hl.1 rfl (Nat.le_of_ble_eq_true rfl) dX10_nextEar_75 ⟨Nat.le_of_ble_eq_true rfl, Nat.le_of_ble_eq_true rfl⟩ (fun r38495 u H locs hr38495 hP hD hS => ?_)
                refine lv_if_eq (tgt := 88) hx hb dX10_nextEar_78 (by decide) (fun c38496 => ?_) (fun c38496 => ?_)
                · have g38497 : Rg 0 0 r38495 := wk_eql hr38495.1 (by decide : Rg 0 0 (0 : Int32)) c38496 (by decide)
                  refine wk_iinc (lv' := fun r => [(6, .int r), (7, .int r38478), (5, .int r38477), (0, .ref (a 18)), (1, .int x0), (2, .int x1), (3, .int y12_l3), (4, .int y12_l4)]) (e1 := 1) (f := 4096) hx hb dX10_nextEar_88 hl (k := 7) rfl (by decide) g38474 (by decide) (fun _ => rfl) (fun r38498 ls hr38498 er38498 hl => ?_)
                  refine lv_goto (tgt := 12) hx hb dX10_nextEar_91 (by decide) ?_
                  exact ih12 y12_l3 y12_l4 r38477 r38498 u _ _ ls (show Rg 2 13 y12_l4 from rg_w g38485 (by decide) (by decide)) (show Rg 0 4096 r38498 from rg_w hr38498 (by decide) (by decide)) hP hD hS (lv_sub (l' := [(0, .ref (a 18)), (1, .int x0), (2, .int x1), (3, .int y12_l3), (4, .int y12_l4), (5, .int r38477), (6, .int r38498)]) hl [3, 4, 5, 6, 7, 2, 0] rfl) (me_up hm12 er38498 (by decide))
                · have g38499 : Rg 1 1 r38495 := rg_ne_lo (k := 0) hr38495.1 (by decide) c38496 (by decide)
                  refine lv_iload hx hb dX10_nextEar_81 (lv_at hl 1 rfl) ?_
                  refine lv_istore_n (lv' := [(3, .int r38477), (7, .int r38478), (5, .int r38477), (0, .ref (a 18)), (1, .int x0), (2, .int x1), (4, .int y12_l4), (6, .int y12_l6)]) hx hb dX10_nextEar_83 rfl hl (by decide) rfl (fun ls hl => ?_)
                  refine lv_iload hx hb dX10_nextEar_84 (lv_at hl 1 rfl) ?_
                  refine lv_istore (lv' := [(4, .int r38478), (3, .int r38477), (7, .int r38478), (5, .int r38477), (0, .ref (a 18)), (1, .int x0), (2, .int x1), (6, .int y12_l6)]) hx hb dX10_nextEar_86 hl (by decide) rfl (fun ls hl => ?_)
                  refine wk_iinc (lv' := fun r => [(6, .int r), (4, .int r38478), (3, .int r38477), (7, .int r38478), (5, .int r38477), (0, .ref (a 18)), (1, .int x0), (2, .int x1)]) (e1 := 1) (f := 4096) hx hb dX10_nextEar_88 hl (k := 7) rfl (by decide) g38474 (by decide) (fun _ => rfl) (fun r38500 ls hr38500 er38500 hl => ?_)
                  refine lv_goto (tgt := 12) hx hb dX10_nextEar_91 (by decide) ?_
                  exact ih12 r38477 r38478 r38477 r38500 u _ _ ls (show Rg 2 13 r38478 from rg_w g38486 (by decide) (by decide)) (show Rg 0 4096 r38500 from rg_w hr38500 (by decide) (by decide)) hP hD hS (lv_sub (l' := [(0, .ref (a 18)), (1, .int x0), (2, .int x1), (3, .int r38477), (4, .int r38478), (5, .int r38477), (6, .int r38500)]) hl [5, 6, 7, 2, 1, 4, 0] rfl) (me_up hm12 er38500 (by decide))
  refine lv_iconst (v := 0) hx hb dX10_nextEar_0 (by decide) ?_
  refine lv_istore_n (lv' := [(3, .int 0), (0, .ref (a 18)), (1, .int x0), (2, .int x1)]) hx hb dX10_nextEar_1 rfl hl (by decide) rfl (fun ls hl => ?_)
  refine lv_bipush (v := 13) hx hb dX10_nextEar_2 (by decide) ?_
  refine lv_istore (lv' := [(4, .int 13), (3, .int 0), (0, .ref (a 18)), (1, .int x0), (2, .int x1)]) hx hb dX10_nextEar_4 hl (by decide) rfl (fun ls hl => ?_)
  refine lv_iconst (v := 0) hx hb dX10_nextEar_6 (by decide) ?_
  refine lv_istore (lv' := [(5, .int 0), (4, .int 13), (3, .int 0), (0, .ref (a 18)), (1, .int x0), (2, .int x1)]) hx hb dX10_nextEar_7 hl (by decide) rfl (fun ls hl => ?_)
  refine lv_iconst (v := 0) hx hb dX10_nextEar_9 (by decide) ?_
  refine lv_istore (lv' := [(6, .int 0), (5, .int 0), (4, .int 13), (3, .int 0), (0, .ref (a 18)), (1, .int x0), (2, .int x1)]) hx hb dX10_nextEar_10 hl (by decide) rfl (fun ls hl => ?_)
  exact lp12 4097 (0 : Int32) (13 : Int32) (0 : Int32) (0 : Int32) u _ _ ls (by decide : Rg 2 13 (13 : Int32)) (by decide : Rg 0 4096 (0 : Int32)) hP hD hS (lv_sub (l' := [(0, .ref (a 18)), (1, .int x0), (2, .int x1), (3, .int 0), (4, .int 13), (5, .int 0), (6, .int 0)]) hl [4, 5, 6, 3, 2, 1, 0] rfl) (me_i (by decide : Rg 0 4096 (0 : Int32)) (by decide))
set_option maxRecDepth 20000 in
theorem ggX10_seekEars_J6_lowestOneBit_0f7a4 : GoodIn wsX10_seekEars wsJ6_lowestOneBit_0f7a4 := goodIn_r _ [6] (by decide +kernel) (by decide +kernel)
set_option maxRecDepth 20000 in
theorem gX10_seekEars_J6_lowestOneBit_0f7a4 : GoodIn wsX10_seekEars (va_wsS RX10 75 yJ6_lowestOneBit_0f7a4 wsJ6_lowestOneBit_0f7a4) := goodIn_app (goodIn_of _ (by decide +kernel)) ggX10_seekEars_J6_lowestOneBit_0f7a4
set_option maxRecDepth 20000 in
theorem ggX10_seekEars_X10_nextEar : GoodIn wsX10_seekEars wsX10_nextEar := goodIn_r _ [11, 12, 13, 14, 5, 15, 16, 17, 18, 19, 20, 21, 22, 23, 24, 25, 26, 27, 28, 29, 30, 31, 32, 33, 34, 35, 36, 37, 38, 39, 40, 41, 42, 43, 44, 45, 46, 47, 48, 49, 50, 51, 52, 53, 54, 55, 56, 57, 58, 59, 60, 61, 62, 63, 10, 64, 65, 66, 67, 68, 69, 70, 71, 72, 73, 74, 75, 76, 77, 78, 79, 80, 81, 82, 83] (by decide +kernel) (by decide +kernel)
set_option maxRecDepth 20000 in
theorem gX10_seekEars_X10_nextEar : GoodIn wsX10_seekEars (wsV RX10 81 RX10 yX10_nextEar wsX10_nextEar) := goodIn_app (goodIn_of _ (by decide +kernel)) ggX10_seekEars_X10_nextEar
theorem dX10_seekEars_0 : decode cX10_seekEars 0 = .ok (.iload_n 1, 1) := by decide +kernel
theorem dX10_seekEars_1 : decode cX10_seekEars 1 = .ok (.invokestatic 75, 3) := by decide +kernel
theorem dX10_seekEars_10 : decode cX10_seekEars 10 = .ok (.iconst 0, 1) := by decide +kernel
theorem dX10_seekEars_11 : decode cX10_seekEars 11 = .ok (.istore_n 3, 1) := by decide +kernel
theorem dX10_seekEars_12 : decode cX10_seekEars 12 = .ok (.iload_n 3, 1) := by decide +kernel
theorem dX10_seekEars_13 : decode cX10_seekEars 13 = .ok (.iconst 5, 1) := by decide +kernel
theorem dX10_seekEars_14 : decode cX10_seekEars 14 = .ok (.if_icmp .ge 55, 3) := by decide +kernel
theorem dX10_seekEars_17 : decode cX10_seekEars 17 = .ok (.iload_n 2, 1) := by decide +kernel
theorem dX10_seekEars_18 : decode cX10_seekEars 18 = .ok (.iload_n 1, 1) := by decide +kernel
theorem dX10_seekEars_19 : decode cX10_seekEars 19 = .ok (.if_icmp .eq 50, 3) := by decide +kernel
theorem dX10_seekEars_22 : decode cX10_seekEars 22 = .ok (.aload_n 0, 1) := by decide +kernel
theorem dX10_seekEars_23 : decode cX10_seekEars 23 = .ok (.iload_n 2, 1) := by decide +kernel
theorem dX10_seekEars_24 : decode cX10_seekEars 24 = .ok (.iload_n 1, 1) := by decide +kernel
theorem dX10_seekEars_25 : decode cX10_seekEars 25 = .ok (.iload_n 2, 1) := by decide +kernel
theorem dX10_seekEars_26 : decode cX10_seekEars 26 = .ok (.iconst (-1), 1) := by decide +kernel
theorem dX10_seekEars_27 : decode cX10_seekEars 27 = .ok (.ixor, 1) := by decide +kernel
theorem dX10_seekEars_28 : decode cX10_seekEars 28 = .ok (.iand, 1) := by decide +kernel
theorem dX10_seekEars_29 : decode cX10_seekEars 29 = .ok (.invokevirtual 81, 3) := by decide +kernel
theorem dX10_seekEars_32 : decode cX10_seekEars 32 = .ok (.istore 4, 2) := by decide +kernel
theorem dX10_seekEars_34 : decode cX10_seekEars 34 = .ok (.iload 4, 2) := by decide +kernel
theorem dX10_seekEars_36 : decode cX10_seekEars 36 = .ok (.ifCond .ne 4, 3) := by decide +kernel
theorem dX10_seekEars_39 : decode cX10_seekEars 39 = .ok (.return_, 1) := by decide +kernel
theorem dX10_seekEars_4 : decode cX10_seekEars 4 = .ok (.istore_n 2, 1) := by decide +kernel
theorem dX10_seekEars_40 : decode cX10_seekEars 40 = .ok (.aload_n 0, 1) := by decide +kernel
theorem dX10_seekEars_41 : decode cX10_seekEars 41 = .ok (.getfield 11, 3) := by decide +kernel
theorem dX10_seekEars_44 : decode cX10_seekEars 44 = .ok (.iload_n 3, 1) := by decide +kernel
theorem dX10_seekEars_45 : decode cX10_seekEars 45 = .ok (.iload 4, 2) := by decide +kernel
theorem dX10_seekEars_47 : decode cX10_seekEars 47 = .ok (.iastore, 1) := by decide +kernel
theorem dX10_seekEars_48 : decode cX10_seekEars 48 = .ok (.aload_n 0, 1) := by decide +kernel
theorem dX10_seekEars_49 : decode cX10_seekEars 49 = .ok (.dup, 1) := by decide +kernel
theorem dX10_seekEars_5 : decode cX10_seekEars 5 = .ok (.aload_n 0, 1) := by decide +kernel
theorem dX10_seekEars_50 : decode cX10_seekEars 50 = .ok (.getfield 78, 3) := by decide +kernel
theorem dX10_seekEars_53 : decode cX10_seekEars 53 = .ok (.iconst 1, 1) := by decide +kernel
theorem dX10_seekEars_54 : decode cX10_seekEars 54 = .ok (.iadd, 1) := by decide +kernel
theorem dX10_seekEars_55 : decode cX10_seekEars 55 = .ok (.putfield 78, 3) := by decide +kernel
theorem dX10_seekEars_58 : decode cX10_seekEars 58 = .ok (.iload_n 2, 1) := by decide +kernel
theorem dX10_seekEars_59 : decode cX10_seekEars 59 = .ok (.iload 4, 2) := by decide +kernel
theorem dX10_seekEars_6 : decode cX10_seekEars 6 = .ok (.iconst 0, 1) := by decide +kernel
theorem dX10_seekEars_61 : decode cX10_seekEars 61 = .ok (.ior, 1) := by decide +kernel
theorem dX10_seekEars_62 : decode cX10_seekEars 62 = .ok (.istore_n 2, 1) := by decide +kernel
theorem dX10_seekEars_63 : decode cX10_seekEars 63 = .ok (.iinc 3 1, 3) := by decide +kernel
theorem dX10_seekEars_66 : decode cX10_seekEars 66 = .ok (.goto (-54), 3) := by decide +kernel
theorem dX10_seekEars_69 : decode cX10_seekEars 69 = .ok (.return_, 1) := by decide +kernel
theorem dX10_seekEars_7 : decode cX10_seekEars 7 = .ok (.putfield 78, 3) := by decide +kernel
set_option maxHeartbeats 4000000 in
set_option maxRecDepth 100000 in
theorem k_X10_seekEars (l : Launch) (D : va_G) (cI cS : ClassId) (sz : Nat) (a : Nat → Nat) (na nc N : Nat) (L u0 : SU) (hL : TyX L) (hN : N = 0 ∨ N = 24576) (x0 : Int32) : Met l yX10_seekEars wsX10_seekEars ({ frames := 18, cells := 0, slots := 0, locals := 720 }) (PQ D cI cS (wX cI cS a na nc N L u0) sz [.ref (a 18), .int x0]) (QE (S := SU) D (wX cI cS a na nc N L u0) (wX cI cS a na nc N L) sz (fun _ => True)) 0 0 (va_A (wX cI cS a na nc N L u0) sz) := by
  refine Met.ofW (cc := cX10_seekEars) (maxL := 5) (ret := none) (by decide) rfl ?_
  intro p e s m args below meth c s₁ B hml hv
  obtain ⟨rfl, hsz, hP, hKK, hD0⟩ := hv
  have hx := B.exec
  have hb := B.bytes
  have hr := B.returns
  have hts := atoms_spec (ws := wsX10_seekEars) B.pre
  have hown : s.vm.findClass RX10 = some m.cls := findClass_of_methodNamed B.named
  have hlocks := B.notSynchronized
  have hK := hKK.1
  have hin10 : ∀ w ∈ wsX100, w ∈ wsX10_seekEars := by decide +kernel
  subst hsz
  have hD := hD0.self (sz := s.heap.size)
  obtain ⟨A, hAe⟩ : ∃ A, A = va_A (wX cI cS a na nc N L u0) s.heap.size := ⟨_, rfl⟩
  rw [← hAe] at hD
  have hA : ∀ q : Nat, s.heap.size ≤ q → A q := fun q h => by rw [hAe]; exact Or.inr h
  have hS : va_S A s.heap s.heap [] := va_S.rf
  have hl := lv_entry ([.ref (a 18), .int x0]) (n := 5) (Nat.le_of_ble_eq_true rfl)
  rw [lg_entry_eq]
  generalize (lg_sl ([.ref (a 18), .int x0]) ++ List.replicate (5 - (lg_sl ([.ref (a 18), .int x0])).length) Slot.unset).toArray = ls at hl ⊢
  have hl : lv_has ls 5 [(0, .ref (a 18)), (1, .int x0)] := hl
  obtain ⟨u, hu9⟩ : ∃ u : SU, u = u0 := ⟨_, rfl⟩
  rw [← hu9] at hP hD
  have lp12 : ∀ (n12 : Nat) (y12_l2 : Int32) (y12_l3 : Int32) (u : SU) (H : Heap) (locs : List Loc) (ls : Array Slot), Rg 0 5 y12_l3 → va_P D cls (wX cI cS a na nc N L u) H → va_D A (wX cI cS a na nc N L u) → va_S A s.heap H locs → lv_has ls 5 [(0, .ref (a 18)), (1, .int x0), (2, .int y12_l2), (3, .int y12_l3)] → 5 - y12_l3.toInt < (n12 : Int) → W p l e (headSpec wsX10_seekEars ({ frames := 18, cells := 0, slots := 0, locals := 720 })).room s m ([.ref (a 18), .int x0]).toArray below meth c H locs 0 0 (MQ below (QE (S := SU) D (wX cI cS a na nc N L u0) (wX cI cS a na nc N L) s.heap.size (fun _ => True)) ([.ref (a 18), .int x0]).toArray s 0 0 (va_A (wX cI cS a na nc N L u0) s.heap.size)) (F0 m 12 ls []) := by
    intro n12
    induction n12 with
    | zero =>
      intro y12_l2 y12_l3 u H locs ls g12_l3 hP hD hS hl hm12
      exact absurd rfl (me_z g12_l3 hm12)
    | succ n12 ih12 =>
      intro y12_l2 y12_l3 u H locs ls g12_l3 hP hD hS hl hm12
      refine lv_iload_n hx hb dX10_seekEars_12 rfl (lv_at hl 3 rfl) ?_
      refine lv_iconst (v := 5) hx hb dX10_seekEars_13 (by decide) ?_
      refine lv_icmp_ge (tgt := 69) hx hb dX10_seekEars_14 (by decide) (fun c38574 => ?_) (fun c38574 => ?_)
      · have g38575 : Rg 5 5 y12_l3 := rg_ler (by decide : Rg 5 5 (5 : Int32)) g12_l3 c38574 (by decide)
        subst hAe
        exact W.vret hx hb hr (fun t ht hW => ⟨⟨u, rfl, trivial, by rw [ht]; exact hP, hD⟩, hS.F ht⟩) hS.2.2 dX10_seekEars_69
      · have g38576 : Rg 0 4 y12_l3 := rg_ltl g12_l3 (by decide : Rg 5 5 (5 : Int32)) (rg_nle c38574) (by decide)
        refine lv_iload_n hx hb dX10_seekEars_17 rfl (lv_at hl 2 rfl) ?_
        refine lv_iload_n hx hb dX10_seekEars_18 rfl (lv_at hl 1 rfl) ?_
        refine lv_icmp_eq (tgt := 69) hx hb dX10_seekEars_19 (by decide) (fun c38577 => ?_) (fun c38577 => ?_)
        · subst hAe
          exact W.vret hx hb hr (fun t ht hW => ⟨⟨u, rfl, trivial, by rw [ht]; exact hP, hD⟩, hS.F ht⟩) hS.2.2 dX10_seekEars_69
        · refine lv_aload_n hx hb dX10_seekEars_22 rfl (lv_at hl 0 rfl) ?_
          refine lv_iload_n hx hb dX10_seekEars_23 rfl (lv_at hl 2 rfl) ?_
          refine lv_iload_n hx hb dX10_seekEars_24 rfl (lv_at hl 1 rfl) ?_
          refine lv_iload_n hx hb dX10_seekEars_25 rfl (lv_at hl 2 rfl) ?_
          refine lv_iconst (v := (-1)) hx hb dX10_seekEars_26 (by decide) ?_
          refine lv_ixor hx hb dX10_seekEars_27 ?_
          refine wk_topP (P := fun r => r = y12_l2 ^^^ ((-1) : Int32)) rfl (fun r38578 qr38578 => ?_)
          refine lv_iand hx hb dX10_seekEars_28 ?_
          refine wk_topP (P := fun r => r = x0 &&& r38578) rfl (fun r38579 qr38579 => ?_)
          refine wk_qi (wX cI cS a na nc N L) u (As := [.int y12_l2, .int r38579]) (rest := []) ⟨hx, hb, hml, hown, hts⟩ (k_X10_nextEar l D cI cS _ a na nc N L u hL hN y12_l2 r38579) hKK hP hD hS hA 18 (ci := 10) rfl rfl (cwV 2 hts gX10_seekEars_X10_nextEar rfl rfl rfl (by decide +kernel) ⟨Nat.le_of_ble_eq_true rfl, Nat.le_of_ble_eq_true rfl⟩) rfl hl.1 rfl (Nat.le_of_ble_eq_true rfl) dX10_seekEars_29 ⟨Nat.le_of_ble_eq_true rfl, Nat.le_of_ble_eq_true rfl⟩ (fun r38580 u H locs hr38580 hP hD hS => ?_)
          refine lv_istore (lv' := [(4, .int r38580), (0, .ref (a 18)), (1, .int x0), (2, .int y12_l2), (3, .int y12_l3)]) hx hb dX10_seekEars_32 hl (by decide) rfl (fun ls hl => ?_)
          refine lv_iload hx hb dX10_seekEars_34 (lv_at hl 0 rfl) ?_
          refine lv_if_ne (tgt := 40) hx hb dX10_seekEars_36 (by decide) (fun c38581 => ?_) (fun c38581 => ?_)
          · refine lv_aload_n hx hb dX10_seekEars_40 rfl (lv_at hl 1 rfl) ?_
            refine va_get (D := D) (ci := 10) (v := .ref (a 19)) (C := RX10) (T := TX10) (N := 8) hx hb hts hin10 hown hK hP 18 rfl rfl 2 (by decide) (hts (.fieldLink RX10 11 "MissedPoints$Witness" "ears" "[I") (by decide +kernel)) (fun _ h9 => h9) rfl dX10_seekEars_41 ?_
            refine lv_iload_n hx hb dX10_seekEars_44 rfl (lv_at hl 4 rfl) ?_
            refine lv_iload hx hb dX10_seekEars_45 (lv_at hl 0 rfl) ?_
            refine ks_ast hx hb hK hP hD hS rfl (k := 19) rfl sx_19 (rg_in g38576 (by decide) (by decide)) dX10_seekEars_47 (fun u H locs hP hD hS => ?_)
            refine lv_aload_n hx hb dX10_seekEars_48 rfl (lv_at hl 1 rfl) ?_
            refine lv_dup hx hb dX10_seekEars_49 rfl ?_
            refine va_get (D := D) (ci := 10) (v := .int (u 18 3)) (C := RX10) (T := TX10) (N := 8) hx hb hts hin10 hown hK hP 18 rfl rfl 3 (by decide) (hts (.fieldLink RX10 78 "MissedPoints$Witness" "earCount" "I") (by decide +kernel)) (fun _ h9 => h9) rfl dX10_seekEars_50 ?_
            refine wk_any (fun r38582 => ?_)
            refine lv_iconst (v := 1) hx hb dX10_seekEars_53 (by decide) ?_
            refine lv_iadd hx hb dX10_seekEars_54 ?_
            refine wk_topP (P := fun r => r = r38582 + (1 : Int32)) rfl (fun r38583 qr38583 => ?_)
            refine va_put (D := D) (ci := 10) (v := .int r38583) (ty := .int) (C := RX10) (T := TX10) (N := 8) hx hb hts hin10 tyX10 tyX10_ok nmX10 hown hK hP hD hS 18 rfl rfl 3 (by decide) (hts (.fieldLink RX10 78 "MissedPoints$Witness" "earCount" "I") (by decide +kernel)) (fun _ h9 => h9) rfl (by decide +kernel) rfl rfl (Nat.le_of_ble_eq_true rfl) dX10_seekEars_55 (fun H locs hP hD hS => ?_)
            rw [sxf_18_3] at hP hD
            generalize sU u 18 _ = u at hP hD
            refine lv_iload_n hx hb dX10_seekEars_58 rfl (lv_at hl 3 rfl) ?_
            refine lv_iload hx hb dX10_seekEars_59 (lv_at hl 0 rfl) ?_
            refine lv_ior hx hb dX10_seekEars_61 ?_
            refine wk_topP (P := fun r => r = y12_l2 ||| r38580) rfl (fun r38584 qr38584 => ?_)
            refine lv_istore_n (lv' := [(2, .int r38584), (4, .int r38580), (0, .ref (a 18)), (1, .int x0), (3, .int y12_l3)]) hx hb dX10_seekEars_62 rfl hl (by decide) rfl (fun ls hl => ?_)
            refine wk_iinc (lv' := fun r => [(3, .int r), (2, .int r38584), (4, .int r38580), (0, .ref (a 18)), (1, .int x0)]) (e1 := 1) (f := 5) hx hb dX10_seekEars_63 hl (k := 4) rfl (by decide) g38576 (by decide) (fun _ => rfl) (fun r38585 ls hr38585 er38585 hl => ?_)
            refine lv_goto (tgt := 12) hx hb dX10_seekEars_66 (by decide) ?_
            exact ih12 r38584 r38585 u _ _ ls (show Rg 0 5 r38585 from rg_w hr38585 (by decide) (by decide)) hP hD hS (lv_sub (l' := [(0, .ref (a 18)), (1, .int x0), (2, .int r38584), (3, .int r38585)]) hl [3, 4, 1, 0] rfl) (me_up hm12 er38585 (by decide))
          · have g38586 : Rg 0 0 r38580 := wk_eql hr38580.1 (by decide : Rg 0 0 (0 : Int32)) c38581 (by decide)
            subst hAe
            exact W.vret hx hb hr (fun t ht hW => ⟨⟨u, rfl, trivial, by rw [ht]; exact hP, hD⟩, hS.F ht⟩) hS.2.2 dX10_seekEars_39
  refine lv_iload_n hx hb dX10_seekEars_0 rfl (lv_at hl 1 rfl) ?_
  refine lz_ss (As := [.int x0]) (rest := []) ⟨hx, hb, hml, hown, hts⟩ (k_J6_lowestOneBit_0f7a4 l D cI cS x0) hKK (hP.sub (ws' := []) [] rfl) (va_cwS 1 hts gX10_seekEars_J6_lowestOneBit_0f7a4 rfl rfl rfl (by decide +kernel) ⟨Nat.le_of_ble_eq_true rfl, Nat.le_of_ble_eq_true rfl⟩) rfl hl.1 rfl (Nat.le_of_ble_eq_true rfl) dX10_seekEars_1 ⟨Nat.le_of_ble_eq_true rfl, Nat.le_of_ble_eq_true rfl⟩ (fun r38587 hr38587 => ?_)
  refine lv_istore_n (lv' := [(2, .int r38587), (0, .ref (a 18)), (1, .int x0)]) hx hb dX10_seekEars_4 rfl hl (by decide) rfl (fun ls hl => ?_)
  refine lv_aload_n hx hb dX10_seekEars_5 rfl (lv_at hl 1 rfl) ?_
  refine lv_iconst (v := 0) hx hb dX10_seekEars_6 (by decide) ?_
  refine va_put (D := D) (ci := 10) (v := .int 0) (ty := .int) (C := RX10) (T := TX10) (N := 8) hx hb hts hin10 tyX10 tyX10_ok nmX10 hown hK hP hD hS 18 rfl rfl 3 (by decide) (hts (.fieldLink RX10 78 "MissedPoints$Witness" "earCount" "I") (by decide +kernel)) (fun _ h9 => h9) rfl (by decide +kernel) rfl rfl (Nat.le_of_ble_eq_true rfl) dX10_seekEars_7 (fun H locs hP hD hS => ?_)
  rw [sxf_18_3] at hP hD
  generalize sU u 18 _ = u at hP hD
  refine lv_iconst (v := 0) hx hb dX10_seekEars_10 (by decide) ?_
  refine lv_istore_n (lv' := [(3, .int 0), (2, .int r38587), (0, .ref (a 18)), (1, .int x0)]) hx hb dX10_seekEars_11 rfl hl (by decide) rfl (fun ls hl => ?_)
  exact lp12 6 r38587 (0 : Int32) u _ _ ls (by decide : Rg 0 5 (0 : Int32)) hP hD hS (lv_sub (l' := [(0, .ref (a 18)), (1, .int x0), (2, .int r38587), (3, .int 0)]) hl [2, 3, 1, 0] rfl) (me_i (by decide : Rg 0 5 (0 : Int32)) (by decide))
theorem dX10_earAt_0 : decode cX10_earAt 0 = .ok (.iload_n 1, 1) := by decide +kernel
theorem dX10_earAt_1 : decode cX10_earAt 1 = .ok (.ifCond .lt 25, 3) := by decide +kernel
theorem dX10_earAt_12 : decode cX10_earAt 12 = .ok (.iload_n 1, 1) := by decide +kernel
theorem dX10_earAt_13 : decode cX10_earAt 13 = .ok (.iconst 5, 1) := by decide +kernel
theorem dX10_earAt_14 : decode cX10_earAt 14 = .ok (.if_icmp .ge 12, 3) := by decide +kernel
theorem dX10_earAt_17 : decode cX10_earAt 17 = .ok (.aload_n 0, 1) := by decide +kernel
theorem dX10_earAt_18 : decode cX10_earAt 18 = .ok (.getfield 11, 3) := by decide +kernel
theorem dX10_earAt_21 : decode cX10_earAt 21 = .ok (.iload_n 1, 1) := by decide +kernel
theorem dX10_earAt_22 : decode cX10_earAt 22 = .ok (.iaload, 1) := by decide +kernel
theorem dX10_earAt_23 : decode cX10_earAt 23 = .ok (.goto 4, 3) := by decide +kernel
theorem dX10_earAt_26 : decode cX10_earAt 26 = .ok (.iconst (-1), 1) := by decide +kernel
theorem dX10_earAt_27 : decode cX10_earAt 27 = .ok (.ireturn, 1) := by decide +kernel
theorem dX10_earAt_4 : decode cX10_earAt 4 = .ok (.iload_n 1, 1) := by decide +kernel
theorem dX10_earAt_5 : decode cX10_earAt 5 = .ok (.aload_n 0, 1) := by decide +kernel
theorem dX10_earAt_6 : decode cX10_earAt 6 = .ok (.getfield 78, 3) := by decide +kernel
theorem dX10_earAt_9 : decode cX10_earAt 9 = .ok (.if_icmp .ge 17, 3) := by decide +kernel
set_option maxHeartbeats 4000000 in
set_option maxRecDepth 100000 in
theorem k_X10_earAt (l : Launch) (D : va_G) (cI cS : ClassId) (a : Nat → Nat) (na nc N : Nat) (L u : SU) (hL : TyX L) (hN : N = 0 ∨ N = 24576) (x0 : Int32) : Met l yX10_earAt wsX10_earAt ({ frames := 0, cells := 0, slots := 0, locals := 0 }) (PS D cI cS (wX cI cS a na nc N L u) [.ref (a 18), .int x0]) (vp_Si (fun r => Rg (-2147483648) 2147483647 r ∧ True)) 0 0 (fun _ => False) := by
  refine Met.ofW (cc := cX10_earAt) (maxL := 2) (ret := (some .int)) (by decide) rfl ?_
  intro p e s m args below meth c s₁ B hml hv
  obtain ⟨rfl, hP, hKK⟩ := hv
  have hx := B.exec
  have hb := B.bytes
  have hr := B.returns
  have hts := atoms_spec (ws := wsX10_earAt) B.pre
  have hown : s.vm.findClass RX10 = some m.cls := findClass_of_methodNamed B.named
  have hlocks := B.notSynchronized
  have hK := hKK.1
  have hin10 : ∀ w ∈ wsX100, w ∈ wsX10_earAt := by decide +kernel
  have hl := lv_entry ([.ref (a 18), .int x0]) (n := 2) (Nat.le_of_ble_eq_true rfl)
  rw [lg_entry_eq]
  generalize (lg_sl ([.ref (a 18), .int x0]) ++ List.replicate (2 - (lg_sl ([.ref (a 18), .int x0])).length) Slot.unset).toArray = ls at hl ⊢
  have hl : lv_has ls 2 [(0, .ref (a 18)), (1, .int x0)] := hl
  refine lv_iload_n hx hb dX10_earAt_0 rfl (lv_at hl 1 rfl) ?_
  refine lv_if_lt (tgt := 26) hx hb dX10_earAt_1 (by decide) (fun c38599 => ?_) (fun c38599 => ?_)
  · have g38600 : Rg (-2147483648) (-1) x0 := rg_ltl (rg_any x0) (by decide : Rg 0 0 (0 : Int32)) c38599 (by decide)
    refine lv_iconst (v := (-1)) hx hb dX10_earAt_26 (by decide) ?_
    exact W.iret (v := (-1)) hx hb hr (fun t ht hW => ⟨_, rfl, ⟨(by decide : Rg (-2147483648) 2147483647 ((-1) : Int32)), trivial⟩, ht⟩) (fun q hq => absurd hq List.not_mem_nil) dX10_earAt_27
  · have g38601 : Rg 0 2147483647 x0 := rg_ler (by decide : Rg 0 0 (0 : Int32)) (rg_any x0) (rg_nlt c38599) (by decide)
    refine lv_iload_n hx hb dX10_earAt_4 rfl (lv_at hl 1 rfl) ?_
    refine lv_aload_n hx hb dX10_earAt_5 rfl (lv_at hl 0 rfl) ?_
    refine va_get (D := D) (ci := 10) (v := .int (u 18 3)) (C := RX10) (T := TX10) (N := 8) hx hb hts hin10 hown hK hP 18 rfl rfl 3 (by decide) (hts (.fieldLink RX10 78 "MissedPoints$Witness" "earCount" "I") (by decide +kernel)) (fun _ h9 => h9) rfl dX10_earAt_6 ?_
    refine wk_any (fun r38602 => ?_)
    refine lv_icmp_ge (tgt := 26) hx hb dX10_earAt_9 (by decide) (fun c38603 => ?_) (fun c38603 => ?_)
    · refine lv_iconst (v := (-1)) hx hb dX10_earAt_26 (by decide) ?_
      exact W.iret (v := (-1)) hx hb hr (fun t ht hW => ⟨_, rfl, ⟨(by decide : Rg (-2147483648) 2147483647 ((-1) : Int32)), trivial⟩, ht⟩) (fun q hq => absurd hq List.not_mem_nil) dX10_earAt_27
    · have g38604 : Rg 1 2147483647 r38602 := rg_ltr g38601 (rg_any r38602) (rg_nle c38603) (by decide)
      have g38605 : Rg 0 2147483646 x0 := rg_ltl g38601 (rg_any r38602) (rg_nle c38603) (by decide)
      refine lv_iload_n hx hb dX10_earAt_12 rfl (lv_at hl 1 rfl) ?_
      refine lv_iconst (v := 5) hx hb dX10_earAt_13 (by decide) ?_
      refine lv_icmp_ge (tgt := 26) hx hb dX10_earAt_14 (by decide) (fun c38606 => ?_) (fun c38606 => ?_)
      · have g38607 : Rg 5 2147483646 x0 := rg_ler (by decide : Rg 5 5 (5 : Int32)) g38605 c38606 (by decide)
        refine lv_iconst (v := (-1)) hx hb dX10_earAt_26 (by decide) ?_
        exact W.iret (v := (-1)) hx hb hr (fun t ht hW => ⟨_, rfl, ⟨(by decide : Rg (-2147483648) 2147483647 ((-1) : Int32)), trivial⟩, ht⟩) (fun q hq => absurd hq List.not_mem_nil) dX10_earAt_27
      · have g38608 : Rg 0 4 x0 := rg_ltl g38605 (by decide : Rg 5 5 (5 : Int32)) (rg_nle c38606) (by decide)
        refine lv_aload_n hx hb dX10_earAt_17 rfl (lv_at hl 0 rfl) ?_
        refine va_get (D := D) (ci := 10) (v := .ref (a 19)) (C := RX10) (T := TX10) (N := 8) hx hb hts hin10 hown hK hP 18 rfl rfl 2 (by decide) (hts (.fieldLink RX10 11 "MissedPoints$Witness" "ears" "[I") (by decide +kernel)) (fun _ h9 => h9) rfl dX10_earAt_18 ?_
        refine lv_iload_n hx hb dX10_earAt_21 rfl (lv_at hl 1 rfl) ?_
        refine wk_aldA hx hb hK hP 19 0 rfl rfl (rg_in g38608 (by decide) (by decide)) dX10_earAt_22 (fun r38609 => ?_)
        refine lv_goto (tgt := 27) hx hb dX10_earAt_23 (by decide) ?_
        exact W.iret (v := r38609) hx hb hr (fun t ht hW => ⟨_, rfl, ⟨(rg_any r38609), trivial⟩, ht⟩) (fun q hq => absurd hq List.not_mem_nil) dX10_earAt_27
theorem dX6_isMissing_12 : decode cX6_isMissing 12 = .ok (.iconst 0, 1) := by decide +kernel
set_option maxHeartbeats 4000000 in
set_option maxRecDepth 100000 in
theorem k_X6_isMissing (l : Launch) (D : va_G) (cI cS : ClassId) (a : Nat → Nat) (na nc N : Nat) (L u : SU) (hL : TyX L) (hN : N = 0 ∨ N = 24576) (q : Nat) (hq : q < 4) : Met l yX6_isMissing wsX6_isMissing ({ frames := 0, cells := 0, slots := 0, locals := 0 }) (PS D cI cS (wX cI cS a na nc N L u) [.ref (a (26 + 2 * q))]) (vp_Si (fun r => Rg 0 1 r ∧ True)) 0 0 (fun _ => False) := by
  refine Met.ofW (cc := cX6_isMissing) (maxL := 1) (ret := (some .boolean)) (by decide) rfl ?_
  intro p e s m args below meth c s₁ B hml hv
  obtain ⟨rfl, hP, hKK⟩ := hv
  have hx := B.exec
  have hb := B.bytes
  have hr := B.returns
  have hts := atoms_spec (ws := wsX6_isMissing) B.pre
  have hown : s.vm.findClass RX6 = some m.cls := findClass_of_methodNamed B.named
  have hlocks := B.notSynchronized
  have hK := hKK.1
  have hin6 : ∀ w ∈ wsX60, w ∈ wsX6_isMissing := by decide +kernel
  have hl := lv_entry ([.ref (a (26 + 2 * q))]) (n := 1) (Nat.le_of_ble_eq_true rfl)
  rw [lg_entry_eq]
  generalize (lg_sl ([.ref (a (26 + 2 * q))]) ++ List.replicate (1 - (lg_sl ([.ref (a (26 + 2 * q))])).length) Slot.unset).toArray = ls at hl ⊢
  have hl : lv_has ls 1 [(0, .ref (a (26 + 2 * q)))] := hl
  refine lv_aload_n hx hb dX6_isMissing_0 rfl (lv_at hl 0 rfl) ?_
  refine va_get (D := D) (ci := 6) (v := .int ((L (26 + 2 * q) 1))) (C := RX6) (T := TX6) (N := 3) hx hb hts hin6 hown hK hP (26 + 2 * q) (gx_sh hq) rfl 1 (by decide) (hts (.fieldLink RX6 15 "MissedPoints$Sheet" "sort" "I") (by decide +kernel)) (fun _ h9 => h9) rfl dX6_isMissing_1 ?_
  refine lv_iconst (v := (-1)) hx hb dX6_isMissing_4 (by decide) ?_
  refine lv_icmp_ne (tgt := 12) hx hb dX6_isMissing_5 (by decide) (fun c38612 => ?_) (fun c38612 => ?_)
  · refine lv_iconst (v := 0) hx hb dX6_isMissing_12 (by decide) ?_
    exact W.zret (v := 0) hx hb hr (by decide) (fun t ht hW => ⟨_, rfl, ⟨(by decide : Rg 0 1 (0 : Int32)), trivial⟩, ht⟩) (fun q hq => absurd hq List.not_mem_nil) dX6_isMissing_13
  · have g38613 : Rg (-1) (-1) ((L (26 + 2 * q) 1)) := wk_eql (rg_any ((L (26 + 2 * q) 1))) (by decide : Rg (-1) (-1) ((-1) : Int32)) c38612 (by decide)
    refine lv_iconst (v := 1) hx hb dX6_isMissing_8 (by decide) ?_
    refine lv_goto (tgt := 13) hx hb dX6_isMissing_9 (by decide) ?_
    exact W.zret (v := 1) hx hb hr (by decide) (fun t ht hW => ⟨_, rfl, ⟨(by decide : Rg 0 1 (1 : Int32)), trivial⟩, ht⟩) (fun q hq => absurd hq List.not_mem_nil) dX6_isMissing_13
theorem dX6_hasRange_0 : decode cX6_hasRange 0 = .ok (.iload_n 1, 1) := by decide +kernel
theorem dX6_hasRange_1 : decode cX6_hasRange 1 = .ok (.ifCond .lt 29, 3) := by decide +kernel
theorem dX6_hasRange_10 : decode cX6_hasRange 10 = .ok (.getfield 28, 3) := by decide +kernel
theorem dX6_hasRange_13 : decode cX6_hasRange 13 = .ok (.if_icmp .gt 17, 3) := by decide +kernel
theorem dX6_hasRange_16 : decode cX6_hasRange 16 = .ok (.iload_n 1, 1) := by decide +kernel
theorem dX6_hasRange_17 : decode cX6_hasRange 17 = .ok (.aload_n 0, 1) := by decide +kernel
theorem dX6_hasRange_18 : decode cX6_hasRange 18 = .ok (.getfield 28, 3) := by decide +kernel
theorem dX6_hasRange_21 : decode cX6_hasRange 21 = .ok (.iload_n 2, 1) := by decide +kernel
theorem dX6_hasRange_22 : decode cX6_hasRange 22 = .ok (.isub, 1) := by decide +kernel
theorem dX6_hasRange_23 : decode cX6_hasRange 23 = .ok (.if_icmp .gt 7, 3) := by decide +kernel
theorem dX6_hasRange_26 : decode cX6_hasRange 26 = .ok (.iconst 1, 1) := by decide +kernel
theorem dX6_hasRange_27 : decode cX6_hasRange 27 = .ok (.goto 4, 3) := by decide +kernel
theorem dX6_hasRange_30 : decode cX6_hasRange 30 = .ok (.iconst 0, 1) := by decide +kernel
theorem dX6_hasRange_31 : decode cX6_hasRange 31 = .ok (.ireturn, 1) := by decide +kernel
theorem dX6_hasRange_4 : decode cX6_hasRange 4 = .ok (.iload_n 2, 1) := by decide +kernel
theorem dX6_hasRange_5 : decode cX6_hasRange 5 = .ok (.ifCond .lt 25, 3) := by decide +kernel
theorem dX6_hasRange_8 : decode cX6_hasRange 8 = .ok (.iload_n 2, 1) := by decide +kernel
theorem dX6_hasRange_9 : decode cX6_hasRange 9 = .ok (.aload_n 0, 1) := by decide +kernel
set_option maxHeartbeats 4000000 in
set_option maxRecDepth 100000 in
theorem k_X6_hasRange_1 (l : Launch) (D : va_G) (cI cS : ClassId) (a : Nat → Nat) (na nc N : Nat) (L u : SU) (hL : TyX L) (hN : N = 0 ∨ N = 24576) (q : Nat) (hq : q < 4) (x0 x1 : Int32) (px1 : Rg 1 1 x1) : Met l yX6_hasRange wsX6_hasRange ({ frames := 0, cells := 0, slots := 0, locals := 0 }) (PS D cI cS (wX cI cS a na nc N L u) [.ref (a (26 + 2 * q)), .int x0, .int x1]) (vp_Si (fun r => Rg 0 1 r ∧ (r ≠ 0 → Rg 0 39 x0))) 0 0 (fun _ => False) := by
  refine Met.ofW (cc := cX6_hasRange) (maxL := 3) (ret := (some .boolean)) (by decide) rfl ?_
  intro p e s m args below meth c s₁ B hml hv
  obtain ⟨rfl, hP, hKK⟩ := hv
  have hx := B.exec
  have hb := B.bytes
  have hr := B.returns
  have hts := atoms_spec (ws := wsX6_hasRange) B.pre
  have hown : s.vm.findClass RX6 = some m.cls := findClass_of_methodNamed B.named
  have hlocks := B.notSynchronized
  have hK := hKK.1
  have hin6 : ∀ w ∈ wsX60, w ∈ wsX6_hasRange := by decide +kernel
  have hl := lv_entry ([.ref (a (26 + 2 * q)), .int x0, .int x1]) (n := 3) (Nat.le_of_ble_eq_true rfl)
  rw [lg_entry_eq]
  generalize (lg_sl ([.ref (a (26 + 2 * q)), .int x0, .int x1]) ++ List.replicate (3 - (lg_sl ([.ref (a (26 + 2 * q)), .int x0, .int x1])).length) Slot.unset).toArray = ls at hl ⊢
  have hl : lv_has ls 3 [(0, .ref (a (26 + 2 * q))), (1, .int x0), (2, .int x1)] := hl
  refine lv_iload_n hx hb dX6_hasRange_0 rfl (lv_at hl 1 rfl) ?_
  refine lv_if_lt (tgt := 30) hx hb dX6_hasRange_1 (by decide) (fun c38625 => ?_) (fun c38625 => ?_)
  · have g38626 : Rg (-2147483648) (-1) x0 := rg_ltl (rg_any x0) (by decide : Rg 0 0 (0 : Int32)) c38625 (by decide)
    refine lv_iconst (v := 0) hx hb dX6_hasRange_30 (by decide) ?_
    exact W.zret (v := 0) hx hb hr (by decide) (fun t ht hW => ⟨_, rfl, ⟨(by decide : Rg 0 1 (0 : Int32)), fun h9 => absurd rfl h9⟩, ht⟩) (fun q hq => absurd hq List.not_mem_nil) dX6_hasRange_31
  · have g38627 : Rg 0 2147483647 x0 := rg_ler (by decide : Rg 0 0 (0 : Int32)) (rg_any x0) (rg_nlt c38625) (by decide)
    refine lv_iload_n hx hb dX6_hasRange_4 rfl (lv_at hl 2 rfl) ?_
    refine lv_if_lt (tgt := 30) hx hb dX6_hasRange_5 (by decide) (fun c38628 => ?_) (fun c38628 => ?_)
    · exact absurd c38628 (wk_nlt px1 (by decide : Rg 0 0 (0 : Int32)) (by decide))
    · refine lv_iload_n hx hb dX6_hasRange_8 rfl (lv_at hl 2 rfl) ?_
      refine lv_aload_n hx hb dX6_hasRange_9 rfl (lv_at hl 0 rfl) ?_
      refine va_get (D := D) (ci := 6) (v := .int ((L (26 + 2 * q) 2))) (C := RX6) (T := TX6) (N := 3) hx hb hts hin6 hown hK hP (26 + 2 * q) (gx_sh hq) rfl 2 (by decide) (hts (.fieldLink RX6 28 "MissedPoints$Sheet" "size" "I") (by decide +kernel)) (fun _ h9 => h9) rfl dX6_hasRange_10 ?_
      refine lv_icmp_gt (tgt := 30) hx hb dX6_hasRange_13 (by decide) (fun c38629 => ?_) (fun c38629 => ?_)
      · have g38630 : Rg 0 0 ((L (26 + 2 * q) 2)) := rg_ltl (hL.sh hq) px1 c38629 (by decide)
        refine lv_iconst (v := 0) hx hb dX6_hasRange_30 (by decide) ?_
        exact W.zret (v := 0) hx hb hr (by decide) (fun t ht hW => ⟨_, rfl, ⟨(by decide : Rg 0 1 (0 : Int32)), fun h9 => absurd rfl h9⟩, ht⟩) (fun q hq => absurd hq List.not_mem_nil) dX6_hasRange_31
      · have g38631 : Rg 1 40 ((L (26 + 2 * q) 2)) := rg_ler px1 (hL.sh hq) (rg_nlt c38629) (by decide)
        refine lv_iload_n hx hb dX6_hasRange_16 rfl (lv_at hl 1 rfl) ?_
        refine lv_aload_n hx hb dX6_hasRange_17 rfl (lv_at hl 0 rfl) ?_
        refine va_get (D := D) (ci := 6) (v := .int ((L (26 + 2 * q) 2))) (C := RX6) (T := TX6) (N := 3) hx hb hts hin6 hown hK hP (26 + 2 * q) (gx_sh hq) rfl 2 (by decide) (hts (.fieldLink RX6 28 "MissedPoints$Sheet" "size" "I") (by decide +kernel)) (fun _ h9 => h9) rfl dX6_hasRange_18 ?_
        refine lv_iload_n hx hb dX6_hasRange_21 rfl (lv_at hl 2 rfl) ?_
        refine wk_isub (e1 := 0) (f := 39) hx hb dX6_hasRange_22 g38631 px1 (by decide) (fun r38632 hr38632 er38632 qr38632 => ?_)
        refine lv_icmp_gt (tgt := 30) hx hb dX6_hasRange_23 (by decide) (fun c38633 => ?_) (fun c38633 => ?_)
        · have g38634 : Rg 1 2147483647 x0 := rg_ltr hr38632 g38627 c38633 (by decide)
          refine lv_iconst (v := 0) hx hb dX6_hasRange_30 (by decide) ?_
          exact W.zret (v := 0) hx hb hr (by decide) (fun t ht hW => ⟨_, rfl, ⟨(by decide : Rg 0 1 (0 : Int32)), fun h9 => absurd rfl h9⟩, ht⟩) (fun q hq => absurd hq List.not_mem_nil) dX6_hasRange_31
        · have g38635 : Rg 0 39 x0 := rg_lel g38627 hr38632 (rg_nlt c38633) (by decide)
          refine lv_iconst (v := 1) hx hb dX6_hasRange_26 (by decide) ?_
          refine lv_goto (tgt := 31) hx hb dX6_hasRange_27 (by decide) ?_
          exact W.zret (v := 1) hx hb hr (by decide) (fun t ht hW => ⟨_, rfl, ⟨(by decide : Rg 0 1 (1 : Int32)), fun _ => g38635⟩, ht⟩) (fun q hq => absurd hq List.not_mem_nil) dX6_hasRange_31
set_option maxRecDepth 20000 in
theorem ggX6_at_X6_hasRange : GoodIn wsX6_at wsX6_hasRange := goodIn_r _ [6, 7, 8, 9, 10] (by decide +kernel) (by decide +kernel)
set_option maxRecDepth 20000 in
theorem gX6_at_X6_hasRange : GoodIn wsX6_at (wsV RX6 31 RX6 yX6_hasRange wsX6_hasRange) := goodIn_app (goodIn_of _ (by decide +kernel)) ggX6_at_X6_hasRange
theorem dX6_at_0 : decode cX6_at 0 = .ok (.aload_n 0, 1) := by decide +kernel
theorem dX6_at_1 : decode cX6_at 1 = .ok (.iload_n 1, 1) := by decide +kernel
theorem dX6_at_10 : decode cX6_at 10 = .ok (.getfield 9, 3) := by decide +kernel
theorem dX6_at_13 : decode cX6_at 13 = .ok (.iload_n 1, 1) := by decide +kernel
theorem dX6_at_14 : decode cX6_at 14 = .ok (.iaload, 1) := by decide +kernel
theorem dX6_at_15 : decode cX6_at 15 = .ok (.goto 4, 3) := by decide +kernel
theorem dX6_at_18 : decode cX6_at 18 = .ok (.iconst 0, 1) := by decide +kernel
theorem dX6_at_19 : decode cX6_at 19 = .ok (.ireturn, 1) := by decide +kernel
theorem dX6_at_2 : decode cX6_at 2 = .ok (.iconst 1, 1) := by decide +kernel
theorem dX6_at_3 : decode cX6_at 3 = .ok (.invokevirtual 31, 3) := by decide +kernel
theorem dX6_at_6 : decode cX6_at 6 = .ok (.ifCond .eq 12, 3) := by decide +kernel
theorem dX6_at_9 : decode cX6_at 9 = .ok (.aload_n 0, 1) := by decide +kernel
set_option maxHeartbeats 4000000 in
set_option maxRecDepth 100000 in
theorem k_X6_at (l : Launch) (D : va_G) (cI cS : ClassId) (a : Nat → Nat) (na nc N : Nat) (L u : SU) (hL : TyX L) (hN : N = 0 ∨ N = 24576) (q : Nat) (hq : q < 4) (x0 : Int32) : Met l yX6_at wsX6_at ({ frames := 1, cells := 0, slots := 0, locals := 40 }) (PS D cI cS (wX cI cS a na nc N L u) [.ref (a (26 + 2 * q)), .int x0]) (vp_Si (fun r => Rg (-2147483648) 2147483647 r ∧ True)) 0 0 (fun _ => False) := by
  refine Met.ofW (cc := cX6_at) (maxL := 2) (ret := (some .int)) (by decide) rfl ?_
  intro p e s m args below meth c s₁ B hml hv
  obtain ⟨rfl, hP, hKK⟩ := hv
  have hx := B.exec
  have hb := B.bytes
  have hr := B.returns
  have hts := atoms_spec (ws := wsX6_at) B.pre
  have hown : s.vm.findClass RX6 = some m.cls := findClass_of_methodNamed B.named
  have hlocks := B.notSynchronized
  have hK := hKK.1
  have hin6 : ∀ w ∈ wsX60, w ∈ wsX6_at := by decide +kernel
  have hl := lv_entry ([.ref (a (26 + 2 * q)), .int x0]) (n := 2) (Nat.le_of_ble_eq_true rfl)
  rw [lg_entry_eq]
  generalize (lg_sl ([.ref (a (26 + 2 * q)), .int x0]) ++ List.replicate (2 - (lg_sl ([.ref (a (26 + 2 * q)), .int x0])).length) Slot.unset).toArray = ls at hl ⊢
  have hl : lv_has ls 2 [(0, .ref (a (26 + 2 * q))), (1, .int x0)] := hl
  refine lv_aload_n hx hb dX6_at_0 rfl (lv_at hl 0 rfl) ?_
  refine lv_iload_n hx hb dX6_at_1 rfl (lv_at hl 1 rfl) ?_
  refine lv_iconst (v := 1) hx hb dX6_at_2 (by decide) ?_
  refine wk_sv (26 + 2 * q) (As := [.int x0, .int 1]) (rest := []) ⟨hx, hb, hml, hown, hts⟩ (k_X6_hasRange_1 l D cI cS a na nc N L u hL hN q hq x0 (1 : Int32) (by decide : Rg 1 1 (1 : Int32))) hKK hP (ci := 6) rfl (gx_sh hq) (cwV 2 hts gX6_at_X6_hasRange rfl rfl rfl (by decide +kernel) ⟨Nat.le_of_ble_eq_true rfl, Nat.le_of_ble_eq_true rfl⟩) rfl hl.1 rfl (Nat.le_of_ble_eq_true rfl) dX6_at_3 ⟨Nat.le_of_ble_eq_true rfl, Nat.le_of_ble_eq_true rfl⟩ (fun r38642 hr38642 => ?_)
  refine lv_if_eq (tgt := 18) hx hb dX6_at_6 (by decide) (fun c38643 => ?_) (fun c38643 => ?_)
  · have g38644 : Rg 0 0 r38642 := wk_eql hr38642.1 (by decide : Rg 0 0 (0 : Int32)) c38643 (by decide)
    refine lv_iconst (v := 0) hx hb dX6_at_18 (by decide) ?_
    exact W.iret (v := 0) hx hb hr (fun t ht hW => ⟨_, rfl, ⟨(by decide : Rg (-2147483648) 2147483647 (0 : Int32)), trivial⟩, ht⟩) (fun q hq => absurd hq List.not_mem_nil) dX6_at_19
  · have g38645 : Rg 0 39 x0 := (hr38642.2 c38643)
    have g38646 : Rg 1 1 r38642 := rg_ne_lo (k := 0) hr38642.1 (by decide) c38643 (by decide)
    refine lv_aload_n hx hb dX6_at_9 rfl (lv_at hl 0 rfl) ?_
    refine va_get (D := D) (ci := 6) (v := .ref (a (27 + 2 * q))) (C := RX6) (T := TX6) (N := 3) hx hb hts hin6 hown hK hP (26 + 2 * q) (gx_sh hq) rfl 0 (by decide) (hts (.fieldLink RX6 9 "MissedPoints$Sheet" "numbers" "[I") (by decide +kernel)) (fun _ h9 => h9) rfl dX6_at_10 ?_
    refine lv_iload_n hx hb dX6_at_13 rfl (lv_at hl 1 rfl) ?_
    refine wk_aldA hx hb hK hP (27 + 2 * q) 0 (gx_shn hq) rfl (rg_in g38645 (by decide) (by decide)) dX6_at_14 (fun r38647 => ?_)
    refine lv_goto (tgt := 19) hx hb dX6_at_15 (by decide) ?_
    exact W.iret (v := r38647) hx hb hr (fun t ht hW => ⟨_, rfl, ⟨(rg_any r38647), trivial⟩, ht⟩) (fun q hq => absurd hq List.not_mem_nil) dX6_at_19
set_option maxRecDepth 20000 in
theorem ggX6_store_X6_hasRange : GoodIn wsX6_store wsX6_hasRange := goodIn_r _ [7, 8, 9, 10, 11] (by decide +kernel) (by decide +kernel)
set_option maxRecDepth 20000 in
theorem gX6_store_X6_hasRange : GoodIn wsX6_store (wsV RX6 31 RX6 yX6_hasRange wsX6_hasRange) := goodIn_app (goodIn_of _ (by decide +kernel)) ggX6_store_X6_hasRange
theorem dX6_store_0 : decode cX6_store 0 = .ok (.aload_n 0, 1) := by decide +kernel
theorem dX6_store_1 : decode cX6_store 1 = .ok (.iload_n 1, 1) := by decide +kernel
theorem dX6_store_10 : decode cX6_store 10 = .ok (.getfield 9, 3) := by decide +kernel
theorem dX6_store_13 : decode cX6_store 13 = .ok (.iload_n 1, 1) := by decide +kernel
theorem dX6_store_14 : decode cX6_store 14 = .ok (.aload_n 0, 1) := by decide +kernel
theorem dX6_store_15 : decode cX6_store 15 = .ok (.getfield 15, 3) := by decide +kernel
theorem dX6_store_18 : decode cX6_store 18 = .ok (.ifCond .ne 8, 3) := by decide +kernel
theorem dX6_store_2 : decode cX6_store 2 = .ok (.iconst 1, 1) := by decide +kernel
theorem dX6_store_21 : decode cX6_store 21 = .ok (.iload_n 2, 1) := by decide +kernel
theorem dX6_store_22 : decode cX6_store 22 = .ok (.i2s, 1) := by decide +kernel
theorem dX6_store_23 : decode cX6_store 23 = .ok (.goto 4, 3) := by decide +kernel
theorem dX6_store_26 : decode cX6_store 26 = .ok (.iload_n 2, 1) := by decide +kernel
theorem dX6_store_27 : decode cX6_store 27 = .ok (.iastore, 1) := by decide +kernel
theorem dX6_store_28 : decode cX6_store 28 = .ok (.return_, 1) := by decide +kernel
theorem dX6_store_3 : decode cX6_store 3 = .ok (.invokevirtual 31, 3) := by decide +kernel
theorem dX6_store_6 : decode cX6_store 6 = .ok (.ifCond .eq 22, 3) := by decide +kernel
theorem dX6_store_9 : decode cX6_store 9 = .ok (.aload_n 0, 1) := by decide +kernel
set_option maxHeartbeats 4000000 in
set_option maxRecDepth 100000 in
theorem k_X6_store (l : Launch) (D : va_G) (cI cS : ClassId) (sz : Nat) (a : Nat → Nat) (na nc N : Nat) (L u0 : SU) (hL : TyX L) (hN : N = 0 ∨ N = 24576) (q : Nat) (hq : q < 4) (x0 x1 : Int32) : Met l yX6_store wsX6_store ({ frames := 1, cells := 0, slots := 0, locals := 40 }) (PQ D cI cS (wX cI cS a na nc N L u0) sz [.ref (a (26 + 2 * q)), .int x0, .int x1]) (QE (S := SU) D (wX cI cS a na nc N L u0) (wX cI cS a na nc N L) sz (fun _ => True)) 0 0 (va_A (wX cI cS a na nc N L u0) sz) := by
  refine Met.ofW (cc := cX6_store) (maxL := 3) (ret := none) (by decide) rfl ?_
  intro p e s m args below meth c s₁ B hml hv
  obtain ⟨rfl, hsz, hP, hKK, hD0⟩ := hv
  have hx := B.exec
  have hb := B.bytes
  have hr := B.returns
  have hts := atoms_spec (ws := wsX6_store) B.pre
  have hown : s.vm.findClass RX6 = some m.cls := findClass_of_methodNamed B.named
  have hlocks := B.notSynchronized
  have hK := hKK.1
  have hin6 : ∀ w ∈ wsX60, w ∈ wsX6_store := by decide +kernel
  subst hsz
  have hD := hD0.self (sz := s.heap.size)
  obtain ⟨A, hAe⟩ : ∃ A, A = va_A (wX cI cS a na nc N L u0) s.heap.size := ⟨_, rfl⟩
  rw [← hAe] at hD
  have hA : ∀ q : Nat, s.heap.size ≤ q → A q := fun q h => by rw [hAe]; exact Or.inr h
  have hS : va_S A s.heap s.heap [] := va_S.rf
  have hl := lv_entry ([.ref (a (26 + 2 * q)), .int x0, .int x1]) (n := 3) (Nat.le_of_ble_eq_true rfl)
  rw [lg_entry_eq]
  generalize (lg_sl ([.ref (a (26 + 2 * q)), .int x0, .int x1]) ++ List.replicate (3 - (lg_sl ([.ref (a (26 + 2 * q)), .int x0, .int x1])).length) Slot.unset).toArray = ls at hl ⊢
  have hl : lv_has ls 3 [(0, .ref (a (26 + 2 * q))), (1, .int x0), (2, .int x1)] := hl
  obtain ⟨u, hu9⟩ : ∃ u : SU, u = u0 := ⟨_, rfl⟩
  rw [← hu9] at hP hD
  refine lv_aload_n hx hb dX6_store_0 rfl (lv_at hl 0 rfl) ?_
  refine lv_iload_n hx hb dX6_store_1 rfl (lv_at hl 1 rfl) ?_
  refine lv_iconst (v := 1) hx hb dX6_store_2 (by decide) ?_
  refine wk_sv (26 + 2 * q) (As := [.int x0, .int 1]) (rest := []) ⟨hx, hb, hml, hown, hts⟩ (k_X6_hasRange_1 l D cI cS a na nc N L u hL hN q hq x0 (1 : Int32) (by decide : Rg 1 1 (1 : Int32))) hKK hP (ci := 6) rfl (gx_sh hq) (cwV 2 hts gX6_store_X6_hasRange rfl rfl rfl (by decide +kernel) ⟨Nat.le_of_ble_eq_true rfl, Nat.le_of_ble_eq_true rfl⟩) rfl hl.1 rfl (Nat.le_of_ble_eq_true rfl) dX6_store_3 ⟨Nat.le_of_ble_eq_true rfl, Nat.le_of_ble_eq_true rfl⟩ (fun r38657 hr38657 => ?_)
  refine lv_if_eq (tgt := 28) hx hb dX6_store_6 (by decide) (fun c38658 => ?_) (fun c38658 => ?_)
  · have g38659 : Rg 0 0 r38657 := wk_eql hr38657.1 (by decide : Rg 0 0 (0 : Int32)) c38658 (by decide)
    subst hAe
    exact W.vret hx hb hr (fun t ht hW => ⟨⟨u, rfl, trivial, by rw [ht]; exact hP, hD⟩, hS.F ht⟩) hS.2.2 dX6_store_28
  · have g38660 : Rg 0 39 x0 := (hr38657.2 c38658)
    have g38661 : Rg 1 1 r38657 := rg_ne_lo (k := 0) hr38657.1 (by decide) c38658 (by decide)
    refine lv_aload_n hx hb dX6_store_9 rfl (lv_at hl 0 rfl) ?_
    refine va_get (D := D) (ci := 6) (v := .ref (a (27 + 2 * q))) (C := RX6) (T := TX6) (N := 3) hx hb hts hin6 hown hK hP (26 + 2 * q) (gx_sh hq) rfl 0 (by decide) (hts (.fieldLink RX6 9 "MissedPoints$Sheet" "numbers" "[I") (by decide +kernel)) (fun _ h9 => h9) rfl dX6_store_10 ?_
    refine lv_iload_n hx hb dX6_store_13 rfl (lv_at hl 1 rfl) ?_
    refine lv_aload_n hx hb dX6_store_14 rfl (lv_at hl 0 rfl) ?_
    refine va_get (D := D) (ci := 6) (v := .int ((L (26 + 2 * q) 1))) (C := RX6) (T := TX6) (N := 3) hx hb hts hin6 hown hK hP (26 + 2 * q) (gx_sh hq) rfl 1 (by decide) (hts (.fieldLink RX6 15 "MissedPoints$Sheet" "sort" "I") (by decide +kernel)) (fun _ h9 => h9) rfl dX6_store_15 ?_
    refine lv_if_ne (tgt := 26) hx hb dX6_store_18 (by decide) (fun c38662 => ?_) (fun c38662 => ?_)
    · refine lv_iload_n hx hb dX6_store_26 rfl (lv_at hl 2 rfl) ?_
      refine ks_ast hx hb hK hP hD hS rfl (k := (27 + 2 * q)) (gx_shn hq) (sx_shn hq) (rg_in g38660 (by decide) (by decide)) dX6_store_27 (fun u H locs hP hD hS => ?_)
      subst hAe
      exact W.vret hx hb hr (fun t ht hW => ⟨⟨u, rfl, trivial, by rw [ht]; exact hP, hD⟩, hS.F ht⟩) hS.2.2 dX6_store_28
    · have g38663 : Rg 0 0 ((L (26 + 2 * q) 1)) := wk_eql (rg_any ((L (26 + 2 * q) 1))) (by decide : Rg 0 0 (0 : Int32)) c38662 (by decide)
      refine lv_iload_n hx hb dX6_store_21 rfl (lv_at hl 2 rfl) ?_
      refine lv_i2s hx hb dX6_store_22 rfl ?_
      refine wk_any (fun r38665 => ?_)
      refine lv_goto (tgt := 27) hx hb dX6_store_23 (by decide) ?_
      refine ks_ast hx hb hK hP hD hS rfl (k := (27 + 2 * q)) (gx_shn hq) (sx_shn hq) (rg_in g38660 (by decide) (by decide)) dX6_store_27 (fun u H locs hP hD hS => ?_)
      subst hAe
      exact W.vret hx hb hr (fun t ht hW => ⟨⟨u, rfl, trivial, by rw [ht]; exact hP, hD⟩, hS.F ht⟩) hS.2.2 dX6_store_28
set_option maxHeartbeats 4000000 in
set_option maxRecDepth 100000 in
theorem k_X6_hasRange (l : Launch) (D : va_G) (cI cS : ClassId) (a : Nat → Nat) (na nc N : Nat) (L u : SU) (hL : TyX L) (hN : N = 0 ∨ N = 24576) (q : Nat) (hq : q < 4) (x0 x1 : Int32) : Met l yX6_hasRange wsX6_hasRange ({ frames := 0, cells := 0, slots := 0, locals := 0 }) (PS D cI cS (wX cI cS a na nc N L u) [.ref (a (26 + 2 * q)), .int x0, .int x1]) (vp_Si (fun r => Rg 0 1 r ∧ (r ≠ 0 → Rg 0 40 x0 ∧ Rg 0 40 x1))) 0 0 (fun _ => False) := by
  refine Met.ofW (cc := cX6_hasRange) (maxL := 3) (ret := (some .boolean)) (by decide) rfl ?_
  intro p e s m args below meth c s₁ B hml hv
  obtain ⟨rfl, hP, hKK⟩ := hv
  have hx := B.exec
  have hb := B.bytes
  have hr := B.returns
  have hts := atoms_spec (ws := wsX6_hasRange) B.pre
  have hown : s.vm.findClass RX6 = some m.cls := findClass_of_methodNamed B.named
  have hlocks := B.notSynchronized
  have hK := hKK.1
  have hin6 : ∀ w ∈ wsX60, w ∈ wsX6_hasRange := by decide +kernel
  have hl := lv_entry ([.ref (a (26 + 2 * q)), .int x0, .int x1]) (n := 3) (Nat.le_of_ble_eq_true rfl)
  rw [lg_entry_eq]
  generalize (lg_sl ([.ref (a (26 + 2 * q)), .int x0, .int x1]) ++ List.replicate (3 - (lg_sl ([.ref (a (26 + 2 * q)), .int x0, .int x1])).length) Slot.unset).toArray = ls at hl ⊢
  have hl : lv_has ls 3 [(0, .ref (a (26 + 2 * q))), (1, .int x0), (2, .int x1)] := hl
  refine lv_iload_n hx hb dX6_hasRange_0 rfl (lv_at hl 1 rfl) ?_
  refine lv_if_lt (tgt := 30) hx hb dX6_hasRange_1 (by decide) (fun c38679 => ?_) (fun c38679 => ?_)
  · have g38680 : Rg (-2147483648) (-1) x0 := rg_ltl (rg_any x0) (by decide : Rg 0 0 (0 : Int32)) c38679 (by decide)
    refine lv_iconst (v := 0) hx hb dX6_hasRange_30 (by decide) ?_
    exact W.zret (v := 0) hx hb hr (by decide) (fun t ht hW => ⟨_, rfl, ⟨(by decide : Rg 0 1 (0 : Int32)), fun h9 => absurd rfl h9⟩, ht⟩) (fun q hq => absurd hq List.not_mem_nil) dX6_hasRange_31
  · have g38681 : Rg 0 2147483647 x0 := rg_ler (by decide : Rg 0 0 (0 : Int32)) (rg_any x0) (rg_nlt c38679) (by decide)
    refine lv_iload_n hx hb dX6_hasRange_4 rfl (lv_at hl 2 rfl) ?_
    refine lv_if_lt (tgt := 30) hx hb dX6_hasRange_5 (by decide) (fun c38682 => ?_) (fun c38682 => ?_)
    · have g38683 : Rg (-2147483648) (-1) x1 := rg_ltl (rg_any x1) (by decide : Rg 0 0 (0 : Int32)) c38682 (by decide)
      refine lv_iconst (v := 0) hx hb dX6_hasRange_30 (by decide) ?_
      exact W.zret (v := 0) hx hb hr (by decide) (fun t ht hW => ⟨_, rfl, ⟨(by decide : Rg 0 1 (0 : Int32)), fun h9 => absurd rfl h9⟩, ht⟩) (fun q hq => absurd hq List.not_mem_nil) dX6_hasRange_31
    · have g38684 : Rg 0 2147483647 x1 := rg_ler (by decide : Rg 0 0 (0 : Int32)) (rg_any x1) (rg_nlt c38682) (by decide)
      refine lv_iload_n hx hb dX6_hasRange_8 rfl (lv_at hl 2 rfl) ?_
      refine lv_aload_n hx hb dX6_hasRange_9 rfl (lv_at hl 0 rfl) ?_
      refine va_get (D := D) (ci := 6) (v := .int ((L (26 + 2 * q) 2))) (C := RX6) (T := TX6) (N := 3) hx hb hts hin6 hown hK hP (26 + 2 * q) (gx_sh hq) rfl 2 (by decide) (hts (.fieldLink RX6 28 "MissedPoints$Sheet" "size" "I") (by decide +kernel)) (fun _ h9 => h9) rfl dX6_hasRange_10 ?_
      refine lv_icmp_gt (tgt := 30) hx hb dX6_hasRange_13 (by decide) (fun c38685 => ?_) (fun c38685 => ?_)
      · have g38686 : Rg 1 2147483647 x1 := rg_ltr (hL.sh hq) g38684 c38685 (by decide)
        refine lv_iconst (v := 0) hx hb dX6_hasRange_30 (by decide) ?_
        exact W.zret (v := 0) hx hb hr (by decide) (fun t ht hW => ⟨_, rfl, ⟨(by decide : Rg 0 1 (0 : Int32)), fun h9 => absurd rfl h9⟩, ht⟩) (fun q hq => absurd hq List.not_mem_nil) dX6_hasRange_31
      · have g38687 : Rg 0 40 x1 := rg_lel g38684 (hL.sh hq) (rg_nlt c38685) (by decide)
        refine lv_iload_n hx hb dX6_hasRange_16 rfl (lv_at hl 1 rfl) ?_
        refine lv_aload_n hx hb dX6_hasRange_17 rfl (lv_at hl 0 rfl) ?_
        refine va_get (D := D) (ci := 6) (v := .int ((L (26 + 2 * q) 2))) (C := RX6) (T := TX6) (N := 3) hx hb hts hin6 hown hK hP (26 + 2 * q) (gx_sh hq) rfl 2 (by decide) (hts (.fieldLink RX6 28 "MissedPoints$Sheet" "size" "I") (by decide +kernel)) (fun _ h9 => h9) rfl dX6_hasRange_18 ?_
        refine lv_iload_n hx hb dX6_hasRange_21 rfl (lv_at hl 2 rfl) ?_
        refine wk_isub (e1 := (-40)) (f := 40) hx hb dX6_hasRange_22 (hL.sh hq) g38687 (by decide) (fun r38688 hr38688 er38688 qr38688 => ?_)
        refine lv_icmp_gt (tgt := 30) hx hb dX6_hasRange_23 (by decide) (fun c38689 => ?_) (fun c38689 => ?_)
        · refine lv_iconst (v := 0) hx hb dX6_hasRange_30 (by decide) ?_
          exact W.zret (v := 0) hx hb hr (by decide) (fun t ht hW => ⟨_, rfl, ⟨(by decide : Rg 0 1 (0 : Int32)), fun h9 => absurd rfl h9⟩, ht⟩) (fun q hq => absurd hq List.not_mem_nil) dX6_hasRange_31
        · have g38690 : Rg 0 40 r38688 := rg_ler g38681 hr38688 (rg_nlt c38689) (by decide)
          have g38691 : Rg 0 40 x0 := rg_lel g38681 hr38688 (rg_nlt c38689) (by decide)
          refine lv_iconst (v := 1) hx hb dX6_hasRange_26 (by decide) ?_
          refine lv_goto (tgt := 31) hx hb dX6_hasRange_27 (by decide) ?_
          exact W.zret (v := 1) hx hb hr (by decide) (fun t ht hW => ⟨_, rfl, ⟨(by decide : Rg 0 1 (1 : Int32)), fun _ => ⟨g38691, g38687⟩⟩, ht⟩) (fun q hq => absurd hq List.not_mem_nil) dX6_hasRange_31
theorem dX8_byteAt_12 : decode cX8_byteAt 12 = .ok (.iload_n 1, 1) := by decide +kernel
theorem dX8_byteAt_13 : decode cX8_byteAt 13 = .ok (.bipush 120, 2) := by decide +kernel
theorem dX8_byteAt_15 : decode cX8_byteAt 15 = .ok (.if_icmp .ge 12, 3) := by decide +kernel
theorem dX8_byteAt_18 : decode cX8_byteAt 18 = .ok (.aload_n 0, 1) := by decide +kernel
theorem dX8_byteAt_19 : decode cX8_byteAt 19 = .ok (.getfield 9, 3) := by decide +kernel
theorem dX8_byteAt_22 : decode cX8_byteAt 22 = .ok (.iload_n 1, 1) := by decide +kernel
theorem dX8_byteAt_23 : decode cX8_byteAt 23 = .ok (.iaload, 1) := by decide +kernel
theorem dX8_byteAt_24 : decode cX8_byteAt 24 = .ok (.goto 4, 3) := by decide +kernel
set_option maxHeartbeats 4000000 in
set_option maxRecDepth 100000 in
theorem k_X8_byteAt (l : Launch) (D : va_G) (cI cS : ClassId) (a : Nat → Nat) (na nc N : Nat) (L u : SU) (hL : TyX L) (hN : N = 0 ∨ N = 24576) (x0 : Int32) : Met l yX8_byteAt wsX8_byteAt ({ frames := 0, cells := 0, slots := 0, locals := 0 }) (PS D cI cS (wX cI cS a na nc N L u) [.ref (a 21), .int x0]) (vp_Si (fun r => Rg (-2147483648) 2147483647 r ∧ True)) 0 0 (fun _ => False) := by
  refine Met.ofW (cc := cX8_byteAt) (maxL := 2) (ret := (some .int)) (by decide) rfl ?_
  intro p e s m args below meth c s₁ B hml hv
  obtain ⟨rfl, hP, hKK⟩ := hv
  have hx := B.exec
  have hb := B.bytes
  have hr := B.returns
  have hts := atoms_spec (ws := wsX8_byteAt) B.pre
  have hown : s.vm.findClass RX8 = some m.cls := findClass_of_methodNamed B.named
  have hlocks := B.notSynchronized
  have hK := hKK.1
  have hin8 : ∀ w ∈ wsX80, w ∈ wsX8_byteAt := by decide +kernel
  have hl := lv_entry ([.ref (a 21), .int x0]) (n := 2) (Nat.le_of_ble_eq_true rfl)
  rw [lg_entry_eq]
  generalize (lg_sl ([.ref (a 21), .int x0]) ++ List.replicate (2 - (lg_sl ([.ref (a 21), .int x0])).length) Slot.unset).toArray = ls at hl ⊢
  have hl : lv_has ls 2 [(0, .ref (a 21)), (1, .int x0)] := hl
  refine lv_iload_n hx hb dX8_byteAt_0 rfl (lv_at hl 1 rfl) ?_
  refine lv_if_lt (tgt := 27) hx hb dX8_byteAt_1 (by decide) (fun c38700 => ?_) (fun c38700 => ?_)
  · have g38701 : Rg (-2147483648) (-1) x0 := rg_ltl (rg_any x0) (by decide : Rg 0 0 (0 : Int32)) c38700 (by decide)
    refine lv_iconst (v := (-1)) hx hb dX8_byteAt_27 (by decide) ?_
    exact W.iret (v := (-1)) hx hb hr (fun t ht hW => ⟨_, rfl, ⟨(by decide : Rg (-2147483648) 2147483647 ((-1) : Int32)), trivial⟩, ht⟩) (fun q hq => absurd hq List.not_mem_nil) dX8_byteAt_28
  · have g38702 : Rg 0 2147483647 x0 := rg_ler (by decide : Rg 0 0 (0 : Int32)) (rg_any x0) (rg_nlt c38700) (by decide)
    refine lv_iload_n hx hb dX8_byteAt_4 rfl (lv_at hl 1 rfl) ?_
    refine lv_aload_n hx hb dX8_byteAt_5 rfl (lv_at hl 0 rfl) ?_
    refine va_get (D := D) (ci := 8) (v := .int (L 21 1)) (C := RX8) (T := TX8) (N := 2) hx hb hts hin8 hown hK hP 21 rfl rfl 1 (by decide) (hts (.fieldLink RX8 15 "MissedPoints$Tape" "size" "I") (by decide +kernel)) (fun _ h9 => h9) rfl dX8_byteAt_6 ?_
    refine lv_icmp_ge (tgt := 27) hx hb dX8_byteAt_9 (by decide) (fun c38703 => ?_) (fun c38703 => ?_)
    · refine lv_iconst (v := (-1)) hx hb dX8_byteAt_27 (by decide) ?_
      exact W.iret (v := (-1)) hx hb hr (fun t ht hW => ⟨_, rfl, ⟨(by decide : Rg (-2147483648) 2147483647 ((-1) : Int32)), trivial⟩, ht⟩) (fun q hq => absurd hq List.not_mem_nil) dX8_byteAt_28
    · have g38704 : Rg 1 120 (L 21 1) := rg_ltr g38702 hL.2.2.2.1 (rg_nle c38703) (by decide)
      have g38705 : Rg 0 119 x0 := rg_ltl g38702 hL.2.2.2.1 (rg_nle c38703) (by decide)
      refine lv_iload_n hx hb dX8_byteAt_12 rfl (lv_at hl 1 rfl) ?_
      refine lv_bipush (v := 120) hx hb dX8_byteAt_13 (by decide) ?_
      refine lv_icmp_ge (tgt := 27) hx hb dX8_byteAt_15 (by decide) (fun c38706 => ?_) (fun c38706 => ?_)
      · exact absurd c38706 (wk_nle (by decide : Rg 120 120 (120 : Int32)) g38705 (by decide))
      · refine lv_aload_n hx hb dX8_byteAt_18 rfl (lv_at hl 0 rfl) ?_
        refine va_get (D := D) (ci := 8) (v := .ref (a 22)) (C := RX8) (T := TX8) (N := 2) hx hb hts hin8 hown hK hP 21 rfl rfl 0 (by decide) (hts (.fieldLink RX8 9 "MissedPoints$Tape" "bytes" "[I") (by decide +kernel)) (fun _ h9 => h9) rfl dX8_byteAt_19 ?_
        refine lv_iload_n hx hb dX8_byteAt_22 rfl (lv_at hl 1 rfl) ?_
        refine wk_aldA hx hb hK hP 22 0 rfl rfl (rg_in g38705 (by decide) (by decide)) dX8_byteAt_23 (fun r38707 => ?_)
        refine lv_goto (tgt := 28) hx hb dX8_byteAt_24 (by decide) ?_
        exact W.iret (v := r38707) hx hb hr (fun t ht hW => ⟨_, rfl, ⟨(rg_any r38707), trivial⟩, ht⟩) (fun q hq => absurd hq List.not_mem_nil) dX8_byteAt_28
theorem dX5_tokenOf_12 : decode cX5_tokenOf 12 = .ok (.iload_n 0, 1) := by decide +kernel
theorem dX5_tokenOf_13 : decode cX5_tokenOf 13 = .ok (.bipush 57, 2) := by decide +kernel
theorem dX5_tokenOf_15 : decode cX5_tokenOf 15 = .ok (.if_icmp .gt 6, 3) := by decide +kernel
theorem dX5_tokenOf_18 : decode cX5_tokenOf 18 = .ok (.bipush (-2), 2) := by decide +kernel
theorem dX5_tokenOf_20 : decode cX5_tokenOf 20 = .ok (.ireturn, 1) := by decide +kernel
theorem dX5_tokenOf_21 : decode cX5_tokenOf 21 = .ok (.iload_n 0, 1) := by decide +kernel
theorem dX5_tokenOf_22 : decode cX5_tokenOf 22 = .ok (.bipush 45, 2) := by decide +kernel
theorem dX5_tokenOf_24 : decode cX5_tokenOf 24 = .ok (.if_icmp .eq 33, 3) := by decide +kernel
theorem dX5_tokenOf_27 : decode cX5_tokenOf 27 = .ok (.iload_n 0, 1) := by decide +kernel
theorem dX5_tokenOf_28 : decode cX5_tokenOf 28 = .ok (.bipush 40, 2) := by decide +kernel
theorem dX5_tokenOf_30 : decode cX5_tokenOf 30 = .ok (.if_icmp .eq 27, 3) := by decide +kernel
theorem dX5_tokenOf_33 : decode cX5_tokenOf 33 = .ok (.iload_n 0, 1) := by decide +kernel
theorem dX5_tokenOf_34 : decode cX5_tokenOf 34 = .ok (.bipush 41, 2) := by decide +kernel
theorem dX5_tokenOf_36 : decode cX5_tokenOf 36 = .ok (.if_icmp .eq 21, 3) := by decide +kernel
theorem dX5_tokenOf_39 : decode cX5_tokenOf 39 = .ok (.iload_n 0, 1) := by decide +kernel
theorem dX5_tokenOf_40 : decode cX5_tokenOf 40 = .ok (.bipush 91, 2) := by decide +kernel
theorem dX5_tokenOf_42 : decode cX5_tokenOf 42 = .ok (.if_icmp .eq 15, 3) := by decide +kernel
theorem dX5_tokenOf_45 : decode cX5_tokenOf 45 = .ok (.iload_n 0, 1) := by decide +kernel
theorem dX5_tokenOf_46 : decode cX5_tokenOf 46 = .ok (.bipush 93, 2) := by decide +kernel
theorem dX5_tokenOf_48 : decode cX5_tokenOf 48 = .ok (.if_icmp .eq 9, 3) := by decide +kernel
theorem dX5_tokenOf_51 : decode cX5_tokenOf 51 = .ok (.iload_n 0, 1) := by decide +kernel
theorem dX5_tokenOf_52 : decode cX5_tokenOf 52 = .ok (.bipush 44, 2) := by decide +kernel
theorem dX5_tokenOf_54 : decode cX5_tokenOf 54 = .ok (.if_icmp .ne 7, 3) := by decide +kernel
theorem dX5_tokenOf_57 : decode cX5_tokenOf 57 = .ok (.iconst 1, 1) := by decide +kernel
theorem dX5_tokenOf_58 : decode cX5_tokenOf 58 = .ok (.goto 4, 3) := by decide +kernel
theorem dX5_tokenOf_6 : decode cX5_tokenOf 6 = .ok (.iload_n 0, 1) := by decide +kernel
theorem dX5_tokenOf_61 : decode cX5_tokenOf 61 = .ok (.iconst 0, 1) := by decide +kernel
theorem dX5_tokenOf_62 : decode cX5_tokenOf 62 = .ok (.istore_n 1, 1) := by decide +kernel
theorem dX5_tokenOf_63 : decode cX5_tokenOf 63 = .ok (.iload_n 1, 1) := by decide +kernel
theorem dX5_tokenOf_64 : decode cX5_tokenOf 64 = .ok (.ifCond .eq 7, 3) := by decide +kernel
theorem dX5_tokenOf_67 : decode cX5_tokenOf 67 = .ok (.iload_n 0, 1) := by decide +kernel
theorem dX5_tokenOf_68 : decode cX5_tokenOf 68 = .ok (.goto 5, 3) := by decide +kernel
theorem dX5_tokenOf_7 : decode cX5_tokenOf 7 = .ok (.bipush 48, 2) := by decide +kernel
theorem dX5_tokenOf_71 : decode cX5_tokenOf 71 = .ok (.bipush (-3), 2) := by decide +kernel
theorem dX5_tokenOf_73 : decode cX5_tokenOf 73 = .ok (.ireturn, 1) := by decide +kernel
theorem dX5_tokenOf_9 : decode cX5_tokenOf 9 = .ok (.if_icmp .lt 12, 3) := by decide +kernel
set_option maxHeartbeats 4000000 in
set_option maxRecDepth 100000 in
theorem k_X5_tokenOf (l : Launch) (D : va_G) (cI cS : ClassId) (x0 : Int32) : Met l yX5_tokenOf wsX5_tokenOf ({ frames := 0, cells := 0, slots := 0, locals := 0 }) (PS D cI cS [] [.int x0]) (vp_Si (fun r => Rg (-3) 93 r ∧ True)) 0 0 (fun _ => False) := by
  refine Met.ofW (cc := cX5_tokenOf) (maxL := 2) (ret := (some .int)) (by decide) rfl ?_
  intro p e s m args below meth c s₁ B hml hv
  obtain ⟨rfl, hP, hKK⟩ := hv
  have hx := B.exec
  have hb := B.bytes
  have hr := B.returns
  have hts := atoms_spec (ws := wsX5_tokenOf) B.pre
  have hown : s.vm.findClass RX5 = some m.cls := findClass_of_methodNamed B.named
  have hlocks := B.notSynchronized
  have hK := hKK.1
  have hl := lv_entry ([.int x0]) (n := 2) (Nat.le_of_ble_eq_true rfl)
  rw [lg_entry_eq]
  generalize (lg_sl ([.int x0]) ++ List.replicate (2 - (lg_sl ([.int x0])).length) Slot.unset).toArray = ls at hl ⊢
  have hl : lv_has ls 2 [(0, .int x0)] := hl
  have ct21 : ∀ (ls : Array Slot), Rg 0 2147483647 x0 → lv_has ls 2 [(0, .int x0)] → W p l e (headSpec wsX5_tokenOf ({ frames := 0, cells := 0, slots := 0, locals := 0 })).room s m ([.int x0]).toArray below meth c s.heap [] 0 0 (MQ below (vp_Si (fun r => Rg (-3) 93 r ∧ True)) ([.int x0]).toArray s 0 0 (fun _ => False)) (F0 m 21 ls []) := by
    intro ls g21_l0 hl
    refine lv_iload_n hx hb dX5_tokenOf_21 rfl (lv_at hl 0 rfl) ?_
    refine lv_bipush (v := 45) hx hb dX5_tokenOf_22 (by decide) ?_
    refine lv_icmp_eq (tgt := 57) hx hb dX5_tokenOf_24 (by decide) (fun c38764 => ?_) (fun c38764 => ?_)
    · have g38765 : Rg 45 45 x0 := wk_eql g21_l0 (by decide : Rg 45 45 (45 : Int32)) c38764 (by decide)
      refine lv_iconst (v := 1) hx hb dX5_tokenOf_57 (by decide) ?_
      refine lv_goto (tgt := 62) hx hb dX5_tokenOf_58 (by decide) ?_
      refine lv_istore_n (lv' := [(1, .int 1), (0, .int x0)]) hx hb dX5_tokenOf_62 rfl hl (by decide) rfl (fun ls hl => ?_)
      refine lv_iload_n hx hb dX5_tokenOf_63 rfl (lv_at hl 0 rfl) ?_
      refine lv_if_eq (tgt := 71) hx hb dX5_tokenOf_64 (by decide) (fun c38766 => ?_) (fun c38766 => ?_)
      · exact absurd c38766 (by decide)
      · refine lv_iload_n hx hb dX5_tokenOf_67 rfl (lv_at hl 1 rfl) ?_
        refine lv_goto (tgt := 73) hx hb dX5_tokenOf_68 (by decide) ?_
        exact W.iret (v := x0) hx hb hr (fun t ht hW => ⟨_, rfl, ⟨(show Rg (-3) 93 x0 from rg_w g38765 (by decide) (by decide)), trivial⟩, ht⟩) (fun q hq => absurd hq List.not_mem_nil) dX5_tokenOf_73
    · refine lv_iload_n hx hb dX5_tokenOf_27 rfl (lv_at hl 0 rfl) ?_
      refine lv_bipush (v := 40) hx hb dX5_tokenOf_28 (by decide) ?_
      refine lv_icmp_eq (tgt := 57) hx hb dX5_tokenOf_30 (by decide) (fun c38767 => ?_) (fun c38767 => ?_)
      · have g38768 : Rg 40 40 x0 := wk_eql g21_l0 (by decide : Rg 40 40 (40 : Int32)) c38767 (by decide)
        refine lv_iconst (v := 1) hx hb dX5_tokenOf_57 (by decide) ?_
        refine lv_goto (tgt := 62) hx hb dX5_tokenOf_58 (by decide) ?_
        refine lv_istore_n (lv' := [(1, .int 1), (0, .int x0)]) hx hb dX5_tokenOf_62 rfl hl (by decide) rfl (fun ls hl => ?_)
        refine lv_iload_n hx hb dX5_tokenOf_63 rfl (lv_at hl 0 rfl) ?_
        refine lv_if_eq (tgt := 71) hx hb dX5_tokenOf_64 (by decide) (fun c38769 => ?_) (fun c38769 => ?_)
        · exact absurd c38769 (by decide)
        · refine lv_iload_n hx hb dX5_tokenOf_67 rfl (lv_at hl 1 rfl) ?_
          refine lv_goto (tgt := 73) hx hb dX5_tokenOf_68 (by decide) ?_
          exact W.iret (v := x0) hx hb hr (fun t ht hW => ⟨_, rfl, ⟨(show Rg (-3) 93 x0 from rg_w g38768 (by decide) (by decide)), trivial⟩, ht⟩) (fun q hq => absurd hq List.not_mem_nil) dX5_tokenOf_73
      · refine lv_iload_n hx hb dX5_tokenOf_33 rfl (lv_at hl 0 rfl) ?_
        refine lv_bipush (v := 41) hx hb dX5_tokenOf_34 (by decide) ?_
        refine lv_icmp_eq (tgt := 57) hx hb dX5_tokenOf_36 (by decide) (fun c38770 => ?_) (fun c38770 => ?_)
        · have g38771 : Rg 41 41 x0 := wk_eql g21_l0 (by decide : Rg 41 41 (41 : Int32)) c38770 (by decide)
          refine lv_iconst (v := 1) hx hb dX5_tokenOf_57 (by decide) ?_
          refine lv_goto (tgt := 62) hx hb dX5_tokenOf_58 (by decide) ?_
          refine lv_istore_n (lv' := [(1, .int 1), (0, .int x0)]) hx hb dX5_tokenOf_62 rfl hl (by decide) rfl (fun ls hl => ?_)
          refine lv_iload_n hx hb dX5_tokenOf_63 rfl (lv_at hl 0 rfl) ?_
          refine lv_if_eq (tgt := 71) hx hb dX5_tokenOf_64 (by decide) (fun c38772 => ?_) (fun c38772 => ?_)
          · exact absurd c38772 (by decide)
          · refine lv_iload_n hx hb dX5_tokenOf_67 rfl (lv_at hl 1 rfl) ?_
            refine lv_goto (tgt := 73) hx hb dX5_tokenOf_68 (by decide) ?_
            exact W.iret (v := x0) hx hb hr (fun t ht hW => ⟨_, rfl, ⟨(show Rg (-3) 93 x0 from rg_w g38771 (by decide) (by decide)), trivial⟩, ht⟩) (fun q hq => absurd hq List.not_mem_nil) dX5_tokenOf_73
        · refine lv_iload_n hx hb dX5_tokenOf_39 rfl (lv_at hl 0 rfl) ?_
          refine lv_bipush (v := 91) hx hb dX5_tokenOf_40 (by decide) ?_
          refine lv_icmp_eq (tgt := 57) hx hb dX5_tokenOf_42 (by decide) (fun c38773 => ?_) (fun c38773 => ?_)
          · have g38774 : Rg 91 91 x0 := wk_eql g21_l0 (by decide : Rg 91 91 (91 : Int32)) c38773 (by decide)
            refine lv_iconst (v := 1) hx hb dX5_tokenOf_57 (by decide) ?_
            refine lv_goto (tgt := 62) hx hb dX5_tokenOf_58 (by decide) ?_
            refine lv_istore_n (lv' := [(1, .int 1), (0, .int x0)]) hx hb dX5_tokenOf_62 rfl hl (by decide) rfl (fun ls hl => ?_)
            refine lv_iload_n hx hb dX5_tokenOf_63 rfl (lv_at hl 0 rfl) ?_
            refine lv_if_eq (tgt := 71) hx hb dX5_tokenOf_64 (by decide) (fun c38775 => ?_) (fun c38775 => ?_)
            · exact absurd c38775 (by decide)
            · refine lv_iload_n hx hb dX5_tokenOf_67 rfl (lv_at hl 1 rfl) ?_
              refine lv_goto (tgt := 73) hx hb dX5_tokenOf_68 (by decide) ?_
              exact W.iret (v := x0) hx hb hr (fun t ht hW => ⟨_, rfl, ⟨(show Rg (-3) 93 x0 from rg_w g38774 (by decide) (by decide)), trivial⟩, ht⟩) (fun q hq => absurd hq List.not_mem_nil) dX5_tokenOf_73
          · refine lv_iload_n hx hb dX5_tokenOf_45 rfl (lv_at hl 0 rfl) ?_
            refine lv_bipush (v := 93) hx hb dX5_tokenOf_46 (by decide) ?_
            refine lv_icmp_eq (tgt := 57) hx hb dX5_tokenOf_48 (by decide) (fun c38776 => ?_) (fun c38776 => ?_)
            · have g38777 : Rg 93 93 x0 := wk_eql g21_l0 (by decide : Rg 93 93 (93 : Int32)) c38776 (by decide)
              refine lv_iconst (v := 1) hx hb dX5_tokenOf_57 (by decide) ?_
              refine lv_goto (tgt := 62) hx hb dX5_tokenOf_58 (by decide) ?_
              refine lv_istore_n (lv' := [(1, .int 1), (0, .int x0)]) hx hb dX5_tokenOf_62 rfl hl (by decide) rfl (fun ls hl => ?_)
              refine lv_iload_n hx hb dX5_tokenOf_63 rfl (lv_at hl 0 rfl) ?_
              refine lv_if_eq (tgt := 71) hx hb dX5_tokenOf_64 (by decide) (fun c38778 => ?_) (fun c38778 => ?_)
              · exact absurd c38778 (by decide)
              · refine lv_iload_n hx hb dX5_tokenOf_67 rfl (lv_at hl 1 rfl) ?_
                refine lv_goto (tgt := 73) hx hb dX5_tokenOf_68 (by decide) ?_
                exact W.iret (v := x0) hx hb hr (fun t ht hW => ⟨_, rfl, ⟨(show Rg (-3) 93 x0 from rg_w g38777 (by decide) (by decide)), trivial⟩, ht⟩) (fun q hq => absurd hq List.not_mem_nil) dX5_tokenOf_73
            · refine lv_iload_n hx hb dX5_tokenOf_51 rfl (lv_at hl 0 rfl) ?_
              refine lv_bipush (v := 44) hx hb dX5_tokenOf_52 (by decide) ?_
              refine lv_icmp_ne (tgt := 61) hx hb dX5_tokenOf_54 (by decide) (fun c38779 => ?_) (fun c38779 => ?_)
              · refine lv_iconst (v := 0) hx hb dX5_tokenOf_61 (by decide) ?_
                refine lv_istore_n (lv' := [(1, .int 0), (0, .int x0)]) hx hb dX5_tokenOf_62 rfl hl (by decide) rfl (fun ls hl => ?_)
                refine lv_iload_n hx hb dX5_tokenOf_63 rfl (lv_at hl 0 rfl) ?_
                refine lv_if_eq (tgt := 71) hx hb dX5_tokenOf_64 (by decide) (fun c38780 => ?_) (fun c38780 => ?_)
                · refine lv_bipush (v := (-3)) hx hb dX5_tokenOf_71 (by decide) ?_
                  exact W.iret (v := (-3)) hx hb hr (fun t ht hW => ⟨_, rfl, ⟨(by decide : Rg (-3) 93 ((-3) : Int32)), trivial⟩, ht⟩) (fun q hq => absurd hq List.not_mem_nil) dX5_tokenOf_73
                · exact absurd c38780 (by decide)
              · have g38781 : Rg 44 44 x0 := wk_eql g21_l0 (by decide : Rg 44 44 (44 : Int32)) c38779 (by decide)
                refine lv_iconst (v := 1) hx hb dX5_tokenOf_57 (by decide) ?_
                refine lv_goto (tgt := 62) hx hb dX5_tokenOf_58 (by decide) ?_
                refine lv_istore_n (lv' := [(1, .int 1), (0, .int x0)]) hx hb dX5_tokenOf_62 rfl hl (by decide) rfl (fun ls hl => ?_)
                refine lv_iload_n hx hb dX5_tokenOf_63 rfl (lv_at hl 0 rfl) ?_
                refine lv_if_eq (tgt := 71) hx hb dX5_tokenOf_64 (by decide) (fun c38782 => ?_) (fun c38782 => ?_)
                · exact absurd c38782 (by decide)
                · refine lv_iload_n hx hb dX5_tokenOf_67 rfl (lv_at hl 1 rfl) ?_
                  refine lv_goto (tgt := 73) hx hb dX5_tokenOf_68 (by decide) ?_
                  exact W.iret (v := x0) hx hb hr (fun t ht hW => ⟨_, rfl, ⟨(show Rg (-3) 93 x0 from rg_w g38781 (by decide) (by decide)), trivial⟩, ht⟩) (fun q hq => absurd hq List.not_mem_nil) dX5_tokenOf_73
  refine lv_iload_n hx hb dX5_tokenOf_0 rfl (lv_at hl 0 rfl) ?_
  refine lv_if_ge (tgt := 6) hx hb dX5_tokenOf_1 (by decide) (fun c38783 => ?_) (fun c38783 => ?_)
  · have g38784 : Rg 0 2147483647 x0 := rg_ler (by decide : Rg 0 0 (0 : Int32)) (rg_any x0) c38783 (by decide)
    refine lv_iload_n hx hb dX5_tokenOf_6 rfl (lv_at hl 0 rfl) ?_
    refine lv_bipush (v := 48) hx hb dX5_tokenOf_7 (by decide) ?_
    refine lv_icmp_lt (tgt := 21) hx hb dX5_tokenOf_9 (by decide) (fun c38785 => ?_) (fun c38785 => ?_)
    · have g38786 : Rg 0 47 x0 := rg_ltl g38784 (by decide : Rg 48 48 (48 : Int32)) c38785 (by decide)
      exact ct21 ls (show Rg 0 2147483647 x0 from rg_w g38786 (by decide) (by decide)) (lv_sub (l' := [(0, .int x0)]) hl [0] rfl)
    · have g38787 : Rg 48 2147483647 x0 := rg_ler (by decide : Rg 48 48 (48 : Int32)) g38784 (rg_nlt c38785) (by decide)
      refine lv_iload_n hx hb dX5_tokenOf_12 rfl (lv_at hl 0 rfl) ?_
      refine lv_bipush (v := 57) hx hb dX5_tokenOf_13 (by decide) ?_
      refine lv_icmp_gt (tgt := 21) hx hb dX5_tokenOf_15 (by decide) (fun c38788 => ?_) (fun c38788 => ?_)
      · have g38789 : Rg 58 2147483647 x0 := rg_ltr (by decide : Rg 57 57 (57 : Int32)) g38787 c38788 (by decide)
        exact ct21 ls (show Rg 0 2147483647 x0 from rg_w g38789 (by decide) (by decide)) (lv_sub (l' := [(0, .int x0)]) hl [0] rfl)
      · have g38790 : Rg 48 57 x0 := rg_lel g38787 (by decide : Rg 57 57 (57 : Int32)) (rg_nlt c38788) (by decide)
        refine lv_bipush (v := (-2)) hx hb dX5_tokenOf_18 (by decide) ?_
        exact W.iret (v := (-2)) hx hb hr (fun t ht hW => ⟨_, rfl, ⟨(by decide : Rg (-3) 93 ((-2) : Int32)), trivial⟩, ht⟩) (fun q hq => absurd hq List.not_mem_nil) dX5_tokenOf_20
  · have g38791 : Rg (-2147483648) (-1) x0 := rg_ltl (rg_any x0) (by decide : Rg 0 0 (0 : Int32)) (rg_nle c38783) (by decide)
    refine lv_iconst (v := (-1)) hx hb dX5_tokenOf_4 (by decide) ?_
    exact W.iret (v := (-1)) hx hb hr (fun t ht hW => ⟨_, rfl, ⟨(by decide : Rg (-3) 93 ((-1) : Int32)), trivial⟩, ht⟩) (fun q hq => absurd hq List.not_mem_nil) dX5_tokenOf_5
set_option maxHeartbeats 4000000 in
set_option maxRecDepth 100000 in
theorem k_X5_fail (l : Launch) (D : va_G) (cI cS : ClassId) (sz : Nat) (a : Nat → Nat) (na nc N : Nat) (L u0 : SU) (hL : TyX L) (hN : N = 0 ∨ N = 24576) : Met l yX5_fail wsX5_fail ({ frames := 0, cells := 0, slots := 0, locals := 0 }) (PQ D cI cS (wX cI cS a na nc N L u0) sz [.ref (a 23)]) (QE (S := SU) D (wX cI cS a na nc N L u0) (wX cI cS a na nc N L) sz (fun _ => True)) 0 0 (va_A (wX cI cS a na nc N L u0) sz) := by
  refine Met.ofW (cc := cX5_fail) (maxL := 1) (ret := none) (by decide) rfl ?_
  intro p e s m args below meth c s₁ B hml hv
  obtain ⟨rfl, hsz, hP, hKK, hD0⟩ := hv
  have hx := B.exec
  have hb := B.bytes
  have hr := B.returns
  have hts := atoms_spec (ws := wsX5_fail) B.pre
  have hown : s.vm.findClass RX5 = some m.cls := findClass_of_methodNamed B.named
  have hlocks := B.notSynchronized
  have hK := hKK.1
  have hin5 : ∀ w ∈ wsX50, w ∈ wsX5_fail := by decide +kernel
  subst hsz
  have hD := hD0.self (sz := s.heap.size)
  obtain ⟨A, hAe⟩ : ∃ A, A = va_A (wX cI cS a na nc N L u0) s.heap.size := ⟨_, rfl⟩
  rw [← hAe] at hD
  have hA : ∀ q : Nat, s.heap.size ≤ q → A q := fun q h => by rw [hAe]; exact Or.inr h
  have hS : va_S A s.heap s.heap [] := va_S.rf
  have hl := lv_entry ([.ref (a 23)]) (n := 1) (Nat.le_of_ble_eq_true rfl)
  rw [lg_entry_eq]
  generalize (lg_sl ([.ref (a 23)]) ++ List.replicate (1 - (lg_sl ([.ref (a 23)])).length) Slot.unset).toArray = ls at hl ⊢
  have hl : lv_has ls 1 [(0, .ref (a 23))] := hl
  obtain ⟨u, hu9⟩ : ∃ u : SU, u = u0 := ⟨_, rfl⟩
  rw [← hu9] at hP hD
  refine lv_aload_n hx hb dX5_fail_0 rfl (lv_at hl 0 rfl) ?_
  refine va_get (D := D) (ci := 5) (v := .int (u 23 7)) (C := RX5) (T := TX5) (N := 8) hx hb hts hin5 hown hK hP 23 rfl rfl 7 (by decide) (hts (.fieldLink RX5 27 "MissedPoints$Reader" "fault" "I") (by decide +kernel)) (fun _ h9 => h9) rfl dX5_fail_1 ?_
  refine wk_any (fun r38797 => ?_)
  refine lv_if_ge (tgt := 15) hx hb dX5_fail_4 (by decide) (fun c38798 => ?_) (fun c38798 => ?_)
  · have g38799 : Rg 0 2147483647 r38797 := rg_ler (by decide : Rg 0 0 (0 : Int32)) (rg_any r38797) c38798 (by decide)
    subst hAe
    exact W.vret hx hb hr (fun t ht hW => ⟨⟨u, rfl, trivial, by rw [ht]; exact hP, hD⟩, hS.F ht⟩) hS.2.2 dX5_fail_15
  · have g38800 : Rg (-2147483648) (-1) r38797 := rg_ltl (rg_any r38797) (by decide : Rg 0 0 (0 : Int32)) (rg_nle c38798) (by decide)
    refine lv_aload_n hx hb dX5_fail_7 rfl (lv_at hl 0 rfl) ?_
    refine lv_aload_n hx hb dX5_fail_8 rfl (lv_at hl 0 rfl) ?_
    refine va_get (D := D) (ci := 5) (v := .int (u 23 4)) (C := RX5) (T := TX5) (N := 8) hx hb hts hin5 hown hK hP 23 rfl rfl 4 (by decide) (hts (.fieldLink RX5 42 "MissedPoints$Reader" "start" "I") (by decide +kernel)) (fun _ h9 => h9) rfl dX5_fail_9 ?_
    refine wk_any (fun r38801 => ?_)
    refine va_put (D := D) (ci := 5) (v := .int r38801) (ty := .int) (C := RX5) (T := TX5) (N := 8) hx hb hts hin5 tyX5 tyX5_ok nmX5 hown hK hP hD hS 23 rfl rfl 7 (by decide) (hts (.fieldLink RX5 27 "MissedPoints$Reader" "fault" "I") (by decide +kernel)) (fun _ h9 => h9) rfl (by decide +kernel) rfl rfl (Nat.le_of_ble_eq_true rfl) dX5_fail_12 (fun H locs hP hD hS => ?_)
    rw [sxf_23_7] at hP hD
    generalize sU u 23 _ = u at hP hD
    subst hAe
    exact W.vret hx hb hr (fun t ht hW => ⟨⟨u, rfl, trivial, by rw [ht]; exact hP, hD⟩, hS.F ht⟩) hS.2.2 dX5_fail_15
theorem dX5_step_103 : decode cX5_step 103 = .ok (.aload_n 0, 1) := by decide +kernel
theorem dX5_step_104 : decode cX5_step 104 = .ok (.getfield 15, 3) := by decide +kernel
theorem dX5_step_107 : decode cX5_step 107 = .ok (.aload_n 0, 1) := by decide +kernel
theorem dX5_step_108 : decode cX5_step 108 = .ok (.getfield 23, 3) := by decide +kernel
theorem dX5_step_111 : decode cX5_step 111 = .ok (.invokevirtual 45, 3) := by decide +kernel
theorem dX5_step_114 : decode cX5_step 114 = .ok (.bipush 48, 2) := by decide +kernel
theorem dX5_step_116 : decode cX5_step 116 = .ok (.isub, 1) := by decide +kernel
theorem dX5_step_117 : decode cX5_step 117 = .ok (.istore_n 1, 1) := by decide +kernel
theorem dX5_step_118 : decode cX5_step 118 = .ok (.iconst 0, 1) := by decide +kernel
theorem dX5_step_119 : decode cX5_step 119 = .ok (.istore_n 2, 1) := by decide +kernel
theorem dX5_step_120 : decode cX5_step 120 = .ok (.iload_n 2, 1) := by decide +kernel
theorem dX5_step_121 : decode cX5_step 121 = .ok (.bipush 120, 2) := by decide +kernel
theorem dX5_step_123 : decode cX5_step 123 = .ok (.if_icmp .ge 70, 3) := by decide +kernel
theorem dX5_step_126 : decode cX5_step 126 = .ok (.iload_n 1, 1) := by decide +kernel
theorem dX5_step_127 : decode cX5_step 127 = .ok (.bipush 99, 2) := by decide +kernel
theorem dX5_step_129 : decode cX5_step 129 = .ok (.if_icmp .gt 64, 3) := by decide +kernel
theorem dX5_step_132 : decode cX5_step 132 = .ok (.aload_n 0, 1) := by decide +kernel
theorem dX5_step_133 : decode cX5_step 133 = .ok (.iload_n 1, 1) := by decide +kernel
theorem dX5_step_134 : decode cX5_step 134 = .ok (.putfield 51, 3) := by decide +kernel
theorem dX5_step_137 : decode cX5_step 137 = .ok (.aload_n 0, 1) := by decide +kernel
theorem dX5_step_138 : decode cX5_step 138 = .ok (.dup, 1) := by decide +kernel
theorem dX5_step_139 : decode cX5_step 139 = .ok (.getfield 23, 3) := by decide +kernel
theorem dX5_step_142 : decode cX5_step 142 = .ok (.iconst 1, 1) := by decide +kernel
theorem dX5_step_143 : decode cX5_step 143 = .ok (.iadd, 1) := by decide +kernel
theorem dX5_step_144 : decode cX5_step 144 = .ok (.putfield 23, 3) := by decide +kernel
theorem dX5_step_147 : decode cX5_step 147 = .ok (.aload_n 0, 1) := by decide +kernel
theorem dX5_step_148 : decode cX5_step 148 = .ok (.getfield 15, 3) := by decide +kernel
theorem dX5_step_151 : decode cX5_step 151 = .ok (.aload_n 0, 1) := by decide +kernel
theorem dX5_step_152 : decode cX5_step 152 = .ok (.getfield 23, 3) := by decide +kernel
theorem dX5_step_155 : decode cX5_step 155 = .ok (.invokevirtual 45, 3) := by decide +kernel
theorem dX5_step_158 : decode cX5_step 158 = .ok (.bipush 48, 2) := by decide +kernel
theorem dX5_step_160 : decode cX5_step 160 = .ok (.isub, 1) := by decide +kernel
theorem dX5_step_161 : decode cX5_step 161 = .ok (.istore_n 3, 1) := by decide +kernel
theorem dX5_step_162 : decode cX5_step 162 = .ok (.iload_n 3, 1) := by decide +kernel
theorem dX5_step_163 : decode cX5_step 163 = .ok (.ifCond .lt 9, 3) := by decide +kernel
theorem dX5_step_166 : decode cX5_step 166 = .ok (.iload_n 3, 1) := by decide +kernel
theorem dX5_step_167 : decode cX5_step 167 = .ok (.bipush 9, 2) := by decide +kernel
theorem dX5_step_169 : decode cX5_step 169 = .ok (.if_icmp .le 8, 3) := by decide +kernel
theorem dX5_step_172 : decode cX5_step 172 = .ok (.bipush 100, 2) := by decide +kernel
theorem dX5_step_174 : decode cX5_step 174 = .ok (.goto 12, 3) := by decide +kernel
theorem dX5_step_177 : decode cX5_step 177 = .ok (.aload_n 0, 1) := by decide +kernel
theorem dX5_step_178 : decode cX5_step 178 = .ok (.getfield 51, 3) := by decide +kernel
theorem dX5_step_181 : decode cX5_step 181 = .ok (.bipush 10, 2) := by decide +kernel
theorem dX5_step_183 : decode cX5_step 183 = .ok (.imul, 1) := by decide +kernel
theorem dX5_step_184 : decode cX5_step 184 = .ok (.iload_n 3, 1) := by decide +kernel
theorem dX5_step_185 : decode cX5_step 185 = .ok (.iadd, 1) := by decide +kernel
theorem dX5_step_186 : decode cX5_step 186 = .ok (.istore_n 1, 1) := by decide +kernel
theorem dX5_step_187 : decode cX5_step 187 = .ok (.iinc 2 1, 3) := by decide +kernel
theorem dX5_step_190 : decode cX5_step 190 = .ok (.goto (-70), 3) := by decide +kernel
theorem dX5_step_193 : decode cX5_step 193 = .ok (.return_, 1) := by decide +kernel
theorem dX5_step_24 : decode cX5_step 24 = .ok (.aload_n 0, 1) := by decide +kernel
theorem dX5_step_25 : decode cX5_step 25 = .ok (.dup, 1) := by decide +kernel
theorem dX5_step_26 : decode cX5_step 26 = .ok (.getfield 23, 3) := by decide +kernel
theorem dX5_step_29 : decode cX5_step 29 = .ok (.iconst 1, 1) := by decide +kernel
theorem dX5_step_30 : decode cX5_step 30 = .ok (.iadd, 1) := by decide +kernel
theorem dX5_step_31 : decode cX5_step 31 = .ok (.putfield 23, 3) := by decide +kernel
theorem dX5_step_34 : decode cX5_step 34 = .ok (.iinc 1 1, 3) := by decide +kernel
theorem dX5_step_37 : decode cX5_step 37 = .ok (.goto (-35), 3) := by decide +kernel
theorem dX5_step_97 : decode cX5_step 97 = .ok (.iconst 1, 1) := by decide +kernel
set_option maxHeartbeats 4000000 in
set_option maxRecDepth 100000 in
theorem k_X5_step (l : Launch) (D : va_G) (cI cS : ClassId) (sz : Nat) (a : Nat → Nat) (na nc N : Nat) (L u0 : SU) (hL : TyX L) (hN : N = 0 ∨ N = 24576) : Met l yX5_step wsX5_step ({ frames := 1, cells := 0, slots := 0, locals := 40 }) (PQ D cI cS (wX cI cS a na nc N L u0) sz [.ref (a 23)]) (QE (S := SU) D (wX cI cS a na nc N L u0) (wX cI cS a na nc N L) sz (fun _ => True)) 0 0 (va_A (wX cI cS a na nc N L u0) sz) := by
  refine Met.ofW (cc := cX5_step) (maxL := 4) (ret := none) (by decide) rfl ?_
  intro p e s m args below meth c s₁ B hml hv
  obtain ⟨rfl, hsz, hP, hKK, hD0⟩ := hv
  have hx := B.exec
  have hb := B.bytes
  have hr := B.returns
  have hts := atoms_spec (ws := wsX5_step) B.pre
  have hown : s.vm.findClass RX5 = some m.cls := findClass_of_methodNamed B.named
  have hlocks := B.notSynchronized
  have hK := hKK.1
  have hin5 : ∀ w ∈ wsX50, w ∈ wsX5_step := by decide +kernel
  subst hsz
  have hD := hD0.self (sz := s.heap.size)
  obtain ⟨A, hAe⟩ : ∃ A, A = va_A (wX cI cS a na nc N L u0) s.heap.size := ⟨_, rfl⟩
  rw [← hAe] at hD
  have hA : ∀ q : Nat, s.heap.size ≤ q → A q := fun q h => by rw [hAe]; exact Or.inr h
  have hS : va_S A s.heap s.heap [] := va_S.rf
  have hl := lv_entry ([.ref (a 23)]) (n := 4) (Nat.le_of_ble_eq_true rfl)
  rw [lg_entry_eq]
  generalize (lg_sl ([.ref (a 23)]) ++ List.replicate (4 - (lg_sl ([.ref (a 23)])).length) Slot.unset).toArray = ls at hl ⊢
  have hl : lv_has ls 4 [(0, .ref (a 23))] := hl
  obtain ⟨u, hu9⟩ : ∃ u : SU, u = u0 := ⟨_, rfl⟩
  rw [← hu9] at hP hD
  have lp120 : ∀ (n120 : Nat) (y120_l1 : Int32) (y120_l2 : Int32) (u : SU) (H : Heap) (locs : List Loc) (ls : Array Slot), Rg 0 120 y120_l2 → va_P D cls (wX cI cS a na nc N L u) H → va_D A (wX cI cS a na nc N L u) → va_S A s.heap H locs → lv_has ls 4 [(0, .ref (a 23)), (1, .int y120_l1), (2, .int y120_l2)] → 120 - y120_l2.toInt < (n120 : Int) → W p l e (headSpec wsX5_step ({ frames := 1, cells := 0, slots := 0, locals := 40 })).room s m ([.ref (a 23)]).toArray below meth c H locs 0 0 (MQ below (QE (S := SU) D (wX cI cS a na nc N L u0) (wX cI cS a na nc N L) s.heap.size (fun _ => True)) ([.ref (a 23)]).toArray s 0 0 (va_A (wX cI cS a na nc N L u0) s.heap.size)) (F0 m 120 ls []) := by
    intro n120
    induction n120 with
    | zero =>
      intro y120_l1 y120_l2 u H locs ls g120_l2 hP hD hS hl hm120
      exact absurd rfl (me_z g120_l2 hm120)
    | succ n120 ih120 =>
      intro y120_l1 y120_l2 u H locs ls g120_l2 hP hD hS hl hm120
      refine lv_iload_n hx hb dX5_step_120 rfl (lv_at hl 2 rfl) ?_
      refine lv_bipush (v := 120) hx hb dX5_step_121 (by decide) ?_
      refine lv_icmp_ge (tgt := 193) hx hb dX5_step_123 (by decide) (fun c39643 => ?_) (fun c39643 => ?_)
      · have g39644 : Rg 120 120 y120_l2 := rg_ler (by decide : Rg 120 120 (120 : Int32)) g120_l2 c39643 (by decide)
        subst hAe
        exact W.vret hx hb hr (fun t ht hW => ⟨⟨u, rfl, trivial, by rw [ht]; exact hP, hD⟩, hS.F ht⟩) hS.2.2 dX5_step_193
      · have g39645 : Rg 0 119 y120_l2 := rg_ltl g120_l2 (by decide : Rg 120 120 (120 : Int32)) (rg_nle c39643) (by decide)
        refine lv_iload_n hx hb dX5_step_126 rfl (lv_at hl 1 rfl) ?_
        refine lv_bipush (v := 99) hx hb dX5_step_127 (by decide) ?_
        refine lv_icmp_gt (tgt := 193) hx hb dX5_step_129 (by decide) (fun c39646 => ?_) (fun c39646 => ?_)
        · have g39647 : Rg 100 2147483647 y120_l1 := rg_ltr (by decide : Rg 99 99 (99 : Int32)) (rg_any y120_l1) c39646 (by decide)
          subst hAe
          exact W.vret hx hb hr (fun t ht hW => ⟨⟨u, rfl, trivial, by rw [ht]; exact hP, hD⟩, hS.F ht⟩) hS.2.2 dX5_step_193
        · have g39648 : Rg (-2147483648) 99 y120_l1 := rg_lel (rg_any y120_l1) (by decide : Rg 99 99 (99 : Int32)) (rg_nlt c39646) (by decide)
          refine lv_aload_n hx hb dX5_step_132 rfl (lv_at hl 0 rfl) ?_
          refine lv_iload_n hx hb dX5_step_133 rfl (lv_at hl 1 rfl) ?_
          refine va_put (D := D) (ci := 5) (v := .int y120_l1) (ty := .int) (C := RX5) (T := TX5) (N := 8) hx hb hts hin5 tyX5 tyX5_ok nmX5 hown hK hP hD hS 23 rfl rfl 6 (by decide) (hts (.fieldLink RX5 51 "MissedPoints$Reader" "value" "I") (by decide +kernel)) (fun _ h9 => h9) rfl (by decide +kernel) rfl rfl (Nat.le_of_ble_eq_true rfl) dX5_step_134 (fun H locs hP hD hS => ?_)
          rw [sxf_23_6] at hP hD
          generalize sU u 23 _ = u at hP hD
          refine lv_aload_n hx hb dX5_step_137 rfl (lv_at hl 0 rfl) ?_
          refine lv_dup hx hb dX5_step_138 rfl ?_
          refine va_get (D := D) (ci := 5) (v := .int (u 23 3)) (C := RX5) (T := TX5) (N := 8) hx hb hts hin5 hown hK hP 23 rfl rfl 3 (by decide) (hts (.fieldLink RX5 23 "MissedPoints$Reader" "at" "I") (by decide +kernel)) (fun _ h9 => h9) rfl dX5_step_139 ?_
          refine wk_any (fun r39649 => ?_)
          refine lv_iconst (v := 1) hx hb dX5_step_142 (by decide) ?_
          refine lv_iadd hx hb dX5_step_143 ?_
          refine wk_topP (P := fun r => r = r39649 + (1 : Int32)) rfl (fun r39650 qr39650 => ?_)
          refine va_put (D := D) (ci := 5) (v := .int r39650) (ty := .int) (C := RX5) (T := TX5) (N := 8) hx hb hts hin5 tyX5 tyX5_ok nmX5 hown hK hP hD hS 23 rfl rfl 3 (by decide) (hts (.fieldLink RX5 23 "MissedPoints$Reader" "at" "I") (by decide +kernel)) (fun _ h9 => h9) rfl (by decide +kernel) rfl rfl (Nat.le_of_ble_eq_true rfl) dX5_step_144 (fun H locs hP hD hS => ?_)
          rw [sxf_23_3] at hP hD
          generalize sU u 23 _ = u at hP hD
          refine lv_aload_n hx hb dX5_step_147 rfl (lv_at hl 0 rfl) ?_
          refine va_get (D := D) (ci := 5) (v := .ref (a 21)) (C := RX5) (T := TX5) (N := 8) hx hb hts hin5 hown hK hP 23 rfl rfl 0 (by decide) (hts (.fieldLink RX5 15 "MissedPoints$Reader" "tape" "LMissedPoints$Tape;") (by decide +kernel)) (fun _ h9 => h9) rfl dX5_step_148 ?_
          refine lv_aload_n hx hb dX5_step_151 rfl (lv_at hl 0 rfl) ?_
          refine va_get (D := D) (ci := 5) (v := .int (u 23 3)) (C := RX5) (T := TX5) (N := 8) hx hb hts hin5 hown hK hP 23 rfl rfl 3 (by decide) (hts (.fieldLink RX5 23 "MissedPoints$Reader" "at" "I") (by decide +kernel)) (fun _ h9 => h9) rfl dX5_step_152 ?_
          refine wk_any (fun r39651 => ?_)
          refine wk_sv 21 (As := [.int r39651]) (rest := []) ⟨hx, hb, hml, hown, hts⟩ (k_X8_byteAt l D cI cS a na nc N L u hL hN r39651) hKK hP (ci := 8) rfl rfl (cwV 1 hts gX5_step_X8_byteAt rfl rfl rfl (by decide +kernel) ⟨Nat.le_of_ble_eq_true rfl, Nat.le_of_ble_eq_true rfl⟩) rfl hl.1 rfl (Nat.le_of_ble_eq_true rfl) dX5_step_155 ⟨Nat.le_of_ble_eq_true rfl, Nat.le_of_ble_eq_true rfl⟩ (fun r39652 hr39652 => ?_)
          refine lv_bipush (v := 48) hx hb dX5_step_158 (by decide) ?_
          refine lv_isub hx hb dX5_step_160 ?_
          refine wk_topP (P := fun r => r = r39652 - (48 : Int32)) rfl (fun r39653 qr39653 => ?_)
          refine lv_istore_n (lv' := [(3, .int r39653), (0, .ref (a 23)), (1, .int y120_l1), (2, .int y120_l2)]) hx hb dX5_step_161 rfl hl (by decide) rfl (fun ls hl => ?_)
          refine lv_iload_n hx hb dX5_step_162 rfl (lv_at hl 0 rfl) ?_
          refine lv_if_lt (tgt := 172) hx hb dX5_step_163 (by decide) (fun c39654 => ?_) (fun c39654 => ?_)
          · have g39655 : Rg (-2147483648) (-1) r39653 := rg_ltl (rg_any r39653) (by decide : Rg 0 0 (0 : Int32)) c39654 (by decide)
            refine lv_bipush (v := 100) hx hb dX5_step_172 (by decide) ?_
            refine lv_goto (tgt := 186) hx hb dX5_step_174 (by decide) ?_
            refine lv_istore_n (lv' := [(1, .int 100), (3, .int r39653), (0, .ref (a 23)), (2, .int y120_l2)]) hx hb dX5_step_186 rfl hl (by decide) rfl (fun ls hl => ?_)
            refine wk_iinc (lv' := fun r => [(2, .int r), (1, .int 100), (3, .int r39653), (0, .ref (a 23))]) (e1 := 1) (f := 120) hx hb dX5_step_187 hl (k := 3) rfl (by decide) g39645 (by decide) (fun _ => rfl) (fun r39656 ls hr39656 er39656 hl => ?_)
            refine lv_goto (tgt := 120) hx hb dX5_step_190 (by decide) ?_
            exact ih120 (100 : Int32) r39656 u _ _ ls (show Rg 0 120 r39656 from rg_w hr39656 (by decide) (by decide)) hP hD hS (lv_sub (l' := [(0, .ref (a 23)), (1, .int 100), (2, .int r39656)]) hl [3, 1, 0] rfl) (me_up hm120 er39656 (by decide))
          · have g39657 : Rg 0 2147483647 r39653 := rg_ler (by decide : Rg 0 0 (0 : Int32)) (rg_any r39653) (rg_nlt c39654) (by decide)
            refine lv_iload_n hx hb dX5_step_166 rfl (lv_at hl 0 rfl) ?_
            refine lv_bipush (v := 9) hx hb dX5_step_167 (by decide) ?_
            refine lv_icmp_le (tgt := 177) hx hb dX5_step_169 (by decide) (fun c39658 => ?_) (fun c39658 => ?_)
            · have g39659 : Rg 0 9 r39653 := rg_lel g39657 (by decide : Rg 9 9 (9 : Int32)) c39658 (by decide)
              refine lv_aload_n hx hb dX5_step_177 rfl (lv_at hl 1 rfl) ?_
              refine va_get (D := D) (ci := 5) (v := .int (u 23 6)) (C := RX5) (T := TX5) (N := 8) hx hb hts hin5 hown hK hP 23 rfl rfl 6 (by decide) (hts (.fieldLink RX5 51 "MissedPoints$Reader" "value" "I") (by decide +kernel)) (fun _ h9 => h9) rfl dX5_step_178 ?_
              refine wk_any (fun r39660 => ?_)
              refine lv_bipush (v := 10) hx hb dX5_step_181 (by decide) ?_
              refine lv_imul hx hb dX5_step_183 ?_
              refine wk_topP (P := fun r => r = r39660 * (10 : Int32)) rfl (fun r39661 qr39661 => ?_)
              refine lv_iload_n hx hb dX5_step_184 rfl (lv_at hl 0 rfl) ?_
              refine lv_iadd hx hb dX5_step_185 ?_
              refine wk_topP (P := fun r => r = r39661 + r39653) rfl (fun r39662 qr39662 => ?_)
              refine lv_istore_n (lv' := [(1, .int r39662), (3, .int r39653), (0, .ref (a 23)), (2, .int y120_l2)]) hx hb dX5_step_186 rfl hl (by decide) rfl (fun ls hl => ?_)
              refine wk_iinc (lv' := fun r => [(2, .int r), (1, .int r39662), (3, .int r39653), (0, .ref (a 23))]) (e1 := 1) (f := 120) hx hb dX5_step_187 hl (k := 3) rfl (by decide) g39645 (by decide) (fun _ => rfl) (fun r39663 ls hr39663 er39663 hl => ?_)
              refine lv_goto (tgt := 120) hx hb dX5_step_190 (by decide) ?_
              exact ih120 r39662 r39663 u _ _ ls (show Rg 0 120 r39663 from rg_w hr39663 (by decide) (by decide)) hP hD hS (lv_sub (l' := [(0, .ref (a 23)), (1, .int r39662), (2, .int r39663)]) hl [3, 1, 0] rfl) (me_up hm120 er39663 (by decide))
            · have g39664 : Rg 10 2147483647 r39653 := rg_ltr (by decide : Rg 9 9 (9 : Int32)) g39657 (rg_nle c39658) (by decide)
              refine lv_bipush (v := 100) hx hb dX5_step_172 (by decide) ?_
              refine lv_goto (tgt := 186) hx hb dX5_step_174 (by decide) ?_
              refine lv_istore_n (lv' := [(1, .int 100), (3, .int r39653), (0, .ref (a 23)), (2, .int y120_l2)]) hx hb dX5_step_186 rfl hl (by decide) rfl (fun ls hl => ?_)
              refine wk_iinc (lv' := fun r => [(2, .int r), (1, .int 100), (3, .int r39653), (0, .ref (a 23))]) (e1 := 1) (f := 120) hx hb dX5_step_187 hl (k := 3) rfl (by decide) g39645 (by decide) (fun _ => rfl) (fun r39665 ls hr39665 er39665 hl => ?_)
              refine lv_goto (tgt := 120) hx hb dX5_step_190 (by decide) ?_
              exact ih120 (100 : Int32) r39665 u _ _ ls (show Rg 0 120 r39665 from rg_w hr39665 (by decide) (by decide)) hP hD hS (lv_sub (l' := [(0, .ref (a 23)), (1, .int 100), (2, .int r39665)]) hl [3, 1, 0] rfl) (me_up hm120 er39665 (by decide))
  have ct40 : ∀ (u : SU) (H : Heap) (locs : List Loc) (ls : Array Slot), va_P D cls (wX cI cS a na nc N L u) H → va_D A (wX cI cS a na nc N L u) → va_S A s.heap H locs → lv_has ls 4 [(0, .ref (a 23))] → W p l e (headSpec wsX5_step ({ frames := 1, cells := 0, slots := 0, locals := 40 })).room s m ([.ref (a 23)]).toArray below meth c H locs 0 0 (MQ below (QE (S := SU) D (wX cI cS a na nc N L u0) (wX cI cS a na nc N L) s.heap.size (fun _ => True)) ([.ref (a 23)]).toArray s 0 0 (va_A (wX cI cS a na nc N L u0) s.heap.size)) (F0 m 40 ls []) := by
    intro u H locs ls hP hD hS hl
    refine lv_aload_n hx hb dX5_step_40 rfl (lv_at hl 0 rfl) ?_
    refine lv_aload_n hx hb dX5_step_41 rfl (lv_at hl 0 rfl) ?_
    refine va_get (D := D) (ci := 5) (v := .int (u 23 3)) (C := RX5) (T := TX5) (N := 8) hx hb hts hin5 hown hK hP 23 rfl rfl 3 (by decide) (hts (.fieldLink RX5 23 "MissedPoints$Reader" "at" "I") (by decide +kernel)) (fun _ h9 => h9) rfl dX5_step_42 ?_
    refine wk_any (fun r39666 => ?_)
    refine va_put (D := D) (ci := 5) (v := .int r39666) (ty := .int) (C := RX5) (T := TX5) (N := 8) hx hb hts hin5 tyX5 tyX5_ok nmX5 hown hK hP hD hS 23 rfl rfl 4 (by decide) (hts (.fieldLink RX5 42 "MissedPoints$Reader" "start" "I") (by decide +kernel)) (fun _ h9 => h9) rfl (by decide +kernel) rfl rfl (Nat.le_of_ble_eq_true rfl) dX5_step_45 (fun H locs hP hD hS => ?_)
    rw [sxf_23_4] at hP hD
    generalize sU u 23 _ = u at hP hD
    refine lv_aload_n hx hb dX5_step_48 rfl (lv_at hl 0 rfl) ?_
    refine lv_iconst (v := 0) hx hb dX5_step_49 (by decide) ?_
    refine va_put (D := D) (ci := 5) (v := .int 0) (ty := .int) (C := RX5) (T := TX5) (N := 8) hx hb hts hin5 tyX5 tyX5_ok nmX5 hown hK hP hD hS 23 rfl rfl 6 (by decide) (hts (.fieldLink RX5 51 "MissedPoints$Reader" "value" "I") (by decide +kernel)) (fun _ h9 => h9) rfl (by decide +kernel) rfl rfl (Nat.le_of_ble_eq_true rfl) dX5_step_50 (fun H locs hP hD hS => ?_)
    rw [sxf_23_6] at hP hD
    generalize sU u 23 _ = u at hP hD
    refine lv_aload_n hx hb dX5_step_53 rfl (lv_at hl 0 rfl) ?_
    refine lv_aload_n hx hb dX5_step_54 rfl (lv_at hl 0 rfl) ?_
    refine va_get (D := D) (ci := 5) (v := .ref (a 21)) (C := RX5) (T := TX5) (N := 8) hx hb hts hin5 hown hK hP 23 rfl rfl 0 (by decide) (hts (.fieldLink RX5 15 "MissedPoints$Reader" "tape" "LMissedPoints$Tape;") (by decide +kernel)) (fun _ h9 => h9) rfl dX5_step_55 ?_
    refine lv_aload_n hx hb dX5_step_58 rfl (lv_at hl 0 rfl) ?_
    refine va_get (D := D) (ci := 5) (v := .int (u 23 3)) (C := RX5) (T := TX5) (N := 8) hx hb hts hin5 hown hK hP 23 rfl rfl 3 (by decide) (hts (.fieldLink RX5 23 "MissedPoints$Reader" "at" "I") (by decide +kernel)) (fun _ h9 => h9) rfl dX5_step_59 ?_
    refine wk_any (fun r39667 => ?_)
    refine wk_sv 21 (As := [.int r39667]) (rest := [.ref (a 23)]) ⟨hx, hb, hml, hown, hts⟩ (k_X8_byteAt l D cI cS a na nc N L u hL hN r39667) hKK hP (ci := 8) rfl rfl (cwV 1 hts gX5_step_X8_byteAt rfl rfl rfl (by decide +kernel) ⟨Nat.le_of_ble_eq_true rfl, Nat.le_of_ble_eq_true rfl⟩) rfl hl.1 rfl (Nat.le_of_ble_eq_true rfl) dX5_step_62 ⟨Nat.le_of_ble_eq_true rfl, Nat.le_of_ble_eq_true rfl⟩ (fun r39668 hr39668 => ?_)
    refine lz_ss (As := [.int r39668]) (rest := [.ref (a 23)]) ⟨hx, hb, hml, hown, hts⟩ (k_X5_tokenOf l D cI cS r39668) hKK (hP.sub (ws' := []) [] rfl) (va_cwS 1 hts gX5_step_X5_tokenOf rfl rfl rfl (by decide +kernel) ⟨Nat.le_of_ble_eq_true rfl, Nat.le_of_ble_eq_true rfl⟩) rfl hl.1 rfl (Nat.le_of_ble_eq_true rfl) dX5_step_65 ⟨Nat.le_of_ble_eq_true rfl, Nat.le_of_ble_eq_true rfl⟩ (fun r39669 hr39669 => ?_)
    refine va_put (D := D) (ci := 5) (v := .int r39669) (ty := .int) (C := RX5) (T := TX5) (N := 8) hx hb hts hin5 tyX5 tyX5_ok nmX5 hown hK hP hD hS 23 rfl rfl 5 (by decide) (hts (.fieldLink RX5 36 "MissedPoints$Reader" "token" "I") (by decide +kernel)) (fun _ h9 => h9) rfl (by decide +kernel) rfl rfl (Nat.le_of_ble_eq_true rfl) dX5_step_68 (fun H locs hP hD hS => ?_)
    rw [sxf_23_5] at hP hD
    generalize sU u 23 _ = u at hP hD
    refine lv_aload_n hx hb dX5_step_71 rfl (lv_at hl 0 rfl) ?_
    refine va_get (D := D) (ci := 5) (v := .int (u 23 5)) (C := RX5) (T := TX5) (N := 8) hx hb hts hin5 hown hK hP 23 rfl rfl 5 (by decide) (hts (.fieldLink RX5 36 "MissedPoints$Reader" "token" "I") (by decide +kernel)) (fun _ h9 => h9) rfl dX5_step_72 ?_
    refine wk_any (fun r39670 => ?_)
    refine lv_bipush (v := (-2)) hx hb dX5_step_75 (by decide) ?_
    refine lv_icmp_eq (tgt := 103) hx hb dX5_step_77 (by decide) (fun c39671 => ?_) (fun c39671 => ?_)
    · have g39672 : Rg (-2) (-2) r39670 := wk_eql (rg_any r39670) (by decide : Rg (-2) (-2) ((-2) : Int32)) c39671 (by decide)
      refine lv_aload_n hx hb dX5_step_103 rfl (lv_at hl 0 rfl) ?_
      refine va_get (D := D) (ci := 5) (v := .ref (a 21)) (C := RX5) (T := TX5) (N := 8) hx hb hts hin5 hown hK hP 23 rfl rfl 0 (by decide) (hts (.fieldLink RX5 15 "MissedPoints$Reader" "tape" "LMissedPoints$Tape;") (by decide +kernel)) (fun _ h9 => h9) rfl dX5_step_104 ?_
      refine lv_aload_n hx hb dX5_step_107 rfl (lv_at hl 0 rfl) ?_
      refine va_get (D := D) (ci := 5) (v := .int (u 23 3)) (C := RX5) (T := TX5) (N := 8) hx hb hts hin5 hown hK hP 23 rfl rfl 3 (by decide) (hts (.fieldLink RX5 23 "MissedPoints$Reader" "at" "I") (by decide +kernel)) (fun _ h9 => h9) rfl dX5_step_108 ?_
      refine wk_any (fun r39673 => ?_)
      refine wk_sv 21 (As := [.int r39673]) (rest := []) ⟨hx, hb, hml, hown, hts⟩ (k_X8_byteAt l D cI cS a na nc N L u hL hN r39673) hKK hP (ci := 8) rfl rfl (cwV 1 hts gX5_step_X8_byteAt rfl rfl rfl (by decide +kernel) ⟨Nat.le_of_ble_eq_true rfl, Nat.le_of_ble_eq_true rfl⟩) rfl hl.1 rfl (Nat.le_of_ble_eq_true rfl) dX5_step_111 ⟨Nat.le_of_ble_eq_true rfl, Nat.le_of_ble_eq_true rfl⟩ (fun r39674 hr39674 => ?_)
      refine lv_bipush (v := 48) hx hb dX5_step_114 (by decide) ?_
      refine lv_isub hx hb dX5_step_116 ?_
      refine wk_topP (P := fun r => r = r39674 - (48 : Int32)) rfl (fun r39675 qr39675 => ?_)
      refine lv_istore_n (lv' := [(1, .int r39675), (0, .ref (a 23))]) hx hb dX5_step_117 rfl hl (by decide) rfl (fun ls hl => ?_)
      refine lv_iconst (v := 0) hx hb dX5_step_118 (by decide) ?_
      refine lv_istore_n (lv' := [(2, .int 0), (1, .int r39675), (0, .ref (a 23))]) hx hb dX5_step_119 rfl hl (by decide) rfl (fun ls hl => ?_)
      exact lp120 121 r39675 (0 : Int32) u _ _ ls (by decide : Rg 0 120 (0 : Int32)) hP hD hS (lv_sub (l' := [(0, .ref (a 23)), (1, .int r39675), (2, .int 0)]) hl [2, 1, 0] rfl) (me_i (by decide : Rg 0 120 (0 : Int32)) (by decide))
    · refine lv_aload_n hx hb dX5_step_80 rfl (lv_at hl 0 rfl) ?_
      refine lv_dup hx hb dX5_step_81 rfl ?_
      refine va_get (D := D) (ci := 5) (v := .int (u 23 3)) (C := RX5) (T := TX5) (N := 8) hx hb hts hin5 hown hK hP 23 rfl rfl 3 (by decide) (hts (.fieldLink RX5 23 "MissedPoints$Reader" "at" "I") (by decide +kernel)) (fun _ h9 => h9) rfl dX5_step_82 ?_
      refine wk_any (fun r39676 => ?_)
      refine lv_aload_n hx hb dX5_step_85 rfl (lv_at hl 0 rfl) ?_
      refine va_get (D := D) (ci := 5) (v := .int (u 23 5)) (C := RX5) (T := TX5) (N := 8) hx hb hts hin5 hown hK hP 23 rfl rfl 5 (by decide) (hts (.fieldLink RX5 36 "MissedPoints$Reader" "token" "I") (by decide +kernel)) (fun _ h9 => h9) rfl dX5_step_86 ?_
      refine wk_any (fun r39677 => ?_)
      refine lv_iconst (v := (-1)) hx hb dX5_step_89 (by decide) ?_
      refine lv_icmp_ne (tgt := 97) hx hb dX5_step_90 (by decide) (fun c39678 => ?_) (fun c39678 => ?_)
      · refine lv_iconst (v := 1) hx hb dX5_step_97 (by decide) ?_
        refine lv_iadd hx hb dX5_step_98 ?_
        refine wk_topP (P := fun r => r = r39676 + (1 : Int32)) rfl (fun r39679 qr39679 => ?_)
        refine va_put (D := D) (ci := 5) (v := .int r39679) (ty := .int) (C := RX5) (T := TX5) (N := 8) hx hb hts hin5 tyX5 tyX5_ok nmX5 hown hK hP hD hS 23 rfl rfl 3 (by decide) (hts (.fieldLink RX5 23 "MissedPoints$Reader" "at" "I") (by decide +kernel)) (fun _ h9 => h9) rfl (by decide +kernel) rfl rfl (Nat.le_of_ble_eq_true rfl) dX5_step_99 (fun H locs hP hD hS => ?_)
        rw [sxf_23_3] at hP hD
        generalize sU u 23 _ = u at hP hD
        subst hAe
        exact W.vret hx hb hr (fun t ht hW => ⟨⟨u, rfl, trivial, by rw [ht]; exact hP, hD⟩, hS.F ht⟩) hS.2.2 dX5_step_102
      · have g39680 : Rg (-1) (-1) r39677 := wk_eql (rg_any r39677) (by decide : Rg (-1) (-1) ((-1) : Int32)) c39678 (by decide)
        refine lv_iconst (v := 0) hx hb dX5_step_93 (by decide) ?_
        refine lv_goto (tgt := 98) hx hb dX5_step_94 (by decide) ?_
        refine wk_iadd (e1 := (-2147483648)) (f := 2147483647) hx hb dX5_step_98 (rg_any r39676) (by decide : Rg 0 0 (0 : Int32)) (by decide) (fun r39681 hr39681 er39681 qr39681 => ?_)
        refine va_put (D := D) (ci := 5) (v := .int r39681) (ty := .int) (C := RX5) (T := TX5) (N := 8) hx hb hts hin5 tyX5 tyX5_ok nmX5 hown hK hP hD hS 23 rfl rfl 3 (by decide) (hts (.fieldLink RX5 23 "MissedPoints$Reader" "at" "I") (by decide +kernel)) (fun _ h9 => h9) rfl (by decide +kernel) rfl rfl (Nat.le_of_ble_eq_true rfl) dX5_step_99 (fun H locs hP hD hS => ?_)
        rw [sxf_23_3] at hP hD
        generalize sU u 23 _ = u at hP hD
        subst hAe
        exact W.vret hx hb hr (fun t ht hW => ⟨⟨u, rfl, trivial, by rw [ht]; exact hP, hD⟩, hS.F ht⟩) hS.2.2 dX5_step_102
  have lp2 : ∀ (n2 : Nat) (y2_l1 : Int32) (u : SU) (H : Heap) (locs : List Loc) (ls : Array Slot), Rg 0 120 y2_l1 → va_P D cls (wX cI cS a na nc N L u) H → va_D A (wX cI cS a na nc N L u) → va_S A s.heap H locs → lv_has ls 4 [(0, .ref (a 23)), (1, .int y2_l1)] → 120 - y2_l1.toInt < (n2 : Int) → W p l e (headSpec wsX5_step ({ frames := 1, cells := 0, slots := 0, locals := 40 })).room s m ([.ref (a 23)]).toArray below meth c H locs 0 0 (MQ below (QE (S := SU) D (wX cI cS a na nc N L u0) (wX cI cS a na nc N L) s.heap.size (fun _ => True)) ([.ref (a 23)]).toArray s 0 0 (va_A (wX cI cS a na nc N L u0) s.heap.size)) (F0 m 2 ls []) := by
    intro n2
    induction n2 with
    | zero =>
      intro y2_l1 u H locs ls g2_l1 hP hD hS hl hm2
      exact absurd rfl (me_z g2_l1 hm2)
    | succ n2 ih2 =>
      intro y2_l1 u H locs ls g2_l1 hP hD hS hl hm2
      refine lv_iload_n hx hb dX5_step_2 rfl (lv_at hl 1 rfl) ?_
      refine lv_bipush (v := 120) hx hb dX5_step_3 (by decide) ?_
      refine lv_icmp_ge (tgt := 40) hx hb dX5_step_5 (by decide) (fun c39682 => ?_) (fun c39682 => ?_)
      · have g39683 : Rg 120 120 y2_l1 := rg_ler (by decide : Rg 120 120 (120 : Int32)) g2_l1 c39682 (by decide)
        exact ct40 u _ _ ls hP hD hS (lv_sub (l' := [(0, .ref (a 23))]) hl [0] rfl)
      · have g39684 : Rg 0 119 y2_l1 := rg_ltl g2_l1 (by decide : Rg 120 120 (120 : Int32)) (rg_nle c39682) (by decide)
        refine lv_aload_n hx hb dX5_step_8 rfl (lv_at hl 0 rfl) ?_
        refine va_get (D := D) (ci := 5) (v := .ref (a 21)) (C := RX5) (T := TX5) (N := 8) hx hb hts hin5 hown hK hP 23 rfl rfl 0 (by decide) (hts (.fieldLink RX5 15 "MissedPoints$Reader" "tape" "LMissedPoints$Tape;") (by decide +kernel)) (fun _ h9 => h9) rfl dX5_step_9 ?_
        refine lv_aload_n hx hb dX5_step_12 rfl (lv_at hl 0 rfl) ?_
        refine va_get (D := D) (ci := 5) (v := .int (u 23 3)) (C := RX5) (T := TX5) (N := 8) hx hb hts hin5 hown hK hP 23 rfl rfl 3 (by decide) (hts (.fieldLink RX5 23 "MissedPoints$Reader" "at" "I") (by decide +kernel)) (fun _ h9 => h9) rfl dX5_step_13 ?_
        refine wk_any (fun r39685 => ?_)
        refine wk_sv 21 (As := [.int r39685]) (rest := []) ⟨hx, hb, hml, hown, hts⟩ (k_X8_byteAt l D cI cS a na nc N L u hL hN r39685) hKK hP (ci := 8) rfl rfl (cwV 1 hts gX5_step_X8_byteAt rfl rfl rfl (by decide +kernel) ⟨Nat.le_of_ble_eq_true rfl, Nat.le_of_ble_eq_true rfl⟩) rfl hl.1 rfl (Nat.le_of_ble_eq_true rfl) dX5_step_16 ⟨Nat.le_of_ble_eq_true rfl, Nat.le_of_ble_eq_true rfl⟩ (fun r39686 hr39686 => ?_)
        refine lv_bipush (v := 32) hx hb dX5_step_19 (by decide) ?_
        refine lv_icmp_ne (tgt := 40) hx hb dX5_step_21 (by decide) (fun c39687 => ?_) (fun c39687 => ?_)
        · exact ct40 u _ _ ls hP hD hS (lv_sub (l' := [(0, .ref (a 23))]) hl [0] rfl)
        · have g39688 : Rg 32 32 r39686 := wk_eql hr39686.1 (by decide : Rg 32 32 (32 : Int32)) c39687 (by decide)
          refine lv_aload_n hx hb dX5_step_24 rfl (lv_at hl 0 rfl) ?_
          refine lv_dup hx hb dX5_step_25 rfl ?_
          refine va_get (D := D) (ci := 5) (v := .int (u 23 3)) (C := RX5) (T := TX5) (N := 8) hx hb hts hin5 hown hK hP 23 rfl rfl 3 (by decide) (hts (.fieldLink RX5 23 "MissedPoints$Reader" "at" "I") (by decide +kernel)) (fun _ h9 => h9) rfl dX5_step_26 ?_
          refine wk_any (fun r39689 => ?_)
          refine lv_iconst (v := 1) hx hb dX5_step_29 (by decide) ?_
          refine lv_iadd hx hb dX5_step_30 ?_
          refine wk_topP (P := fun r => r = r39689 + (1 : Int32)) rfl (fun r39690 qr39690 => ?_)
          refine va_put (D := D) (ci := 5) (v := .int r39690) (ty := .int) (C := RX5) (T := TX5) (N := 8) hx hb hts hin5 tyX5 tyX5_ok nmX5 hown hK hP hD hS 23 rfl rfl 3 (by decide) (hts (.fieldLink RX5 23 "MissedPoints$Reader" "at" "I") (by decide +kernel)) (fun _ h9 => h9) rfl (by decide +kernel) rfl rfl (Nat.le_of_ble_eq_true rfl) dX5_step_31 (fun H locs hP hD hS => ?_)
          rw [sxf_23_3] at hP hD
          generalize sU u 23 _ = u at hP hD
          refine wk_iinc (lv' := fun r => [(1, .int r), (0, .ref (a 23))]) (e1 := 1) (f := 120) hx hb dX5_step_34 hl (k := 1) rfl (by decide) g39684 (by decide) (fun _ => rfl) (fun r39691 ls hr39691 er39691 hl => ?_)
          refine lv_goto (tgt := 2) hx hb dX5_step_37 (by decide) ?_
          exact ih2 r39691 u _ _ ls (show Rg 0 120 r39691 from rg_w hr39691 (by decide) (by decide)) hP hD hS (lv_sub (l' := [(0, .ref (a 23)), (1, .int r39691)]) hl [1, 0] rfl) (me_up hm2 er39691 (by decide))
  refine lv_iconst (v := 0) hx hb dX5_step_0 (by decide) ?_
  refine lv_istore_n (lv' := [(1, .int 0), (0, .ref (a 23))]) hx hb dX5_step_1 rfl hl (by decide) rfl (fun ls hl => ?_)
  exact lp2 121 (0 : Int32) u _ _ ls (by decide : Rg 0 120 (0 : Int32)) hP hD hS (lv_sub (l' := [(0, .ref (a 23)), (1, .int 0)]) hl [1, 0] rfl) (me_i (by decide : Rg 0 120 (0 : Int32)) (by decide))
set_option maxRecDepth 20000 in
theorem ggX5_joinEach_X2_hasPoint : GoodIn wsX5_joinEach wsX2_hasPoint := goodIn_r _ [7, 8, 17, 18, 19] (by decide +kernel) (by decide +kernel)
set_option maxRecDepth 20000 in
theorem gX5_joinEach_X2_hasPoint : GoodIn wsX5_joinEach (wsV RX5 75 RX2 yX2_hasPoint wsX2_hasPoint) := goodIn_app (goodIn_of _ (by decide +kernel)) ggX5_joinEach_X2_hasPoint
theorem dX5_joinEach_0 : decode cX5_joinEach 0 = .ok (.aload_n 0, 1) := by decide +kernel
theorem dX5_joinEach_1 : decode cX5_joinEach 1 = .ok (.getfield 19, 3) := by decide +kernel
theorem dX5_joinEach_11 : decode cX5_joinEach 11 = .ok (.return_, 1) := by decide +kernel
theorem dX5_joinEach_12 : decode cX5_joinEach 12 = .ok (.iconst 0, 1) := by decide +kernel
theorem dX5_joinEach_13 : decode cX5_joinEach 13 = .ok (.istore_n 3, 1) := by decide +kernel
theorem dX5_joinEach_14 : decode cX5_joinEach 14 = .ok (.iload_n 3, 1) := by decide +kernel
theorem dX5_joinEach_15 : decode cX5_joinEach 15 = .ok (.bipush 12, 2) := by decide +kernel
theorem dX5_joinEach_17 : decode cX5_joinEach 17 = .ok (.if_icmp .ge 41, 3) := by decide +kernel
theorem dX5_joinEach_20 : decode cX5_joinEach 20 = .ok (.iload_n 1, 1) := by decide +kernel
theorem dX5_joinEach_21 : decode cX5_joinEach 21 = .ok (.iload_n 3, 1) := by decide +kernel
theorem dX5_joinEach_22 : decode cX5_joinEach 22 = .ok (.ishr, 1) := by decide +kernel
theorem dX5_joinEach_23 : decode cX5_joinEach 23 = .ok (.iconst 1, 1) := by decide +kernel
theorem dX5_joinEach_24 : decode cX5_joinEach 24 = .ok (.iand, 1) := by decide +kernel
theorem dX5_joinEach_25 : decode cX5_joinEach 25 = .ok (.ifCond .eq 27, 3) := by decide +kernel
theorem dX5_joinEach_28 : decode cX5_joinEach 28 = .ok (.aload_n 0, 1) := by decide +kernel
theorem dX5_joinEach_29 : decode cX5_joinEach 29 = .ok (.getfield 9, 3) := by decide +kernel
theorem dX5_joinEach_32 : decode cX5_joinEach 32 = .ok (.iload_n 3, 1) := by decide +kernel
theorem dX5_joinEach_33 : decode cX5_joinEach 33 = .ok (.dup2, 1) := by decide +kernel
theorem dX5_joinEach_34 : decode cX5_joinEach 34 = .ok (.iaload, 1) := by decide +kernel
theorem dX5_joinEach_35 : decode cX5_joinEach 35 = .ok (.iconst 1, 1) := by decide +kernel
theorem dX5_joinEach_36 : decode cX5_joinEach 36 = .ok (.iload_n 2, 1) := by decide +kernel
theorem dX5_joinEach_37 : decode cX5_joinEach 37 = .ok (.ishl, 1) := by decide +kernel
theorem dX5_joinEach_38 : decode cX5_joinEach 38 = .ok (.ior, 1) := by decide +kernel
theorem dX5_joinEach_39 : decode cX5_joinEach 39 = .ok (.iastore, 1) := by decide +kernel
theorem dX5_joinEach_4 : decode cX5_joinEach 4 = .ok (.iload_n 2, 1) := by decide +kernel
theorem dX5_joinEach_40 : decode cX5_joinEach 40 = .ok (.aload_n 0, 1) := by decide +kernel
theorem dX5_joinEach_41 : decode cX5_joinEach 41 = .ok (.getfield 9, 3) := by decide +kernel
theorem dX5_joinEach_44 : decode cX5_joinEach 44 = .ok (.iload_n 2, 1) := by decide +kernel
theorem dX5_joinEach_45 : decode cX5_joinEach 45 = .ok (.dup2, 1) := by decide +kernel
theorem dX5_joinEach_46 : decode cX5_joinEach 46 = .ok (.iaload, 1) := by decide +kernel
theorem dX5_joinEach_47 : decode cX5_joinEach 47 = .ok (.iconst 1, 1) := by decide +kernel
theorem dX5_joinEach_48 : decode cX5_joinEach 48 = .ok (.iload_n 3, 1) := by decide +kernel
theorem dX5_joinEach_49 : decode cX5_joinEach 49 = .ok (.ishl, 1) := by decide +kernel
theorem dX5_joinEach_5 : decode cX5_joinEach 5 = .ok (.invokevirtual 75, 3) := by decide +kernel
theorem dX5_joinEach_50 : decode cX5_joinEach 50 = .ok (.ior, 1) := by decide +kernel
theorem dX5_joinEach_51 : decode cX5_joinEach 51 = .ok (.iastore, 1) := by decide +kernel
theorem dX5_joinEach_52 : decode cX5_joinEach 52 = .ok (.iinc 3 1, 3) := by decide +kernel
theorem dX5_joinEach_55 : decode cX5_joinEach 55 = .ok (.goto (-41), 3) := by decide +kernel
theorem dX5_joinEach_58 : decode cX5_joinEach 58 = .ok (.return_, 1) := by decide +kernel
theorem dX5_joinEach_8 : decode cX5_joinEach 8 = .ok (.ifCond .ne 4, 3) := by decide +kernel
set_option maxHeartbeats 4000000 in
set_option maxRecDepth 100000 in
theorem k_X5_joinEach (l : Launch) (D : va_G) (cI cS : ClassId) (sz : Nat) (a : Nat → Nat) (na nc N : Nat) (L u0 : SU) (hL : TyX L) (hN : N = 0 ∨ N = 24576) (x0 x1 : Int32) : Met l yX5_joinEach wsX5_joinEach ({ frames := 1, cells := 0, slots := 0, locals := 40 }) (PQ D cI cS (wX cI cS a na nc N L u0) sz [.ref (a 23), .int x0, .int x1]) (QE (S := SU) D (wX cI cS a na nc N L u0) (wX cI cS a na nc N L) sz (fun _ => True)) 0 0 (va_A (wX cI cS a na nc N L u0) sz) := by
  refine Met.ofW (cc := cX5_joinEach) (maxL := 4) (ret := none) (by decide) rfl ?_
  intro p e s m args below meth c s₁ B hml hv
  obtain ⟨rfl, hsz, hP, hKK, hD0⟩ := hv
  have hx := B.exec
  have hb := B.bytes
  have hr := B.returns
  have hts := atoms_spec (ws := wsX5_joinEach) B.pre
  have hown : s.vm.findClass RX5 = some m.cls := findClass_of_methodNamed B.named
  have hlocks := B.notSynchronized
  have hK := hKK.1
  have hin5 : ∀ w ∈ wsX50, w ∈ wsX5_joinEach := by decide +kernel
  subst hsz
  have hD := hD0.self (sz := s.heap.size)
  obtain ⟨A, hAe⟩ : ∃ A, A = va_A (wX cI cS a na nc N L u0) s.heap.size := ⟨_, rfl⟩
  rw [← hAe] at hD
  have hA : ∀ q : Nat, s.heap.size ≤ q → A q := fun q h => by rw [hAe]; exact Or.inr h
  have hS : va_S A s.heap s.heap [] := va_S.rf
  have hl := lv_entry ([.ref (a 23), .int x0, .int x1]) (n := 4) (Nat.le_of_ble_eq_true rfl)
  rw [lg_entry_eq]
  generalize (lg_sl ([.ref (a 23), .int x0, .int x1]) ++ List.replicate (4 - (lg_sl ([.ref (a 23), .int x0, .int x1])).length) Slot.unset).toArray = ls at hl ⊢
  have hl : lv_has ls 4 [(0, .ref (a 23)), (1, .int x0), (2, .int x1)] := hl
  obtain ⟨u, hu9⟩ : ∃ u : SU, u = u0 := ⟨_, rfl⟩
  rw [← hu9] at hP hD
  have lp14 : ∀ (n14 : Nat) (y14_l3 : Int32) (u : SU) (H : Heap) (locs : List Loc) (ls : Array Slot), Rg 0 11 x1 → Rg 0 12 y14_l3 → va_P D cls (wX cI cS a na nc N L u) H → va_D A (wX cI cS a na nc N L u) → va_S A s.heap H locs → lv_has ls 4 [(0, .ref (a 23)), (1, .int x0), (2, .int x1), (3, .int y14_l3)] → 12 - y14_l3.toInt < (n14 : Int) → W p l e (headSpec wsX5_joinEach ({ frames := 1, cells := 0, slots := 0, locals := 40 })).room s m ([.ref (a 23), .int x0, .int x1]).toArray below meth c H locs 0 0 (MQ below (QE (S := SU) D (wX cI cS a na nc N L u0) (wX cI cS a na nc N L) s.heap.size (fun _ => True)) ([.ref (a 23), .int x0, .int x1]).toArray s 0 0 (va_A (wX cI cS a na nc N L u0) s.heap.size)) (F0 m 14 ls []) := by
    intro n14
    induction n14 with
    | zero =>
      intro y14_l3 u H locs ls g14_l2 g14_l3 hP hD hS hl hm14
      exact absurd rfl (me_z g14_l3 hm14)
    | succ n14 ih14 =>
      intro y14_l3 u H locs ls g14_l2 g14_l3 hP hD hS hl hm14
      refine lv_iload_n hx hb dX5_joinEach_14 rfl (lv_at hl 3 rfl) ?_
      refine lv_bipush (v := 12) hx hb dX5_joinEach_15 (by decide) ?_
      refine lv_icmp_ge (tgt := 58) hx hb dX5_joinEach_17 (by decide) (fun c39857 => ?_) (fun c39857 => ?_)
      · have g39858 : Rg 12 12 y14_l3 := rg_ler (by decide : Rg 12 12 (12 : Int32)) g14_l3 c39857 (by decide)
        subst hAe
        exact W.vret hx hb hr (fun t ht hW => ⟨⟨u, rfl, trivial, by rw [ht]; exact hP, hD⟩, hS.F ht⟩) hS.2.2 dX5_joinEach_58
      · have g39859 : Rg 0 11 y14_l3 := rg_ltl g14_l3 (by decide : Rg 12 12 (12 : Int32)) (rg_nle c39857) (by decide)
        refine lv_iload_n hx hb dX5_joinEach_20 rfl (lv_at hl 1 rfl) ?_
        refine lv_iload_n hx hb dX5_joinEach_21 rfl (lv_at hl 3 rfl) ?_
        refine lv_ishr hx hb dX5_joinEach_22 ?_
        refine wk_topP (P := fun r => r = x0 >>> (y14_l3 &&& 31)) rfl (fun r39860 qr39860 => ?_)
        refine lv_iconst (v := 1) hx hb dX5_joinEach_23 (by decide) ?_
        refine wk_iandr hx hb dX5_joinEach_24 (by decide : Rg 1 1 (1 : Int32)) (by decide) (fun r39861 hr39861 qr39861 => ?_)
        refine lv_if_eq (tgt := 52) hx hb dX5_joinEach_25 (by decide) (fun c39862 => ?_) (fun c39862 => ?_)
        · have g39863 : Rg 0 0 r39861 := wk_eql hr39861 (by decide : Rg 0 0 (0 : Int32)) c39862 (by decide)
          refine wk_iinc (lv' := fun r => [(3, .int r), (0, .ref (a 23)), (1, .int x0), (2, .int x1)]) (e1 := 1) (f := 12) hx hb dX5_joinEach_52 hl (k := 3) rfl (by decide) g39859 (by decide) (fun _ => rfl) (fun r39864 ls hr39864 er39864 hl => ?_)
          refine lv_goto (tgt := 14) hx hb dX5_joinEach_55 (by decide) ?_
          exact ih14 r39864 u _ _ ls g14_l2 (show Rg 0 12 r39864 from rg_w hr39864 (by decide) (by decide)) hP hD hS (lv_sub (l' := [(0, .ref (a 23)), (1, .int x0), (2, .int x1), (3, .int r39864)]) hl [1, 2, 3, 0] rfl) (me_up hm14 er39864 (by decide))
        · have g39865 : Rg 1 1 r39861 := rg_ne_lo (k := 0) hr39861 (by decide) c39862 (by decide)
          refine lv_aload_n hx hb dX5_joinEach_28 rfl (lv_at hl 0 rfl) ?_
          refine va_get (D := D) (ci := 5) (v := .ref (a 24)) (C := RX5) (T := TX5) (N := 8) hx hb hts hin5 hown hK hP 23 rfl rfl 2 (by decide) (hts (.fieldLink RX5 9 "MissedPoints$Reader" "links" "[I") (by decide +kernel)) (fun _ h9 => h9) rfl dX5_joinEach_29 ?_
          refine lv_iload_n hx hb dX5_joinEach_32 rfl (lv_at hl 3 rfl) ?_
          refine lv_dup2_11 hx hb dX5_joinEach_33 rfl rfl ?_
          refine wk_aldA hx hb hK hP 24 0 rfl rfl (rg_in g39859 (by decide) (by decide)) dX5_joinEach_34 (fun r39866 => ?_)
          refine lv_iconst (v := 1) hx hb dX5_joinEach_35 (by decide) ?_
          refine lv_iload_n hx hb dX5_joinEach_36 rfl (lv_at hl 2 rfl) ?_
          refine wk_ishl1 (f := 2048) hx hb dX5_joinEach_37 g14_l2 (by decide) (fun r39867 hr39867 qr39867 => ?_)
          refine lv_ior hx hb dX5_joinEach_38 ?_
          refine wk_topP (P := fun r => r = r39866 ||| r39867) rfl (fun r39868 qr39868 => ?_)
          refine ks_ast hx hb hK hP hD hS rfl (k := 24) rfl sx_24 (rg_in g39859 (by decide) (by decide)) dX5_joinEach_39 (fun u H locs hP hD hS => ?_)
          refine lv_aload_n hx hb dX5_joinEach_40 rfl (lv_at hl 0 rfl) ?_
          refine va_get (D := D) (ci := 5) (v := .ref (a 24)) (C := RX5) (T := TX5) (N := 8) hx hb hts hin5 hown hK hP 23 rfl rfl 2 (by decide) (hts (.fieldLink RX5 9 "MissedPoints$Reader" "links" "[I") (by decide +kernel)) (fun _ h9 => h9) rfl dX5_joinEach_41 ?_
          refine lv_iload_n hx hb dX5_joinEach_44 rfl (lv_at hl 2 rfl) ?_
          refine lv_dup2_11 hx hb dX5_joinEach_45 rfl rfl ?_
          refine wk_aldA hx hb hK hP 24 0 rfl rfl (rg_in g14_l2 (by decide) (by decide)) dX5_joinEach_46 (fun r39869 => ?_)
          refine lv_iconst (v := 1) hx hb dX5_joinEach_47 (by decide) ?_
          refine lv_iload_n hx hb dX5_joinEach_48 rfl (lv_at hl 3 rfl) ?_
          refine wk_ishl1 (f := 2048) hx hb dX5_joinEach_49 g39859 (by decide) (fun r39870 hr39870 qr39870 => ?_)
          refine lv_ior hx hb dX5_joinEach_50 ?_
          refine wk_topP (P := fun r => r = r39869 ||| r39870) rfl (fun r39871 qr39871 => ?_)
          refine ks_ast hx hb hK hP hD hS rfl (k := 24) rfl sx_24 (rg_in g14_l2 (by decide) (by decide)) dX5_joinEach_51 (fun u H locs hP hD hS => ?_)
          refine wk_iinc (lv' := fun r => [(3, .int r), (0, .ref (a 23)), (1, .int x0), (2, .int x1)]) (e1 := 1) (f := 12) hx hb dX5_joinEach_52 hl (k := 3) rfl (by decide) g39859 (by decide) (fun _ => rfl) (fun r39872 ls hr39872 er39872 hl => ?_)
          refine lv_goto (tgt := 14) hx hb dX5_joinEach_55 (by decide) ?_
          exact ih14 r39872 u _ _ ls g14_l2 (show Rg 0 12 r39872 from rg_w hr39872 (by decide) (by decide)) hP hD hS (lv_sub (l' := [(0, .ref (a 23)), (1, .int x0), (2, .int x1), (3, .int r39872)]) hl [1, 2, 3, 0] rfl) (me_up hm14 er39872 (by decide))
  refine lv_aload_n hx hb dX5_joinEach_0 rfl (lv_at hl 0 rfl) ?_
  refine va_get (D := D) (ci := 5) (v := .ref (a 1)) (C := RX5) (T := TX5) (N := 8) hx hb hts hin5 hown hK hP 23 rfl rfl 1 (by decide) (hts (.fieldLink RX5 19 "MissedPoints$Reader" "net" "LMissedPoints$Net;") (by decide +kernel)) (fun _ h9 => h9) rfl dX5_joinEach_1 ?_
  refine lv_iload_n hx hb dX5_joinEach_4 rfl (lv_at hl 2 rfl) ?_
  refine wk_sv 1 (As := [.int x1]) (rest := []) ⟨hx, hb, hml, hown, hts⟩ (k_X2_hasPoint l D cI cS a na nc N L u hL hN x1) hKK hP (ci := 2) rfl rfl (cwV 1 hts gX5_joinEach_X2_hasPoint rfl rfl rfl (by decide +kernel) ⟨Nat.le_of_ble_eq_true rfl, Nat.le_of_ble_eq_true rfl⟩) rfl hl.1 rfl (Nat.le_of_ble_eq_true rfl) dX5_joinEach_5 ⟨Nat.le_of_ble_eq_true rfl, Nat.le_of_ble_eq_true rfl⟩ (fun r39873 hr39873 => ?_)
  refine lv_if_ne (tgt := 12) hx hb dX5_joinEach_8 (by decide) (fun c39874 => ?_) (fun c39874 => ?_)
  · have g39875 : Rg 0 11 x1 := (hr39873.2 c39874)
    have g39876 : Rg 1 1 r39873 := rg_ne_lo (k := 0) hr39873.1 (by decide) c39874 (by decide)
    refine lv_iconst (v := 0) hx hb dX5_joinEach_12 (by decide) ?_
    refine lv_istore_n (lv' := [(3, .int 0), (0, .ref (a 23)), (1, .int x0), (2, .int x1)]) hx hb dX5_joinEach_13 rfl hl (by decide) rfl (fun ls hl => ?_)
    exact lp14 13 (0 : Int32) u _ _ ls g39875 (by decide : Rg 0 12 (0 : Int32)) hP hD hS (lv_sub (l' := [(0, .ref (a 23)), (1, .int x0), (2, .int x1), (3, .int 0)]) hl [1, 2, 3, 0] rfl) (me_i (by decide : Rg 0 12 (0 : Int32)) (by decide))
  · have g39877 : Rg 0 0 r39873 := wk_eql hr39873.1 (by decide : Rg 0 0 (0 : Int32)) c39874 (by decide)
    subst hAe
    exact W.vret hx hb hr (fun t ht hW => ⟨⟨u, rfl, trivial, by rw [ht]; exact hP, hD⟩, hS.F ht⟩) hS.2.2 dX5_joinEach_11
set_option maxRecDepth 20000 in
theorem ggX5_readPoint_X2_hasPoint : GoodIn wsX5_readPoint wsX2_hasPoint := goodIn_r _ [8, 9, 41, 42, 43] (by decide +kernel) (by decide +kernel)
set_option maxRecDepth 20000 in
theorem gX5_readPoint_X2_hasPoint : GoodIn wsX5_readPoint (wsV RX5 75 RX2 yX2_hasPoint wsX2_hasPoint) := goodIn_app (goodIn_of _ (by decide +kernel)) ggX5_readPoint_X2_hasPoint
set_option maxRecDepth 20000 in
theorem ggX5_readPoint_X5_fail : GoodIn wsX5_readPoint wsX5_fail := goodIn_r _ [14, 15, 16, 33, 34, 35, 36, 37, 38, 39, 40] (by decide +kernel) (by decide +kernel)
set_option maxRecDepth 20000 in
theorem gX5_readPoint_X5_fail : GoodIn wsX5_readPoint (wsV RX5 39 RX5 yX5_fail wsX5_fail) := goodIn_app (goodIn_of _ (by decide +kernel)) ggX5_readPoint_X5_fail
set_option maxRecDepth 20000 in
theorem ggX5_readPoint_X5_step : GoodIn wsX5_readPoint wsX5_step := goodIn_r _ [20, 21, 22, 16, 3, 1, 23, 24, 25, 26, 27, 28, 29, 30, 31, 13, 32, 33, 34, 35, 36, 37, 38, 39, 40, 44, 45] (by decide +kernel) (by decide +kernel)
set_option maxRecDepth 20000 in
theorem gX5_readPoint_X5_step : GoodIn wsX5_readPoint (wsV RX5 30 RX5 yX5_step wsX5_step) := goodIn_app (goodIn_of _ (by decide +kernel)) ggX5_readPoint_X5_step
theorem dX5_readPoint_0 : decode cX5_readPoint 0 = .ok (.aload_n 0, 1) := by decide +kernel
theorem dX5_readPoint_1 : decode cX5_readPoint 1 = .ok (.getfield 36, 3) := by decide +kernel
theorem dX5_readPoint_10 : decode cX5_readPoint 10 = .ok (.getfield 19, 3) := by decide +kernel
theorem dX5_readPoint_13 : decode cX5_readPoint 13 = .ok (.aload_n 0, 1) := by decide +kernel
theorem dX5_readPoint_14 : decode cX5_readPoint 14 = .ok (.getfield 51, 3) := by decide +kernel
theorem dX5_readPoint_17 : decode cX5_readPoint 17 = .ok (.invokevirtual 75, 3) := by decide +kernel
theorem dX5_readPoint_20 : decode cX5_readPoint 20 = .ok (.ifCond .eq 14, 3) := by decide +kernel
theorem dX5_readPoint_23 : decode cX5_readPoint 23 = .ok (.iload_n 1, 1) := by decide +kernel
theorem dX5_readPoint_24 : decode cX5_readPoint 24 = .ok (.aload_n 0, 1) := by decide +kernel
theorem dX5_readPoint_25 : decode cX5_readPoint 25 = .ok (.getfield 51, 3) := by decide +kernel
theorem dX5_readPoint_28 : decode cX5_readPoint 28 = .ok (.ishr, 1) := by decide +kernel
theorem dX5_readPoint_29 : decode cX5_readPoint 29 = .ok (.iconst 1, 1) := by decide +kernel
theorem dX5_readPoint_30 : decode cX5_readPoint 30 = .ok (.iand, 1) := by decide +kernel
theorem dX5_readPoint_31 : decode cX5_readPoint 31 = .ok (.ifCond .eq 9, 3) := by decide +kernel
theorem dX5_readPoint_34 : decode cX5_readPoint 34 = .ok (.aload_n 0, 1) := by decide +kernel
theorem dX5_readPoint_35 : decode cX5_readPoint 35 = .ok (.invokevirtual 39, 3) := by decide +kernel
theorem dX5_readPoint_38 : decode cX5_readPoint 38 = .ok (.iconst (-1), 1) := by decide +kernel
theorem dX5_readPoint_39 : decode cX5_readPoint 39 = .ok (.ireturn, 1) := by decide +kernel
theorem dX5_readPoint_4 : decode cX5_readPoint 4 = .ok (.bipush (-2), 2) := by decide +kernel
theorem dX5_readPoint_40 : decode cX5_readPoint 40 = .ok (.aload_n 0, 1) := by decide +kernel
theorem dX5_readPoint_41 : decode cX5_readPoint 41 = .ok (.getfield 51, 3) := by decide +kernel
theorem dX5_readPoint_44 : decode cX5_readPoint 44 = .ok (.istore_n 2, 1) := by decide +kernel
theorem dX5_readPoint_45 : decode cX5_readPoint 45 = .ok (.aload_n 0, 1) := by decide +kernel
theorem dX5_readPoint_46 : decode cX5_readPoint 46 = .ok (.invokevirtual 30, 3) := by decide +kernel
theorem dX5_readPoint_49 : decode cX5_readPoint 49 = .ok (.iload_n 2, 1) := by decide +kernel
theorem dX5_readPoint_50 : decode cX5_readPoint 50 = .ok (.ireturn, 1) := by decide +kernel
theorem dX5_readPoint_6 : decode cX5_readPoint 6 = .ok (.if_icmp .ne 28, 3) := by decide +kernel
theorem dX5_readPoint_9 : decode cX5_readPoint 9 = .ok (.aload_n 0, 1) := by decide +kernel
set_option maxHeartbeats 4000000 in
set_option maxRecDepth 100000 in
theorem k_X5_readPoint (l : Launch) (D : va_G) (cI cS : ClassId) (sz : Nat) (a : Nat → Nat) (na nc N : Nat) (L u0 : SU) (hL : TyX L) (hN : N = 0 ∨ N = 24576) (x0 : Int32) : Met l yX5_readPoint wsX5_readPoint ({ frames := 2, cells := 0, slots := 0, locals := 80 }) (PQ D cI cS (wX cI cS a na nc N L u0) sz [.ref (a 23), .int x0]) (QF (S := SU) D (wX cI cS a na nc N L u0) (wX cI cS a na nc N L) sz (fun r _ => Rg (-2147483648) 2147483647 r ∧ True)) 0 0 (va_A (wX cI cS a na nc N L u0) sz) := by
  refine Met.ofW (cc := cX5_readPoint) (maxL := 3) (ret := (some .int)) (by decide) rfl ?_
  intro p e s m args below meth c s₁ B hml hv
  obtain ⟨rfl, hsz, hP, hKK, hD0⟩ := hv
  have hx := B.exec
  have hb := B.bytes
  have hr := B.returns
  have hts := atoms_spec (ws := wsX5_readPoint) B.pre
  have hown : s.vm.findClass RX5 = some m.cls := findClass_of_methodNamed B.named
  have hlocks := B.notSynchronized
  have hK := hKK.1
  have hin5 : ∀ w ∈ wsX50, w ∈ wsX5_readPoint := by decide +kernel
  subst hsz
  have hD := hD0.self (sz := s.heap.size)
  obtain ⟨A, hAe⟩ : ∃ A, A = va_A (wX cI cS a na nc N L u0) s.heap.size := ⟨_, rfl⟩
  rw [← hAe] at hD
  have hA : ∀ q : Nat, s.heap.size ≤ q → A q := fun q h => by rw [hAe]; exact Or.inr h
  have hS : va_S A s.heap s.heap [] := va_S.rf
  have hl := lv_entry ([.ref (a 23), .int x0]) (n := 3) (Nat.le_of_ble_eq_true rfl)
  rw [lg_entry_eq]
  generalize (lg_sl ([.ref (a 23), .int x0]) ++ List.replicate (3 - (lg_sl ([.ref (a 23), .int x0])).length) Slot.unset).toArray = ls at hl ⊢
  have hl : lv_has ls 3 [(0, .ref (a 23)), (1, .int x0)] := hl
  obtain ⟨u, hu9⟩ : ∃ u : SU, u = u0 := ⟨_, rfl⟩
  rw [← hu9] at hP hD
  refine lv_aload_n hx hb dX5_readPoint_0 rfl (lv_at hl 0 rfl) ?_
  refine va_get (D := D) (ci := 5) (v := .int (u 23 5)) (C := RX5) (T := TX5) (N := 8) hx hb hts hin5 hown hK hP 23 rfl rfl 5 (by decide) (hts (.fieldLink RX5 36 "MissedPoints$Reader" "token" "I") (by decide +kernel)) (fun _ h9 => h9) rfl dX5_readPoint_1 ?_
  refine wk_any (fun r39897 => ?_)
  refine lv_bipush (v := (-2)) hx hb dX5_readPoint_4 (by decide) ?_
  refine lv_icmp_ne (tgt := 34) hx hb dX5_readPoint_6 (by decide) (fun c39898 => ?_) (fun c39898 => ?_)
  · refine lv_aload_n hx hb dX5_readPoint_34 rfl (lv_at hl 0 rfl) ?_
    refine wk_qv (wX cI cS a na nc N L) u (As := []) (rest := []) ⟨hx, hb, hml, hown, hts⟩ (k_X5_fail l D cI cS _ a na nc N L u hL hN) hKK hP hD hS hA 23 (ci := 5) rfl rfl (cwV 0 hts gX5_readPoint_X5_fail rfl rfl rfl (by decide +kernel) ⟨Nat.le_of_ble_eq_true rfl, Nat.le_of_ble_eq_true rfl⟩) rfl hl.1 rfl (Nat.le_of_ble_eq_true rfl) dX5_readPoint_35 ⟨Nat.le_of_ble_eq_true rfl, Nat.le_of_ble_eq_true rfl⟩ (fun u H locs hr39899 hP hD hS => ?_)
    refine lv_iconst (v := (-1)) hx hb dX5_readPoint_38 (by decide) ?_
    subst hAe
    exact W.iret (v := (-1)) hx hb hr (fun t ht hW => ⟨⟨_, u, rfl, ⟨(by decide : Rg (-2147483648) 2147483647 ((-1) : Int32)), trivial⟩, by rw [ht]; exact hP, hD⟩, hS.F ht⟩) hS.2.2 dX5_readPoint_39
  · have g39900 : Rg (-2) (-2) r39897 := wk_eql (rg_any r39897) (by decide : Rg (-2) (-2) ((-2) : Int32)) c39898 (by decide)
    refine lv_aload_n hx hb dX5_readPoint_9 rfl (lv_at hl 0 rfl) ?_
    refine va_get (D := D) (ci := 5) (v := .ref (a 1)) (C := RX5) (T := TX5) (N := 8) hx hb hts hin5 hown hK hP 23 rfl rfl 1 (by decide) (hts (.fieldLink RX5 19 "MissedPoints$Reader" "net" "LMissedPoints$Net;") (by decide +kernel)) (fun _ h9 => h9) rfl dX5_readPoint_10 ?_
    refine lv_aload_n hx hb dX5_readPoint_13 rfl (lv_at hl 0 rfl) ?_
    refine va_get (D := D) (ci := 5) (v := .int (u 23 6)) (C := RX5) (T := TX5) (N := 8) hx hb hts hin5 hown hK hP 23 rfl rfl 6 (by decide) (hts (.fieldLink RX5 51 "MissedPoints$Reader" "value" "I") (by decide +kernel)) (fun _ h9 => h9) rfl dX5_readPoint_14 ?_
    refine wk_any (fun r39901 => ?_)
    refine wk_sv 1 (As := [.int r39901]) (rest := []) ⟨hx, hb, hml, hown, hts⟩ (k_X2_hasPoint l D cI cS a na nc N L u hL hN r39901) hKK hP (ci := 2) rfl rfl (cwV 1 hts gX5_readPoint_X2_hasPoint rfl rfl rfl (by decide +kernel) ⟨Nat.le_of_ble_eq_true rfl, Nat.le_of_ble_eq_true rfl⟩) rfl hl.1 rfl (Nat.le_of_ble_eq_true rfl) dX5_readPoint_17 ⟨Nat.le_of_ble_eq_true rfl, Nat.le_of_ble_eq_true rfl⟩ (fun r39902 hr39902 => ?_)
    refine lv_if_eq (tgt := 34) hx hb dX5_readPoint_20 (by decide) (fun c39903 => ?_) (fun c39903 => ?_)
    · have g39904 : Rg 0 0 r39902 := wk_eql hr39902.1 (by decide : Rg 0 0 (0 : Int32)) c39903 (by decide)
      refine lv_aload_n hx hb dX5_readPoint_34 rfl (lv_at hl 0 rfl) ?_
      refine wk_qv (wX cI cS a na nc N L) u (As := []) (rest := []) ⟨hx, hb, hml, hown, hts⟩ (k_X5_fail l D cI cS _ a na nc N L u hL hN) hKK hP hD hS hA 23 (ci := 5) rfl rfl (cwV 0 hts gX5_readPoint_X5_fail rfl rfl rfl (by decide +kernel) ⟨Nat.le_of_ble_eq_true rfl, Nat.le_of_ble_eq_true rfl⟩) rfl hl.1 rfl (Nat.le_of_ble_eq_true rfl) dX5_readPoint_35 ⟨Nat.le_of_ble_eq_true rfl, Nat.le_of_ble_eq_true rfl⟩ (fun u H locs hr39905 hP hD hS => ?_)
      refine lv_iconst (v := (-1)) hx hb dX5_readPoint_38 (by decide) ?_
      subst hAe
      exact W.iret (v := (-1)) hx hb hr (fun t ht hW => ⟨⟨_, u, rfl, ⟨(by decide : Rg (-2147483648) 2147483647 ((-1) : Int32)), trivial⟩, by rw [ht]; exact hP, hD⟩, hS.F ht⟩) hS.2.2 dX5_readPoint_39
    · have g39906 : Rg 1 1 r39902 := rg_ne_lo (k := 0) hr39902.1 (by decide) c39903 (by decide)
      refine lv_iload_n hx hb dX5_readPoint_23 rfl (lv_at hl 1 rfl) ?_
      refine lv_aload_n hx hb dX5_readPoint_24 rfl (lv_at hl 0 rfl) ?_
      refine va_get (D := D) (ci := 5) (v := .int (u 23 6)) (C := RX5) (T := TX5) (N := 8) hx hb hts hin5 hown hK hP 23 rfl rfl 6 (by decide) (hts (.fieldLink RX5 51 "MissedPoints$Reader" "value" "I") (by decide +kernel)) (fun _ h9 => h9) rfl dX5_readPoint_25 ?_
      refine wk_any (fun r39907 => ?_)
      refine lv_ishr hx hb dX5_readPoint_28 ?_
      refine wk_topP (P := fun r => r = x0 >>> (r39907 &&& 31)) rfl (fun r39908 qr39908 => ?_)
      refine lv_iconst (v := 1) hx hb dX5_readPoint_29 (by decide) ?_
      refine wk_iandr hx hb dX5_readPoint_30 (by decide : Rg 1 1 (1 : Int32)) (by decide) (fun r39909 hr39909 qr39909 => ?_)
      refine lv_if_eq (tgt := 40) hx hb dX5_readPoint_31 (by decide) (fun c39910 => ?_) (fun c39910 => ?_)
      · have g39911 : Rg 0 0 r39909 := wk_eql hr39909 (by decide : Rg 0 0 (0 : Int32)) c39910 (by decide)
        refine lv_aload_n hx hb dX5_readPoint_40 rfl (lv_at hl 0 rfl) ?_
        refine va_get (D := D) (ci := 5) (v := .int (u 23 6)) (C := RX5) (T := TX5) (N := 8) hx hb hts hin5 hown hK hP 23 rfl rfl 6 (by decide) (hts (.fieldLink RX5 51 "MissedPoints$Reader" "value" "I") (by decide +kernel)) (fun _ h9 => h9) rfl dX5_readPoint_41 ?_
        refine wk_any (fun r39912 => ?_)
        refine lv_istore_n (lv' := [(2, .int r39912), (0, .ref (a 23)), (1, .int x0)]) hx hb dX5_readPoint_44 rfl hl (by decide) rfl (fun ls hl => ?_)
        refine lv_aload_n hx hb dX5_readPoint_45 rfl (lv_at hl 1 rfl) ?_
        refine wk_qv (wX cI cS a na nc N L) u (As := []) (rest := []) ⟨hx, hb, hml, hown, hts⟩ (k_X5_step l D cI cS _ a na nc N L u hL hN) hKK hP hD hS hA 23 (ci := 5) rfl rfl (cwV 0 hts gX5_readPoint_X5_step rfl rfl rfl (by decide +kernel) ⟨Nat.le_of_ble_eq_true rfl, Nat.le_of_ble_eq_true rfl⟩) rfl hl.1 rfl (Nat.le_of_ble_eq_true rfl) dX5_readPoint_46 ⟨Nat.le_of_ble_eq_true rfl, Nat.le_of_ble_eq_true rfl⟩ (fun u H locs hr39913 hP hD hS => ?_)
        refine lv_iload_n hx hb dX5_readPoint_49 rfl (lv_at hl 0 rfl) ?_
        subst hAe
        exact W.iret (v := r39912) hx hb hr (fun t ht hW => ⟨⟨_, u, rfl, ⟨(rg_any r39912), trivial⟩, by rw [ht]; exact hP, hD⟩, hS.F ht⟩) hS.2.2 dX5_readPoint_50
      · have g39914 : Rg 1 1 r39909 := rg_ne_lo (k := 0) hr39909 (by decide) c39910 (by decide)
        refine lv_aload_n hx hb dX5_readPoint_34 rfl (lv_at hl 0 rfl) ?_
        refine wk_qv (wX cI cS a na nc N L) u (As := []) (rest := []) ⟨hx, hb, hml, hown, hts⟩ (k_X5_fail l D cI cS _ a na nc N L u hL hN) hKK hP hD hS hA 23 (ci := 5) rfl rfl (cwV 0 hts gX5_readPoint_X5_fail rfl rfl rfl (by decide +kernel) ⟨Nat.le_of_ble_eq_true rfl, Nat.le_of_ble_eq_true rfl⟩) rfl hl.1 rfl (Nat.le_of_ble_eq_true rfl) dX5_readPoint_35 ⟨Nat.le_of_ble_eq_true rfl, Nat.le_of_ble_eq_true rfl⟩ (fun u H locs hr39915 hP hD hS => ?_)
        refine lv_iconst (v := (-1)) hx hb dX5_readPoint_38 (by decide) ?_
        subst hAe
        exact W.iret (v := (-1)) hx hb hr (fun t ht hW => ⟨⟨_, u, rfl, ⟨(by decide : Rg (-2147483648) 2147483647 ((-1) : Int32)), trivial⟩, by rw [ht]; exact hP, hD⟩, hS.F ht⟩) hS.2.2 dX5_readPoint_39
set_option maxRecDepth 20000 in
theorem ggX5_readRow_X5_joinEach : GoodIn wsX5_readRow wsX5_joinEach := goodIn_r _ [40, 7, 41, 9, 10, 11, 12, 13, 14, 42, 43, 44, 45, 46, 47, 48, 49, 50, 51, 52] (by decide +kernel) (by decide +kernel)
set_option maxRecDepth 20000 in
theorem gX5_readRow_X5_joinEach : GoodIn wsX5_readRow (wsV RX5 67 RX5 yX5_joinEach wsX5_joinEach) := goodIn_app (goodIn_of _ (by decide +kernel)) ggX5_readRow_X5_joinEach
set_option maxRecDepth 20000 in
theorem ggX5_readRow_X5_readPoint : GoodIn wsX5_readRow wsX5_readPoint := goodIn_r _ [6, 1, 7, 8, 9, 10, 11, 12, 13, 14, 15, 16, 17, 5, 18, 19, 20, 21, 22, 23, 24, 25, 26, 27, 28, 29, 30, 31, 32, 33, 34, 35, 36, 42, 43, 44, 45, 46, 47, 48, 49, 50, 51, 52, 53, 54] (by decide +kernel) (by decide +kernel)
set_option maxRecDepth 20000 in
theorem gX5_readRow_X5_readPoint : GoodIn wsX5_readRow (wsV RX5 64 RX5 yX5_readPoint wsX5_readPoint) := goodIn_app (goodIn_of _ (by decide +kernel)) ggX5_readRow_X5_readPoint
set_option maxRecDepth 20000 in
theorem ggX5_readRow_X5_step : GoodIn wsX5_readRow wsX5_step := goodIn_r _ [24, 25, 26, 20, 8, 1, 27, 28, 29, 30, 31, 32, 33, 34, 35, 5, 36, 42, 43, 44, 45, 46, 47, 48, 49, 53, 54] (by decide +kernel) (by decide +kernel)
set_option maxRecDepth 20000 in
theorem gX5_readRow_X5_step : GoodIn wsX5_readRow (wsV RX5 30 RX5 yX5_step wsX5_step) := goodIn_app (goodIn_of _ (by decide +kernel)) ggX5_readRow_X5_step
theorem dX5_readRow_0 : decode cX5_readRow 0 = .ok (.aload_n 0, 1) := by decide +kernel
theorem dX5_readRow_1 : decode cX5_readRow 1 = .ok (.iconst 0, 1) := by decide +kernel
theorem dX5_readRow_11 : decode cX5_readRow 11 = .ok (.if_icmp .ge 44, 3) := by decide +kernel
theorem dX5_readRow_14 : decode cX5_readRow 14 = .ok (.iload_n 1, 1) := by decide +kernel
theorem dX5_readRow_15 : decode cX5_readRow 15 = .ok (.ifCond .lt 40, 3) := by decide +kernel
theorem dX5_readRow_18 : decode cX5_readRow 18 = .ok (.aload_n 0, 1) := by decide +kernel
theorem dX5_readRow_19 : decode cX5_readRow 19 = .ok (.getfield 36, 3) := by decide +kernel
theorem dX5_readRow_2 : decode cX5_readRow 2 = .ok (.invokevirtual 64, 3) := by decide +kernel
theorem dX5_readRow_22 : decode cX5_readRow 22 = .ok (.bipush 45, 2) := by decide +kernel
theorem dX5_readRow_24 : decode cX5_readRow 24 = .ok (.if_icmp .ne 31, 3) := by decide +kernel
theorem dX5_readRow_27 : decode cX5_readRow 27 = .ok (.aload_n 0, 1) := by decide +kernel
theorem dX5_readRow_28 : decode cX5_readRow 28 = .ok (.invokevirtual 30, 3) := by decide +kernel
theorem dX5_readRow_31 : decode cX5_readRow 31 = .ok (.aload_n 0, 1) := by decide +kernel
theorem dX5_readRow_32 : decode cX5_readRow 32 = .ok (.iconst 1, 1) := by decide +kernel
theorem dX5_readRow_33 : decode cX5_readRow 33 = .ok (.iload_n 1, 1) := by decide +kernel
theorem dX5_readRow_34 : decode cX5_readRow 34 = .ok (.ishl, 1) := by decide +kernel
theorem dX5_readRow_35 : decode cX5_readRow 35 = .ok (.invokevirtual 64, 3) := by decide +kernel
theorem dX5_readRow_38 : decode cX5_readRow 38 = .ok (.istore_n 3, 1) := by decide +kernel
theorem dX5_readRow_39 : decode cX5_readRow 39 = .ok (.aload_n 0, 1) := by decide +kernel
theorem dX5_readRow_40 : decode cX5_readRow 40 = .ok (.iconst 1, 1) := by decide +kernel
theorem dX5_readRow_41 : decode cX5_readRow 41 = .ok (.iload_n 1, 1) := by decide +kernel
theorem dX5_readRow_42 : decode cX5_readRow 42 = .ok (.ishl, 1) := by decide +kernel
theorem dX5_readRow_43 : decode cX5_readRow 43 = .ok (.iload_n 3, 1) := by decide +kernel
theorem dX5_readRow_44 : decode cX5_readRow 44 = .ok (.invokevirtual 67, 3) := by decide +kernel
theorem dX5_readRow_47 : decode cX5_readRow 47 = .ok (.iload_n 3, 1) := by decide +kernel
theorem dX5_readRow_48 : decode cX5_readRow 48 = .ok (.istore_n 1, 1) := by decide +kernel
theorem dX5_readRow_49 : decode cX5_readRow 49 = .ok (.iinc 2 1, 3) := by decide +kernel
theorem dX5_readRow_5 : decode cX5_readRow 5 = .ok (.istore_n 1, 1) := by decide +kernel
theorem dX5_readRow_52 : decode cX5_readRow 52 = .ok (.goto (-44), 3) := by decide +kernel
theorem dX5_readRow_55 : decode cX5_readRow 55 = .ok (.return_, 1) := by decide +kernel
theorem dX5_readRow_6 : decode cX5_readRow 6 = .ok (.iconst 0, 1) := by decide +kernel
theorem dX5_readRow_7 : decode cX5_readRow 7 = .ok (.istore_n 2, 1) := by decide +kernel
theorem dX5_readRow_8 : decode cX5_readRow 8 = .ok (.iload_n 2, 1) := by decide +kernel
theorem dX5_readRow_9 : decode cX5_readRow 9 = .ok (.bipush 120, 2) := by decide +kernel
set_option maxHeartbeats 4000000 in
set_option maxRecDepth 100000 in
theorem k_X5_readRow (l : Launch) (D : va_G) (cI cS : ClassId) (sz : Nat) (a : Nat → Nat) (na nc N : Nat) (L u0 : SU) (hL : TyX L) (hN : N = 0 ∨ N = 24576) : Met l yX5_readRow wsX5_readRow ({ frames := 3, cells := 0, slots := 0, locals := 120 }) (PQ D cI cS (wX cI cS a na nc N L u0) sz [.ref (a 23)]) (QE (S := SU) D (wX cI cS a na nc N L u0) (wX cI cS a na nc N L) sz (fun _ => True)) 0 0 (va_A (wX cI cS a na nc N L u0) sz) := by
  refine Met.ofW (cc := cX5_readRow) (maxL := 4) (ret := none) (by decide) rfl ?_
  intro p e s m args below meth c s₁ B hml hv
  obtain ⟨rfl, hsz, hP, hKK, hD0⟩ := hv
  have hx := B.exec
  have hb := B.bytes
  have hr := B.returns
  have hts := atoms_spec (ws := wsX5_readRow) B.pre
  have hown : s.vm.findClass RX5 = some m.cls := findClass_of_methodNamed B.named
  have hlocks := B.notSynchronized
  have hK := hKK.1
  have hin5 : ∀ w ∈ wsX50, w ∈ wsX5_readRow := by decide +kernel
  subst hsz
  have hD := hD0.self (sz := s.heap.size)
  obtain ⟨A, hAe⟩ : ∃ A, A = va_A (wX cI cS a na nc N L u0) s.heap.size := ⟨_, rfl⟩
  rw [← hAe] at hD
  have hA : ∀ q : Nat, s.heap.size ≤ q → A q := fun q h => by rw [hAe]; exact Or.inr h
  have hS : va_S A s.heap s.heap [] := va_S.rf
  have hl := lv_entry ([.ref (a 23)]) (n := 4) (Nat.le_of_ble_eq_true rfl)
  rw [lg_entry_eq]
  generalize (lg_sl ([.ref (a 23)]) ++ List.replicate (4 - (lg_sl ([.ref (a 23)])).length) Slot.unset).toArray = ls at hl ⊢
  have hl : lv_has ls 4 [(0, .ref (a 23))] := hl
  obtain ⟨u, hu9⟩ : ∃ u : SU, u = u0 := ⟨_, rfl⟩
  rw [← hu9] at hP hD
  have lp8 : ∀ (n8 : Nat) (y8_l1 : Int32) (y8_l2 : Int32) (u : SU) (H : Heap) (locs : List Loc) (ls : Array Slot), Rg 0 120 y8_l2 → va_P D cls (wX cI cS a na nc N L u) H → va_D A (wX cI cS a na nc N L u) → va_S A s.heap H locs → lv_has ls 4 [(0, .ref (a 23)), (1, .int y8_l1), (2, .int y8_l2)] → 120 - y8_l2.toInt < (n8 : Int) → W p l e (headSpec wsX5_readRow ({ frames := 3, cells := 0, slots := 0, locals := 120 })).room s m ([.ref (a 23)]).toArray below meth c H locs 0 0 (MQ below (QE (S := SU) D (wX cI cS a na nc N L u0) (wX cI cS a na nc N L) s.heap.size (fun _ => True)) ([.ref (a 23)]).toArray s 0 0 (va_A (wX cI cS a na nc N L u0) s.heap.size)) (F0 m 8 ls []) := by
    intro n8
    induction n8 with
    | zero =>
      intro y8_l1 y8_l2 u H locs ls g8_l2 hP hD hS hl hm8
      exact absurd rfl (me_z g8_l2 hm8)
    | succ n8 ih8 =>
      intro y8_l1 y8_l2 u H locs ls g8_l2 hP hD hS hl hm8
      refine lv_iload_n hx hb dX5_readRow_8 rfl (lv_at hl 2 rfl) ?_
      refine lv_bipush (v := 120) hx hb dX5_readRow_9 (by decide) ?_
      refine lv_icmp_ge (tgt := 55) hx hb dX5_readRow_11 (by decide) (fun c40170 => ?_) (fun c40170 => ?_)
      · have g40171 : Rg 120 120 y8_l2 := rg_ler (by decide : Rg 120 120 (120 : Int32)) g8_l2 c40170 (by decide)
        subst hAe
        exact W.vret hx hb hr (fun t ht hW => ⟨⟨u, rfl, trivial, by rw [ht]; exact hP, hD⟩, hS.F ht⟩) hS.2.2 dX5_readRow_55
      · have g40172 : Rg 0 119 y8_l2 := rg_ltl g8_l2 (by decide : Rg 120 120 (120 : Int32)) (rg_nle c40170) (by decide)
        refine lv_iload_n hx hb dX5_readRow_14 rfl (lv_at hl 1 rfl) ?_
        refine lv_if_lt (tgt := 55) hx hb dX5_readRow_15 (by decide) (fun c40173 => ?_) (fun c40173 => ?_)
        · have g40174 : Rg (-2147483648) (-1) y8_l1 := rg_ltl (rg_any y8_l1) (by decide : Rg 0 0 (0 : Int32)) c40173 (by decide)
          subst hAe
          exact W.vret hx hb hr (fun t ht hW => ⟨⟨u, rfl, trivial, by rw [ht]; exact hP, hD⟩, hS.F ht⟩) hS.2.2 dX5_readRow_55
        · have g40175 : Rg 0 2147483647 y8_l1 := rg_ler (by decide : Rg 0 0 (0 : Int32)) (rg_any y8_l1) (rg_nlt c40173) (by decide)
          refine lv_aload_n hx hb dX5_readRow_18 rfl (lv_at hl 0 rfl) ?_
          refine va_get (D := D) (ci := 5) (v := .int (u 23 5)) (C := RX5) (T := TX5) (N := 8) hx hb hts hin5 hown hK hP 23 rfl rfl 5 (by decide) (hts (.fieldLink RX5 36 "MissedPoints$Reader" "token" "I") (by decide +kernel)) (fun _ h9 => h9) rfl dX5_readRow_19 ?_
          refine wk_any (fun r40176 => ?_)
          refine lv_bipush (v := 45) hx hb dX5_readRow_22 (by decide) ?_
          refine lv_icmp_ne (tgt := 55) hx hb dX5_readRow_24 (by decide) (fun c40177 => ?_) (fun c40177 => ?_)
          · subst hAe
            exact W.vret hx hb hr (fun t ht hW => ⟨⟨u, rfl, trivial, by rw [ht]; exact hP, hD⟩, hS.F ht⟩) hS.2.2 dX5_readRow_55
          · have g40178 : Rg 45 45 r40176 := wk_eql (rg_any r40176) (by decide : Rg 45 45 (45 : Int32)) c40177 (by decide)
            refine lv_aload_n hx hb dX5_readRow_27 rfl (lv_at hl 0 rfl) ?_
            refine wk_qv (wX cI cS a na nc N L) u (As := []) (rest := []) ⟨hx, hb, hml, hown, hts⟩ (k_X5_step l D cI cS _ a na nc N L u hL hN) hKK hP hD hS hA 23 (ci := 5) rfl rfl (cwV 0 hts gX5_readRow_X5_step rfl rfl rfl (by decide +kernel) ⟨Nat.le_of_ble_eq_true rfl, Nat.le_of_ble_eq_true rfl⟩) rfl hl.1 rfl (Nat.le_of_ble_eq_true rfl) dX5_readRow_28 ⟨Nat.le_of_ble_eq_true rfl, Nat.le_of_ble_eq_true rfl⟩ (fun u H locs hr40179 hP hD hS => ?_)
            refine lv_aload_n hx hb dX5_readRow_31 rfl (lv_at hl 0 rfl) ?_
            refine lv_iconst (v := 1) hx hb dX5_readRow_32 (by decide) ?_
            refine lv_iload_n hx hb dX5_readRow_33 rfl (lv_at hl 1 rfl) ?_
            refine lv_ishl hx hb dX5_readRow_34 ?_
            refine wk_topP (P := fun r => r = (1 : Int32) <<< (y8_l1 &&& 31)) rfl (fun r40180 qr40180 => ?_)
            refine wk_qi (wX cI cS a na nc N L) u (As := [.int r40180]) (rest := []) ⟨hx, hb, hml, hown, hts⟩ (k_X5_readPoint l D cI cS _ a na nc N L u hL hN r40180) hKK hP hD hS hA 23 (ci := 5) rfl rfl (cwV 1 hts gX5_readRow_X5_readPoint rfl rfl rfl (by decide +kernel) ⟨Nat.le_of_ble_eq_true rfl, Nat.le_of_ble_eq_true rfl⟩) rfl hl.1 rfl (Nat.le_of_ble_eq_true rfl) dX5_readRow_35 ⟨Nat.le_of_ble_eq_true rfl, Nat.le_of_ble_eq_true rfl⟩ (fun r40181 u H locs hr40181 hP hD hS => ?_)
            refine lv_istore_n (lv' := [(3, .int r40181), (0, .ref (a 23)), (1, .int y8_l1), (2, .int y8_l2)]) hx hb dX5_readRow_38 rfl hl (by decide) rfl (fun ls hl => ?_)
            refine lv_aload_n hx hb dX5_readRow_39 rfl (lv_at hl 1 rfl) ?_
            refine lv_iconst (v := 1) hx hb dX5_readRow_40 (by decide) ?_
            refine lv_iload_n hx hb dX5_readRow_41 rfl (lv_at hl 2 rfl) ?_
            refine lv_ishl hx hb dX5_readRow_42 ?_
            refine wk_topP (P := fun r => r = (1 : Int32) <<< (y8_l1 &&& 31)) rfl (fun r40182 qr40182 => ?_)
            refine lv_iload_n hx hb dX5_readRow_43 rfl (lv_at hl 0 rfl) ?_
            refine wk_qv (wX cI cS a na nc N L) u (As := [.int r40182, .int r40181]) (rest := []) ⟨hx, hb, hml, hown, hts⟩ (k_X5_joinEach l D cI cS _ a na nc N L u hL hN r40182 r40181) hKK hP hD hS hA 23 (ci := 5) rfl rfl (cwV 2 hts gX5_readRow_X5_joinEach rfl rfl rfl (by decide +kernel) ⟨Nat.le_of_ble_eq_true rfl, Nat.le_of_ble_eq_true rfl⟩) rfl hl.1 rfl (Nat.le_of_ble_eq_true rfl) dX5_readRow_44 ⟨Nat.le_of_ble_eq_true rfl, Nat.le_of_ble_eq_true rfl⟩ (fun u H locs hr40183 hP hD hS => ?_)
            refine lv_iload_n hx hb dX5_readRow_47 rfl (lv_at hl 0 rfl) ?_
            refine lv_istore_n (lv' := [(1, .int r40181), (3, .int r40181), (0, .ref (a 23)), (2, .int y8_l2)]) hx hb dX5_readRow_48 rfl hl (by decide) rfl (fun ls hl => ?_)
            refine wk_iinc (lv' := fun r => [(2, .int r), (1, .int r40181), (3, .int r40181), (0, .ref (a 23))]) (e1 := 1) (f := 120) hx hb dX5_readRow_49 hl (k := 3) rfl (by decide) g40172 (by decide) (fun _ => rfl) (fun r40184 ls hr40184 er40184 hl => ?_)
            refine lv_goto (tgt := 8) hx hb dX5_readRow_52 (by decide) ?_
            exact ih8 r40181 r40184 u _ _ ls (show Rg 0 120 r40184 from rg_w hr40184 (by decide) (by decide)) hP hD hS (lv_sub (l' := [(0, .ref (a 23)), (1, .int r40181), (2, .int r40184)]) hl [3, 1, 0] rfl) (me_up hm8 er40184 (by decide))
  refine lv_aload_n hx hb dX5_readRow_0 rfl (lv_at hl 0 rfl) ?_
  refine lv_iconst (v := 0) hx hb dX5_readRow_1 (by decide) ?_
  refine wk_qi (wX cI cS a na nc N L) u (As := [.int 0]) (rest := []) ⟨hx, hb, hml, hown, hts⟩ (k_X5_readPoint l D cI cS _ a na nc N L u hL hN (0 : Int32)) hKK hP hD hS hA 23 (ci := 5) rfl rfl (cwV 1 hts gX5_readRow_X5_readPoint rfl rfl rfl (by decide +kernel) ⟨Nat.le_of_ble_eq_true rfl, Nat.le_of_ble_eq_true rfl⟩) rfl hl.1 rfl (Nat.le_of_ble_eq_true rfl) dX5_readRow_2 ⟨Nat.le_of_ble_eq_true rfl, Nat.le_of_ble_eq_true rfl⟩ (fun r40185 u H locs hr40185 hP hD hS => ?_)
  refine lv_istore_n (lv' := [(1, .int r40185), (0, .ref (a 23))]) hx hb dX5_readRow_5 rfl hl (by decide) rfl (fun ls hl => ?_)
  refine lv_iconst (v := 0) hx hb dX5_readRow_6 (by decide) ?_
  refine lv_istore_n (lv' := [(2, .int 0), (1, .int r40185), (0, .ref (a 23))]) hx hb dX5_readRow_7 rfl hl (by decide) rfl (fun ls hl => ?_)
  exact lp8 121 r40185 (0 : Int32) u _ _ ls (by decide : Rg 0 120 (0 : Int32)) hP hD hS (lv_sub (l' := [(0, .ref (a 23)), (1, .int r40185), (2, .int 0)]) hl [2, 1, 0] rfl) (me_i (by decide : Rg 0 120 (0 : Int32)) (by decide))
