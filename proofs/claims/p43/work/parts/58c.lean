set_option maxRecDepth 20000 in
theorem ggX10_noteBarrier_J6_bitCount_0f7a4 : GoodIn wsX10_noteBarrier wsJ6_bitCount_0f7a4 := goodIn_r _ [7, 8, 9, 10] rfl (by decide +kernel)
set_option maxRecDepth 20000 in
theorem gX10_noteBarrier_J6_bitCount_0f7a4 : GoodIn wsX10_noteBarrier (va_wsS RX10 40 yJ6_bitCount_0f7a4 wsJ6_bitCount_0f7a4) := goodIn_app (goodIn_of _ (by decide +kernel)) ggX10_noteBarrier_J6_bitCount_0f7a4
theorem dX10_noteBarrier_11 : decode cX10_noteBarrier 11 = .ok (.aload_n 0, 1) := by decide +kernel
theorem dX10_noteBarrier_12 : decode cX10_noteBarrier 12 = .ok (.getfield 59, 3) := by decide +kernel
theorem dX10_noteBarrier_15 : decode cX10_noteBarrier 15 = .ok (.invokestatic 40, 3) := by decide +kernel
theorem dX10_noteBarrier_18 : decode cX10_noteBarrier 18 = .ok (.if_icmp .le 8, 3) := by decide +kernel
theorem dX10_noteBarrier_7 : decode cX10_noteBarrier 7 = .ok (.iload_n 1, 1) := by decide +kernel
theorem dX10_noteBarrier_8 : decode cX10_noteBarrier 8 = .ok (.invokestatic 40, 3) := by decide +kernel
set_option maxHeartbeats 4000000 in
set_option maxRecDepth 100000 in
theorem k_X10_noteBarrier (l : Launch) (D : va_G) (cI cS : ClassId) (sz : Nat) (a : Nat → Nat) (na nc N : Nat) (L u0 : SU) (hL : TyX L) (hN : N = 0 ∨ N = 24576) (x0 : Int32) : Met l yX10_noteBarrier wsX10_noteBarrier ({ frames := 1, cells := 0, slots := 0, locals := 40 }) (PQ D cI cS (wX cI cS a na nc N L u0) sz [.ref (a 18), .int x0]) (QE (S := SU) D (wX cI cS a na nc N L u0) (wX cI cS a na nc N L) sz (fun _ => True)) 0 0 (va_A (wX cI cS a na nc N L u0) sz) := by
  refine Met.ofW (cc := cX10_noteBarrier) (maxL := 2) (ret := none) (by decide) rfl ?_
  intro p e s m args below meth c s₁ B hml hv
  obtain ⟨rfl, hsz, hP, hKK, hD0⟩ := hv
  have hx := B.exec
  have hb := B.bytes
  have hr := B.returns
  have hts := atoms_spec (ws := wsX10_noteBarrier) B.pre
  have hown : s.vm.findClass RX10 = some m.cls := findClass_of_methodNamed B.named
  have hlocks := B.notSynchronized
  have hK := hKK.1
  have hin10 : ∀ w ∈ wsX100, w ∈ wsX10_noteBarrier := by decide +kernel
  subst hsz
  have hD := hD0.self (sz := s.heap.size)
  obtain ⟨A, hAe⟩ : ∃ A, A = va_A (wX cI cS a na nc N L u0) s.heap.size := ⟨_, rfl⟩
  rw [← hAe] at hD
  have hA : ∀ q : Nat, s.heap.size ≤ q → A q := fun q h => by rw [hAe]; exact Or.inr h
  have hS : va_S A s.heap s.heap [] := va_S.rf
  have hl := lv_entry ([.ref (a 18), .int x0]) (n := 2) (Nat.le_of_ble_eq_true rfl)
  rw [lg_entry_eq]
  generalize (lg_sl ([.ref (a 18), .int x0]) ++ List.replicate (2 - (lg_sl ([.ref (a 18), .int x0])).length) Slot.unset).toArray = ls at hl ⊢
  have hl : lv_has ls 2 [(0, .ref (a 18)), (1, .int x0)] := hl
  obtain ⟨u, hu9⟩ : ∃ u : SU, u = u0 := ⟨_, rfl⟩
  rw [← hu9] at hP hD
  have ct21 : ∀ (u : SU) (H : Heap) (locs : List Loc) (ls : Array Slot), va_P D cls (wX cI cS a na nc N L u) H → va_D A (wX cI cS a na nc N L u) → va_S A s.heap H locs → lv_has ls 2 [(0, .ref (a 18)), (1, .int x0)] → W p l e (headSpec wsX10_noteBarrier ({ frames := 1, cells := 0, slots := 0, locals := 40 })).room s m ([.ref (a 18), .int x0]).toArray below meth c H locs 0 0 (MQ below (QE (S := SU) D (wX cI cS a na nc N L u0) (wX cI cS a na nc N L) s.heap.size (fun _ => True)) ([.ref (a 18), .int x0]).toArray s 0 0 (va_A (wX cI cS a na nc N L u0) s.heap.size)) (F0 m 21 ls []) := by
    intro u H locs ls hP hD hS hl
    refine lv_aload_n hx hb dX10_noteBarrier_21 rfl (lv_at hl 0 rfl) ?_
    refine lv_iload_n hx hb dX10_noteBarrier_22 rfl (lv_at hl 1 rfl) ?_
    refine va_put (D := D) (ci := 10) (v := .int x0) (ty := .int) (C := RX10) (T := TX10) (N := 8) hx hb hts hin10 tyX10 tyX10_ok nmX10 hown hK hP hD hS 18 rfl rfl 5 (by decide) (hts (.fieldLink RX10 59 "MissedPoints$Witness" "greatestBarrier" "I") (by decide +kernel)) (fun _ h9 => h9) rfl (by decide +kernel) rfl rfl (Nat.le_of_ble_eq_true rfl) dX10_noteBarrier_23 (fun H locs hP hD hS => ?_)
    rw [sxf_18_5] at hP hD
    generalize sU u 18 _ = u at hP hD
    refine lv_aload_n hx hb dX10_noteBarrier_26 rfl (lv_at hl 0 rfl) ?_
    refine lv_dup hx hb dX10_noteBarrier_27 rfl ?_
    refine va_get (D := D) (ci := 10) (v := .int (u 18 6)) (C := RX10) (T := TX10) (N := 8) hx hb hts hin10 hown hK hP 18 rfl rfl 6 (by decide) (hts (.fieldLink RX10 62 "MissedPoints$Witness" "inEachBarrier" "I") (by decide +kernel)) (fun _ h9 => h9) rfl dX10_noteBarrier_28 ?_
    refine wk_any (fun r36786 => ?_)
    refine lv_iload_n hx hb dX10_noteBarrier_31 rfl (lv_at hl 1 rfl) ?_
    refine lv_iand hx hb dX10_noteBarrier_32 ?_
    refine wk_topP (P := fun r => r = r36786 &&& x0) rfl (fun r36787 qr36787 => ?_)
    refine va_put (D := D) (ci := 10) (v := .int r36787) (ty := .int) (C := RX10) (T := TX10) (N := 8) hx hb hts hin10 tyX10 tyX10_ok nmX10 hown hK hP hD hS 18 rfl rfl 6 (by decide) (hts (.fieldLink RX10 62 "MissedPoints$Witness" "inEachBarrier" "I") (by decide +kernel)) (fun _ h9 => h9) rfl (by decide +kernel) rfl rfl (Nat.le_of_ble_eq_true rfl) dX10_noteBarrier_33 (fun H locs hP hD hS => ?_)
    rw [sxf_18_6] at hP hD
    generalize sU u 18 _ = u at hP hD
    refine lv_aload_n hx hb dX10_noteBarrier_36 rfl (lv_at hl 0 rfl) ?_
    refine lv_dup hx hb dX10_noteBarrier_37 rfl ?_
    refine va_get (D := D) (ci := 10) (v := .int (u 18 4)) (C := RX10) (T := TX10) (N := 8) hx hb hts hin10 hown hK hP 18 rfl rfl 4 (by decide) (hts (.fieldLink RX10 56 "MissedPoints$Witness" "barrierCount" "I") (by decide +kernel)) (fun _ h9 => h9) rfl dX10_noteBarrier_38 ?_
    refine wk_any (fun r36788 => ?_)
    refine lv_iconst (v := 1) hx hb dX10_noteBarrier_41 (by decide) ?_
    refine lv_iadd hx hb dX10_noteBarrier_42 ?_
    refine wk_topP (P := fun r => r = r36788 + (1 : Int32)) rfl (fun r36789 qr36789 => ?_)
    refine va_put (D := D) (ci := 10) (v := .int r36789) (ty := .int) (C := RX10) (T := TX10) (N := 8) hx hb hts hin10 tyX10 tyX10_ok nmX10 hown hK hP hD hS 18 rfl rfl 4 (by decide) (hts (.fieldLink RX10 56 "MissedPoints$Witness" "barrierCount" "I") (by decide +kernel)) (fun _ h9 => h9) rfl (by decide +kernel) rfl rfl (Nat.le_of_ble_eq_true rfl) dX10_noteBarrier_43 (fun H locs hP hD hS => ?_)
    rw [sxf_18_4] at hP hD
    generalize sU u 18 _ = u at hP hD
    subst hAe
    exact W.vret hx hb hr (fun t ht hW => ⟨⟨u, rfl, trivial, by rw [ht]; exact hP, hD⟩, hS.F ht⟩) hS.2.2 dX10_noteBarrier_46
  refine lv_aload_n hx hb dX10_noteBarrier_0 rfl (lv_at hl 0 rfl) ?_
  refine va_get (D := D) (ci := 10) (v := .int (u 18 4)) (C := RX10) (T := TX10) (N := 8) hx hb hts hin10 hown hK hP 18 rfl rfl 4 (by decide) (hts (.fieldLink RX10 56 "MissedPoints$Witness" "barrierCount" "I") (by decide +kernel)) (fun _ h9 => h9) rfl dX10_noteBarrier_1 ?_
  refine wk_any (fun r36790 => ?_)
  refine lv_if_eq (tgt := 21) hx hb dX10_noteBarrier_4 (by decide) (fun c36791 => ?_) (fun c36791 => ?_)
  · have g36792 : Rg 0 0 r36790 := wk_eql (rg_any r36790) (by decide : Rg 0 0 (0 : Int32)) c36791 (by decide)
    exact ct21 u _ _ ls hP hD hS (lv_sub (l' := [(0, .ref (a 18)), (1, .int x0)]) hl [0, 1] rfl)
  · refine lv_iload_n hx hb dX10_noteBarrier_7 rfl (lv_at hl 1 rfl) ?_
    refine lz_ss (As := [.int x0]) (rest := []) ⟨hx, hb, hml, hown, hts⟩ (k_J6_bitCount_0f7a4 l D cI cS x0) hKK (hP.sub (ws' := []) [] rfl) (va_cwS 1 hts gX10_noteBarrier_J6_bitCount_0f7a4 rfl rfl rfl (by decide +kernel) ⟨Nat.le_of_ble_eq_true rfl, Nat.le_of_ble_eq_true rfl⟩) rfl hl.1 rfl (Nat.le_of_ble_eq_true rfl) dX10_noteBarrier_8 ⟨Nat.le_of_ble_eq_true rfl, Nat.le_of_ble_eq_true rfl⟩ (fun r36793 hr36793 => ?_)
    refine lv_aload_n hx hb dX10_noteBarrier_11 rfl (lv_at hl 0 rfl) ?_
    refine va_get (D := D) (ci := 10) (v := .int (u 18 5)) (C := RX10) (T := TX10) (N := 8) hx hb hts hin10 hown hK hP 18 rfl rfl 5 (by decide) (hts (.fieldLink RX10 59 "MissedPoints$Witness" "greatestBarrier" "I") (by decide +kernel)) (fun _ h9 => h9) rfl dX10_noteBarrier_12 ?_
    refine wk_any (fun r36794 => ?_)
    refine lz_ss (As := [.int r36794]) (rest := [.int r36793]) ⟨hx, hb, hml, hown, hts⟩ (k_J6_bitCount_0f7a4 l D cI cS r36794) hKK (hP.sub (ws' := []) [] rfl) (va_cwS 1 hts gX10_noteBarrier_J6_bitCount_0f7a4 rfl rfl rfl (by decide +kernel) ⟨Nat.le_of_ble_eq_true rfl, Nat.le_of_ble_eq_true rfl⟩) rfl hl.1 rfl (Nat.le_of_ble_eq_true rfl) dX10_noteBarrier_15 ⟨Nat.le_of_ble_eq_true rfl, Nat.le_of_ble_eq_true rfl⟩ (fun r36795 hr36795 => ?_)
    refine lv_icmp_le (tgt := 26) hx hb dX10_noteBarrier_18 (by decide) (fun c36796 => ?_) (fun c36796 => ?_)
    · refine lv_aload_n hx hb dX10_noteBarrier_26 rfl (lv_at hl 0 rfl) ?_
      refine lv_dup hx hb dX10_noteBarrier_27 rfl ?_
      refine va_get (D := D) (ci := 10) (v := .int (u 18 6)) (C := RX10) (T := TX10) (N := 8) hx hb hts hin10 hown hK hP 18 rfl rfl 6 (by decide) (hts (.fieldLink RX10 62 "MissedPoints$Witness" "inEachBarrier" "I") (by decide +kernel)) (fun _ h9 => h9) rfl dX10_noteBarrier_28 ?_
      refine wk_any (fun r36797 => ?_)
      refine lv_iload_n hx hb dX10_noteBarrier_31 rfl (lv_at hl 1 rfl) ?_
      refine lv_iand hx hb dX10_noteBarrier_32 ?_
      refine wk_topP (P := fun r => r = r36797 &&& x0) rfl (fun r36798 qr36798 => ?_)
      refine va_put (D := D) (ci := 10) (v := .int r36798) (ty := .int) (C := RX10) (T := TX10) (N := 8) hx hb hts hin10 tyX10 tyX10_ok nmX10 hown hK hP hD hS 18 rfl rfl 6 (by decide) (hts (.fieldLink RX10 62 "MissedPoints$Witness" "inEachBarrier" "I") (by decide +kernel)) (fun _ h9 => h9) rfl (by decide +kernel) rfl rfl (Nat.le_of_ble_eq_true rfl) dX10_noteBarrier_33 (fun H locs hP hD hS => ?_)
      rw [sxf_18_6] at hP hD
      generalize sU u 18 _ = u at hP hD
      refine lv_aload_n hx hb dX10_noteBarrier_36 rfl (lv_at hl 0 rfl) ?_
      refine lv_dup hx hb dX10_noteBarrier_37 rfl ?_
      refine va_get (D := D) (ci := 10) (v := .int (u 18 4)) (C := RX10) (T := TX10) (N := 8) hx hb hts hin10 hown hK hP 18 rfl rfl 4 (by decide) (hts (.fieldLink RX10 56 "MissedPoints$Witness" "barrierCount" "I") (by decide +kernel)) (fun _ h9 => h9) rfl dX10_noteBarrier_38 ?_
      refine wk_any (fun r36799 => ?_)
      refine lv_iconst (v := 1) hx hb dX10_noteBarrier_41 (by decide) ?_
      refine lv_iadd hx hb dX10_noteBarrier_42 ?_
      refine wk_topP (P := fun r => r = r36799 + (1 : Int32)) rfl (fun r36800 qr36800 => ?_)
      refine va_put (D := D) (ci := 10) (v := .int r36800) (ty := .int) (C := RX10) (T := TX10) (N := 8) hx hb hts hin10 tyX10 tyX10_ok nmX10 hown hK hP hD hS 18 rfl rfl 4 (by decide) (hts (.fieldLink RX10 56 "MissedPoints$Witness" "barrierCount" "I") (by decide +kernel)) (fun _ h9 => h9) rfl (by decide +kernel) rfl rfl (Nat.le_of_ble_eq_true rfl) dX10_noteBarrier_43 (fun H locs hP hD hS => ?_)
      rw [sxf_18_4] at hP hD
      generalize sU u 18 _ = u at hP hD
      subst hAe
      exact W.vret hx hb hr (fun t ht hW => ⟨⟨u, rfl, trivial, by rw [ht]; exact hP, hD⟩, hS.F ht⟩) hS.2.2 dX10_noteBarrier_46
    · exact ct21 u _ _ ls hP hD hS (lv_sub (l' := [(0, .ref (a 18)), (1, .int x0)]) hl [0, 1] rfl)
theorem dX10_seekBarriers_122 : decode cX10_seekBarriers 122 = .ok (.iconst 0, 1) := by decide +kernel
theorem dX10_seekBarriers_14 : decode cX10_seekBarriers 14 = .ok (.return_, 1) := by decide +kernel
theorem dX10_seekBarriers_151 : decode cX10_seekBarriers 151 = .ok (.iload_n 3, 1) := by decide +kernel
theorem dX10_seekBarriers_152 : decode cX10_seekBarriers 152 = .ok (.iload_n 1, 1) := by decide +kernel
theorem dX10_seekBarriers_153 : decode cX10_seekBarriers 153 = .ok (.isub, 1) := by decide +kernel
theorem dX10_seekBarriers_154 : decode cX10_seekBarriers 154 = .ok (.iload_n 1, 1) := by decide +kernel
theorem dX10_seekBarriers_155 : decode cX10_seekBarriers 155 = .ok (.iand, 1) := by decide +kernel
theorem dX10_seekBarriers_156 : decode cX10_seekBarriers 156 = .ok (.istore_n 3, 1) := by decide +kernel
theorem dX10_seekBarriers_157 : decode cX10_seekBarriers 157 = .ok (.iinc 4 1, 3) := by decide +kernel
theorem dX10_seekBarriers_160 : decode cX10_seekBarriers 160 = .ok (.goto (-75), 3) := by decide +kernel
theorem dX10_seekBarriers_163 : decode cX10_seekBarriers 163 = .ok (.return_, 1) := by decide +kernel
set_option maxHeartbeats 4000000 in
set_option maxRecDepth 100000 in
theorem k_X10_seekBarriers (l : Launch) (D : va_G) (cI cS : ClassId) (sz : Nat) (a : Nat → Nat) (na nc N : Nat) (L u0 : SU) (hL : TyX L) (hN : N = 0 ∨ N = 24576) : Met l yX10_seekBarriers wsX10_seekBarriers ({ frames := 17, cells := 0, slots := 0, locals := 680 }) (PQ D cI cS (wX cI cS a na nc N L u0) sz [.ref (a 18)]) (QE (S := SU) D (wX cI cS a na nc N L u0) (wX cI cS a na nc N L) sz (fun _ => True)) 0 0 (va_A (wX cI cS a na nc N L u0) sz) := by
  refine Met.ofW (cc := cX10_seekBarriers) (maxL := 7) (ret := none) (by decide) rfl ?_
  intro p e s m args below meth c s₁ B hml hv
  obtain ⟨rfl, hsz, hP, hKK, hD0⟩ := hv
  have hx := B.exec
  have hb := B.bytes
  have hr := B.returns
  have hts := atoms_spec (ws := wsX10_seekBarriers) B.pre
  have hown : s.vm.findClass RX10 = some m.cls := findClass_of_methodNamed B.named
  have hlocks := B.notSynchronized
  have hK := hKK.1
  have hin2 : ∀ w ∈ wsX20, w ∈ wsX10_seekBarriers := by decide +kernel
  have hin10 : ∀ w ∈ wsX100, w ∈ wsX10_seekBarriers := by decide +kernel
  subst hsz
  have hD := hD0.self (sz := s.heap.size)
  obtain ⟨A, hAe⟩ : ∃ A, A = va_A (wX cI cS a na nc N L u0) s.heap.size := ⟨_, rfl⟩
  rw [← hAe] at hD
  have hA : ∀ q : Nat, s.heap.size ≤ q → A q := fun q h => by rw [hAe]; exact Or.inr h
  have hS : va_S A s.heap s.heap [] := va_S.rf
  have hl := lv_entry ([.ref (a 18)]) (n := 7) (Nat.le_of_ble_eq_true rfl)
  rw [lg_entry_eq]
  generalize (lg_sl ([.ref (a 18)]) ++ List.replicate (7 - (lg_sl ([.ref (a 18)])).length) Slot.unset).toArray = ls at hl ⊢
  have hl : lv_has ls 7 [(0, .ref (a 18))] := hl
  obtain ⟨u, hu9⟩ : ∃ u : SU, u = u0 := ⟨_, rfl⟩
  rw [← hu9] at hP hD
  have lp85 : ∀ (n85 : Nat) (y85_l1 : Int32) (y85_l2 : Int32) (y85_l3 : Int32) (y85_l4 : Int32) (u : SU) (H : Heap) (locs : List Loc) (ls : Array Slot), Rg 0 4095 y85_l1 → Rg 0 4095 y85_l3 → Rg 0 4096 y85_l4 → va_P D cls (wX cI cS a na nc N L u) H → va_D A (wX cI cS a na nc N L u) → va_S A s.heap H locs → lv_has ls 7 [(0, .ref (a 18)), (1, .int y85_l1), (2, .int y85_l2), (3, .int y85_l3), (4, .int y85_l4)] → 4096 - y85_l4.toInt < (n85 : Int) → W p l e (headSpec wsX10_seekBarriers ({ frames := 17, cells := 0, slots := 0, locals := 680 })).room s m ([.ref (a 18)]).toArray below meth c H locs 0 0 (MQ below (QE (S := SU) D (wX cI cS a na nc N L u0) (wX cI cS a na nc N L) s.heap.size (fun _ => True)) ([.ref (a 18)]).toArray s 0 0 (va_A (wX cI cS a na nc N L u0) s.heap.size)) (F0 m 85 ls []) := by
    intro n85
    induction n85 with
    | zero =>
      intro y85_l1 y85_l2 y85_l3 y85_l4 u H locs ls g85_l1 g85_l3 g85_l4 hP hD hS hl hm85
      exact absurd rfl (me_z g85_l4 hm85)
    | succ n85 ih85 =>
      intro y85_l1 y85_l2 y85_l3 y85_l4 u H locs ls g85_l1 g85_l3 g85_l4 hP hD hS hl hm85
      have ct123 : ∀ (y123_l5 : Int32) (y123_s0 : Int32) (u : SU) (H : Heap) (locs : List Loc) (ls : Array Slot), Rg 0 4095 y85_l1 → Rg 0 4095 y85_l3 → Rg 0 4095 y85_l4 → Rg 0 1 y123_s0 → va_P D cls (wX cI cS a na nc N L u) H → va_D A (wX cI cS a na nc N L u) → va_S A s.heap H locs → lv_has ls 7 [(0, .ref (a 18)), (1, .int y85_l1), (2, .int y85_l2), (3, .int y85_l3), (4, .int y85_l4), (5, .int y123_l5)] → W p l e (headSpec wsX10_seekBarriers ({ frames := 17, cells := 0, slots := 0, locals := 680 })).room s m ([.ref (a 18)]).toArray below meth c H locs 0 0 (MQ below (QE (S := SU) D (wX cI cS a na nc N L u0) (wX cI cS a na nc N L) s.heap.size (fun _ => True)) ([.ref (a 18)]).toArray s 0 0 (va_A (wX cI cS a na nc N L u0) s.heap.size)) (F0 m 123 ls [.int y123_s0]) := by
        intro y123_l5 y123_s0 u H locs ls g123_l1 g123_l3 g123_l4 g123_s0 hP hD hS hl
        refine lv_istore (lv' := [(6, .int y123_s0), (0, .ref (a 18)), (1, .int y85_l1), (2, .int y85_l2), (3, .int y85_l3), (4, .int y85_l4), (5, .int y123_l5)]) hx hb dX10_seekBarriers_123 hl (by decide) rfl (fun ls hl => ?_)
        refine lv_iload hx hb dX10_seekBarriers_125 (lv_at hl 0 rfl) ?_
        refine lv_if_eq (tgt := 145) hx hb dX10_seekBarriers_127 (by decide) (fun c37687 => ?_) (fun c37687 => ?_)
        · have g37688 : Rg 0 0 y123_s0 := wk_eql g123_s0 (by decide : Rg 0 0 (0 : Int32)) c37687 (by decide)
          refine lv_iload_n hx hb dX10_seekBarriers_145 rfl (lv_at hl 4 rfl) ?_
          refine lv_iload_n hx hb dX10_seekBarriers_146 rfl (lv_at hl 2 rfl) ?_
          refine lv_icmp_ne (tgt := 151) hx hb dX10_seekBarriers_147 (by decide) (fun c37689 => ?_) (fun c37689 => ?_)
          · refine lv_iload_n hx hb dX10_seekBarriers_151 rfl (lv_at hl 4 rfl) ?_
            refine lv_iload_n hx hb dX10_seekBarriers_152 rfl (lv_at hl 2 rfl) ?_
            refine wk_isub (e1 := (-4095)) (f := 4095) hx hb dX10_seekBarriers_153 g123_l3 g123_l1 (by decide) (fun r37690 hr37690 er37690 qr37690 => ?_)
            refine lv_iload_n hx hb dX10_seekBarriers_154 rfl (lv_at hl 2 rfl) ?_
            refine wk_iandr hx hb dX10_seekBarriers_155 g123_l1 (by decide) (fun r37691 hr37691 qr37691 => ?_)
            refine lv_istore_n (lv' := [(3, .int r37691), (6, .int y123_s0), (0, .ref (a 18)), (1, .int y85_l1), (2, .int y85_l2), (4, .int y85_l4), (5, .int y123_l5)]) hx hb dX10_seekBarriers_156 rfl hl (by decide) rfl (fun ls hl => ?_)
            refine wk_iinc (lv' := fun r => [(4, .int r), (3, .int r37691), (6, .int y123_s0), (0, .ref (a 18)), (1, .int y85_l1), (2, .int y85_l2), (5, .int y123_l5)]) (e1 := 1) (f := 4096) hx hb dX10_seekBarriers_157 hl (k := 5) rfl (by decide) g123_l4 (by decide) (fun _ => rfl) (fun r37692 ls hr37692 er37692 hl => ?_)
            refine lv_goto (tgt := 85) hx hb dX10_seekBarriers_160 (by decide) ?_
            exact ih85 y85_l1 y85_l2 r37691 r37692 u _ _ ls g123_l1 hr37691 (show Rg 0 4096 r37692 from rg_w hr37692 (by decide) (by decide)) hP hD hS (lv_sub (l' := [(0, .ref (a 18)), (1, .int y85_l1), (2, .int y85_l2), (3, .int r37691), (4, .int r37692)]) hl [3, 4, 5, 1, 0] rfl) (me_up hm85 er37692 (by decide))
          · subst hAe
            exact W.vret hx hb hr (fun t ht hW => ⟨⟨u, rfl, trivial, by rw [ht]; exact hP, hD⟩, hS.F ht⟩) hS.2.2 dX10_seekBarriers_150
        · have g37693 : Rg 1 1 y123_s0 := rg_ne_lo (k := 0) g123_s0 (by decide) c37687 (by decide)
          refine lv_aload_n hx hb dX10_seekBarriers_130 rfl (lv_at hl 1 rfl) ?_
          refine lv_iload_n hx hb dX10_seekBarriers_131 rfl (lv_at hl 4 rfl) ?_
          refine wk_sv 18 (As := [.int y85_l3]) (rest := []) ⟨hx, hb, hml, hown, hts⟩ (k_X10_oddWithout l D cI cS a na nc N L u hL hN y85_l3) hKK hP (ci := 10) rfl rfl (cwV 1 hts gX10_seekBarriers_X10_oddWithout rfl rfl rfl (by decide +kernel) ⟨Nat.le_of_ble_eq_true rfl, Nat.le_of_ble_eq_true rfl⟩) rfl hl.1 rfl (Nat.le_of_ble_eq_true rfl) dX10_seekBarriers_132 ⟨Nat.le_of_ble_eq_true rfl, Nat.le_of_ble_eq_true rfl⟩ (fun r37694 hr37694 => ?_)
          refine lv_iload hx hb dX10_seekBarriers_135 (lv_at hl 6 rfl) ?_
          refine lv_icmp_ne (tgt := 145) hx hb dX10_seekBarriers_137 (by decide) (fun c37695 => ?_) (fun c37695 => ?_)
          · refine lv_iload_n hx hb dX10_seekBarriers_145 rfl (lv_at hl 4 rfl) ?_
            refine lv_iload_n hx hb dX10_seekBarriers_146 rfl (lv_at hl 2 rfl) ?_
            refine lv_icmp_ne (tgt := 151) hx hb dX10_seekBarriers_147 (by decide) (fun c37696 => ?_) (fun c37696 => ?_)
            · refine lv_iload_n hx hb dX10_seekBarriers_151 rfl (lv_at hl 4 rfl) ?_
              refine lv_iload_n hx hb dX10_seekBarriers_152 rfl (lv_at hl 2 rfl) ?_
              refine wk_isub (e1 := (-4095)) (f := 4095) hx hb dX10_seekBarriers_153 g123_l3 g123_l1 (by decide) (fun r37697 hr37697 er37697 qr37697 => ?_)
              refine lv_iload_n hx hb dX10_seekBarriers_154 rfl (lv_at hl 2 rfl) ?_
              refine wk_iandr hx hb dX10_seekBarriers_155 g123_l1 (by decide) (fun r37698 hr37698 qr37698 => ?_)
              refine lv_istore_n (lv' := [(3, .int r37698), (6, .int y123_s0), (0, .ref (a 18)), (1, .int y85_l1), (2, .int y85_l2), (4, .int y85_l4), (5, .int y123_l5)]) hx hb dX10_seekBarriers_156 rfl hl (by decide) rfl (fun ls hl => ?_)
              refine wk_iinc (lv' := fun r => [(4, .int r), (3, .int r37698), (6, .int y123_s0), (0, .ref (a 18)), (1, .int y85_l1), (2, .int y85_l2), (5, .int y123_l5)]) (e1 := 1) (f := 4096) hx hb dX10_seekBarriers_157 hl (k := 5) rfl (by decide) g123_l4 (by decide) (fun _ => rfl) (fun r37699 ls hr37699 er37699 hl => ?_)
              refine lv_goto (tgt := 85) hx hb dX10_seekBarriers_160 (by decide) ?_
              exact ih85 y85_l1 y85_l2 r37698 r37699 u _ _ ls g123_l1 hr37698 (show Rg 0 4096 r37699 from rg_w hr37699 (by decide) (by decide)) hP hD hS (lv_sub (l' := [(0, .ref (a 18)), (1, .int y85_l1), (2, .int y85_l2), (3, .int r37698), (4, .int r37699)]) hl [3, 4, 5, 1, 0] rfl) (me_up hm85 er37699 (by decide))
            · subst hAe
              exact W.vret hx hb hr (fun t ht hW => ⟨⟨u, rfl, trivial, by rw [ht]; exact hP, hD⟩, hS.F ht⟩) hS.2.2 dX10_seekBarriers_150
          · refine lv_aload_n hx hb dX10_seekBarriers_140 rfl (lv_at hl 1 rfl) ?_
            refine lv_iload_n hx hb dX10_seekBarriers_141 rfl (lv_at hl 4 rfl) ?_
            refine wk_qv (wX cI cS a na nc N L) u (As := [.int y85_l3]) (rest := []) ⟨hx, hb, hml, hown, hts⟩ (k_X10_noteBarrier l D cI cS _ a na nc N L u hL hN y85_l3) hKK hP hD hS hA 18 (ci := 10) rfl rfl (cwV 1 hts gX10_seekBarriers_X10_noteBarrier rfl rfl rfl (by decide +kernel) ⟨Nat.le_of_ble_eq_true rfl, Nat.le_of_ble_eq_true rfl⟩) rfl hl.1 rfl (Nat.le_of_ble_eq_true rfl) dX10_seekBarriers_142 ⟨Nat.le_of_ble_eq_true rfl, Nat.le_of_ble_eq_true rfl⟩ (fun u H locs hr37700 hP hD hS => ?_)
            refine lv_iload_n hx hb dX10_seekBarriers_145 rfl (lv_at hl 4 rfl) ?_
            refine lv_iload_n hx hb dX10_seekBarriers_146 rfl (lv_at hl 2 rfl) ?_
            refine lv_icmp_ne (tgt := 151) hx hb dX10_seekBarriers_147 (by decide) (fun c37701 => ?_) (fun c37701 => ?_)
            · refine lv_iload_n hx hb dX10_seekBarriers_151 rfl (lv_at hl 4 rfl) ?_
              refine lv_iload_n hx hb dX10_seekBarriers_152 rfl (lv_at hl 2 rfl) ?_
              refine wk_isub (e1 := (-4095)) (f := 4095) hx hb dX10_seekBarriers_153 g123_l3 g123_l1 (by decide) (fun r37702 hr37702 er37702 qr37702 => ?_)
              refine lv_iload_n hx hb dX10_seekBarriers_154 rfl (lv_at hl 2 rfl) ?_
              refine wk_iandr hx hb dX10_seekBarriers_155 g123_l1 (by decide) (fun r37703 hr37703 qr37703 => ?_)
              refine lv_istore_n (lv' := [(3, .int r37703), (6, .int y123_s0), (0, .ref (a 18)), (1, .int y85_l1), (2, .int y85_l2), (4, .int y85_l4), (5, .int y123_l5)]) hx hb dX10_seekBarriers_156 rfl hl (by decide) rfl (fun ls hl => ?_)
              refine wk_iinc (lv' := fun r => [(4, .int r), (3, .int r37703), (6, .int y123_s0), (0, .ref (a 18)), (1, .int y85_l1), (2, .int y85_l2), (5, .int y123_l5)]) (e1 := 1) (f := 4096) hx hb dX10_seekBarriers_157 hl (k := 5) rfl (by decide) g123_l4 (by decide) (fun _ => rfl) (fun r37704 ls hr37704 er37704 hl => ?_)
              refine lv_goto (tgt := 85) hx hb dX10_seekBarriers_160 (by decide) ?_
              exact ih85 y85_l1 y85_l2 r37703 r37704 u _ _ ls g123_l1 hr37703 (show Rg 0 4096 r37704 from rg_w hr37704 (by decide) (by decide)) hP hD hS (lv_sub (l' := [(0, .ref (a 18)), (1, .int y85_l1), (2, .int y85_l2), (3, .int r37703), (4, .int r37704)]) hl [3, 4, 5, 1, 0] rfl) (me_up hm85 er37704 (by decide))
            · subst hAe
              exact W.vret hx hb hr (fun t ht hW => ⟨⟨u, rfl, trivial, by rw [ht]; exact hP, hD⟩, hS.F ht⟩) hS.2.2 dX10_seekBarriers_150
      refine lv_iload hx hb dX10_seekBarriers_85 (lv_at hl 4 rfl) ?_
      refine lv_sipush (v := 4096) hx hb dX10_seekBarriers_87 (by decide) ?_
      refine lv_icmp_ge (tgt := 163) hx hb dX10_seekBarriers_90 (by decide) (fun c37705 => ?_) (fun c37705 => ?_)
      · have g37706 : Rg 4096 4096 y85_l4 := rg_ler (by decide : Rg 4096 4096 (4096 : Int32)) g85_l4 c37705 (by decide)
        subst hAe
        exact W.vret hx hb hr (fun t ht hW => ⟨⟨u, rfl, trivial, by rw [ht]; exact hP, hD⟩, hS.F ht⟩) hS.2.2 dX10_seekBarriers_163
      · have g37707 : Rg 0 4095 y85_l4 := rg_ltl g85_l4 (by decide : Rg 4096 4096 (4096 : Int32)) (rg_nle c37705) (by decide)
        refine lv_iload_n hx hb dX10_seekBarriers_93 rfl (lv_at hl 3 rfl) ?_
        refine lz_ss (As := [.int y85_l3]) (rest := []) ⟨hx, hb, hml, hown, hts⟩ (k_J6_bitCount_0f7a4 l D cI cS y85_l3) hKK (hP.sub (ws' := []) [] rfl) (va_cwS 1 hts gX10_seekBarriers_J6_bitCount_0f7a4 rfl rfl rfl (by decide +kernel) ⟨Nat.le_of_ble_eq_true rfl, Nat.le_of_ble_eq_true rfl⟩) rfl hl.1 rfl (Nat.le_of_ble_eq_true rfl) dX10_seekBarriers_94 ⟨Nat.le_of_ble_eq_true rfl, Nat.le_of_ble_eq_true rfl⟩ (fun r37708 hr37708 => ?_)
        refine lv_iload_n hx hb dX10_seekBarriers_97 rfl (lv_at hl 2 rfl) ?_
        refine lv_iadd hx hb dX10_seekBarriers_98 ?_
        refine wk_topP (P := fun r => r = r37708 + y85_l2) rfl (fun r37709 qr37709 => ?_)
        refine lv_istore (lv' := [(5, .int r37709), (0, .ref (a 18)), (1, .int y85_l1), (2, .int y85_l2), (3, .int y85_l3), (4, .int y85_l4)]) hx hb dX10_seekBarriers_99 hl (by decide) rfl (fun ls hl => ?_)
        refine lv_iload_n hx hb dX10_seekBarriers_101 rfl (lv_at hl 4 rfl) ?_
        refine lz_ss (As := [.int y85_l3]) (rest := []) ⟨hx, hb, hml, hown, hts⟩ (k_J6_bitCount_0f7a4 l D cI cS y85_l3) hKK (hP.sub (ws' := []) [] rfl) (va_cwS 1 hts gX10_seekBarriers_J6_bitCount_0f7a4 rfl rfl rfl (by decide +kernel) ⟨Nat.le_of_ble_eq_true rfl, Nat.le_of_ble_eq_true rfl⟩) rfl hl.1 rfl (Nat.le_of_ble_eq_true rfl) dX10_seekBarriers_102 ⟨Nat.le_of_ble_eq_true rfl, Nat.le_of_ble_eq_true rfl⟩ (fun r37710 hr37710 => ?_)
        refine lv_iload hx hb dX10_seekBarriers_105 (lv_at hl 0 rfl) ?_
        refine lv_iadd hx hb dX10_seekBarriers_107 ?_
        refine wk_topP (P := fun r => r = r37710 + r37709) rfl (fun r37711 qr37711 => ?_)
        refine lv_aload_n hx hb dX10_seekBarriers_108 rfl (lv_at hl 1 rfl) ?_
        refine va_get (D := D) (ci := 10) (v := .ref (a 1)) (C := RX10) (T := TX10) (N := 8) hx hb hts hin10 hown hK hP 18 rfl rfl 0 (by decide) (hts (.fieldLink RX10 19 "MissedPoints$Witness" "net" "LMissedPoints$Net;") (by decide +kernel)) (fun _ h9 => h9) rfl dX10_seekBarriers_109 ?_
        refine va_getN (D := D) (ci := 2) (v := .int (L 1 1)) (C := RX2) (T := TX2) (N := 3) hx hb hts hin2 hown hK hP 1 rfl rfl 1 (by decide) (va_Nw.use rfl hKK.2.2.2.2.2.2.2.2.2.2.2.2.2.2.2.2.2.2.1) (fun _ h9 => h9) rfl dX10_seekBarriers_112 ?_
        refine lv_icmp_gt (tgt := 122) hx hb dX10_seekBarriers_115 (by decide) (fun c37712 => ?_) (fun c37712 => ?_)
        · have g37713 : Rg 1 2147483647 r37711 := rg_ltr hL.1 (rg_any r37711) c37712 (by decide)
          refine lv_iconst (v := 0) hx hb dX10_seekBarriers_122 (by decide) ?_
          exact ct123 r37709 (0 : Int32) u _ _ ls g85_l1 g85_l3 g37707 (by decide : Rg 0 1 (0 : Int32)) hP hD hS (lv_sub (l' := [(0, .ref (a 18)), (1, .int y85_l1), (2, .int y85_l2), (3, .int y85_l3), (4, .int y85_l4), (5, .int r37709)]) hl [1, 2, 3, 4, 5, 0] rfl)
        · have g37714 : Rg (-2147483648) 12 r37711 := rg_lel (rg_any r37711) hL.1 (rg_nlt c37712) (by decide)
          refine lv_iconst (v := 1) hx hb dX10_seekBarriers_118 (by decide) ?_
          refine lv_goto (tgt := 123) hx hb dX10_seekBarriers_119 (by decide) ?_
          exact ct123 r37709 (1 : Int32) u _ _ ls g85_l1 g85_l3 g37707 (by decide : Rg 0 1 (1 : Int32)) hP hD hS (lv_sub (l' := [(0, .ref (a 18)), (1, .int y85_l1), (2, .int y85_l2), (3, .int y85_l3), (4, .int y85_l4), (5, .int r37709)]) hl [1, 2, 3, 4, 5, 0] rfl)
  refine lv_aload_n hx hb dX10_seekBarriers_0 rfl (lv_at hl 0 rfl) ?_
  refine va_get (D := D) (ci := 10) (v := .int (u 18 7)) (C := RX10) (T := TX10) (N := 8) hx hb hts hin10 hown hK hP 18 rfl rfl 7 (by decide) (hts (.fieldLink RX10 15 "MissedPoints$Witness" "changesSeen" "I") (by decide +kernel)) (fun _ h9 => h9) rfl dX10_seekBarriers_1 ?_
  refine wk_any (fun r37715 => ?_)
  refine lv_aload_n hx hb dX10_seekBarriers_4 rfl (lv_at hl 0 rfl) ?_
  refine va_get (D := D) (ci := 10) (v := .ref (a 1)) (C := RX10) (T := TX10) (N := 8) hx hb hts hin10 hown hK hP 18 rfl rfl 0 (by decide) (hts (.fieldLink RX10 19 "MissedPoints$Witness" "net" "LMissedPoints$Net;") (by decide +kernel)) (fun _ h9 => h9) rfl dX10_seekBarriers_5 ?_
  refine va_getN (D := D) (ci := 2) (v := .int (u 1 2)) (C := RX2) (T := TX2) (N := 3) hx hb hts hin2 hown hK hP 1 rfl rfl 2 (by decide) (va_Nw.use rfl hKK.2.2.2.2.2.2.2.2.2.2.2.2.2.2.2.2.2.1) (fun _ h9 => h9) rfl dX10_seekBarriers_8 ?_
  refine wk_any (fun r37716 => ?_)
  refine lv_icmp_ne (tgt := 15) hx hb dX10_seekBarriers_11 (by decide) (fun c37717 => ?_) (fun c37717 => ?_)
  · refine lv_aload_n hx hb dX10_seekBarriers_15 rfl (lv_at hl 0 rfl) ?_
    refine lv_aload_n hx hb dX10_seekBarriers_16 rfl (lv_at hl 0 rfl) ?_
    refine va_get (D := D) (ci := 10) (v := .ref (a 1)) (C := RX10) (T := TX10) (N := 8) hx hb hts hin10 hown hK hP 18 rfl rfl 0 (by decide) (hts (.fieldLink RX10 19 "MissedPoints$Witness" "net" "LMissedPoints$Net;") (by decide +kernel)) (fun _ h9 => h9) rfl dX10_seekBarriers_17 ?_
    refine va_getN (D := D) (ci := 2) (v := .int (u 1 2)) (C := RX2) (T := TX2) (N := 3) hx hb hts hin2 hown hK hP 1 rfl rfl 2 (by decide) (va_Nw.use rfl hKK.2.2.2.2.2.2.2.2.2.2.2.2.2.2.2.2.2.1) (fun _ h9 => h9) rfl dX10_seekBarriers_20 ?_
    refine wk_any (fun r37718 => ?_)
    refine va_put (D := D) (ci := 10) (v := .int r37718) (ty := .int) (C := RX10) (T := TX10) (N := 8) hx hb hts hin10 tyX10 tyX10_ok nmX10 hown hK hP hD hS 18 rfl rfl 7 (by decide) (hts (.fieldLink RX10 15 "MissedPoints$Witness" "changesSeen" "I") (by decide +kernel)) (fun _ h9 => h9) rfl (by decide +kernel) rfl rfl (Nat.le_of_ble_eq_true rfl) dX10_seekBarriers_23 (fun H locs hP hD hS => ?_)
    rw [sxf_18_7] at hP hD
    generalize sU u 18 _ = u at hP hD
    refine lv_aload_n hx hb dX10_seekBarriers_26 rfl (lv_at hl 0 rfl) ?_
    refine va_get (D := D) (ci := 10) (v := .ref (a 1)) (C := RX10) (T := TX10) (N := 8) hx hb hts hin10 hown hK hP 18 rfl rfl 0 (by decide) (hts (.fieldLink RX10 19 "MissedPoints$Witness" "net" "LMissedPoints$Net;") (by decide +kernel)) (fun _ h9 => h9) rfl dX10_seekBarriers_27 ?_
    refine wk_sv 1 (As := []) (rest := []) ⟨hx, hb, hml, hown, hts⟩ (k_X2_all l D cI cS a na nc N L u hL hN) hKK hP (ci := 2) rfl rfl (cwV 0 hts gX10_seekBarriers_X2_all rfl rfl rfl (by decide +kernel) ⟨Nat.le_of_ble_eq_true rfl, Nat.le_of_ble_eq_true rfl⟩) rfl hl.1 rfl (Nat.le_of_ble_eq_true rfl) dX10_seekBarriers_30 ⟨Nat.le_of_ble_eq_true rfl, Nat.le_of_ble_eq_true rfl⟩ (fun r37719 hr37719 => ?_)
    refine lv_aload_n hx hb dX10_seekBarriers_33 rfl (lv_at hl 0 rfl) ?_
    refine va_get (D := D) (ci := 10) (v := .ref (a 7)) (C := RX10) (T := TX10) (N := 8) hx hb hts hin10 hown hK hP 18 rfl rfl 1 (by decide) (hts (.fieldLink RX10 23 "MissedPoints$Witness" "pairs" "LMissedPoints$Pairs;") (by decide +kernel)) (fun _ h9 => h9) rfl dX10_seekBarriers_34 ?_
    refine wk_qi (wX cI cS a na nc N L) u (As := []) (rest := [.int r37719]) ⟨hx, hb, hml, hown, hts⟩ (k_X3_loosePoints l D cI cS _ a na nc N L u hL hN) hKK hP hD hS hA 7 (ci := 3) rfl rfl (cwV 0 hts gX10_seekBarriers_X3_loosePoints rfl rfl rfl (by decide +kernel) ⟨Nat.le_of_ble_eq_true rfl, Nat.le_of_ble_eq_true rfl⟩) rfl hl.1 rfl (Nat.le_of_ble_eq_true rfl) dX10_seekBarriers_37 ⟨Nat.le_of_ble_eq_true rfl, Nat.le_of_ble_eq_true rfl⟩ (fun r37720 u H locs hr37720 hP hD hS => ?_)
    refine lv_iconst (v := (-1)) hx hb dX10_seekBarriers_40 (by decide) ?_
    refine lv_ixor hx hb dX10_seekBarriers_41 ?_
    refine wk_topP (P := fun r => r = r37720 ^^^ ((-1) : Int32)) rfl (fun r37721 qr37721 => ?_)
    refine wk_iandl hx hb dX10_seekBarriers_42 hr37719.1 (by decide) (fun r37722 hr37722 qr37722 => ?_)
    refine lv_istore_n (lv' := [(1, .int r37722), (0, .ref (a 18))]) hx hb dX10_seekBarriers_43 rfl hl (by decide) rfl (fun ls hl => ?_)
    refine lv_aload_n hx hb dX10_seekBarriers_44 rfl (lv_at hl 1 rfl) ?_
    refine va_get (D := D) (ci := 10) (v := .ref (a 7)) (C := RX10) (T := TX10) (N := 8) hx hb hts hin10 hown hK hP 18 rfl rfl 1 (by decide) (hts (.fieldLink RX10 23 "MissedPoints$Witness" "pairs" "LMissedPoints$Pairs;") (by decide +kernel)) (fun _ h9 => h9) rfl dX10_seekBarriers_45 ?_
    refine lv_aload_n hx hb dX10_seekBarriers_48 rfl (lv_at hl 1 rfl) ?_
    refine va_get (D := D) (ci := 10) (v := .ref (a 1)) (C := RX10) (T := TX10) (N := 8) hx hb hts hin10 hown hK hP 18 rfl rfl 0 (by decide) (hts (.fieldLink RX10 19 "MissedPoints$Witness" "net" "LMissedPoints$Net;") (by decide +kernel)) (fun _ h9 => h9) rfl dX10_seekBarriers_49 ?_
    refine wk_sv 1 (As := []) (rest := [.ref (a 7)]) ⟨hx, hb, hml, hown, hts⟩ (k_X2_all l D cI cS a na nc N L u hL hN) hKK hP (ci := 2) rfl rfl (cwV 0 hts gX10_seekBarriers_X2_all rfl rfl rfl (by decide +kernel) ⟨Nat.le_of_ble_eq_true rfl, Nat.le_of_ble_eq_true rfl⟩) rfl hl.1 rfl (Nat.le_of_ble_eq_true rfl) dX10_seekBarriers_52 ⟨Nat.le_of_ble_eq_true rfl, Nat.le_of_ble_eq_true rfl⟩ (fun r37723 hr37723 => ?_)
    refine wk_qi (wX cI cS a na nc N L) u (As := [.int r37723]) (rest := []) ⟨hx, hb, hml, hown, hts⟩ (k_X3_lack l D cI cS _ a na nc N L u hL hN r37723) hKK hP hD hS hA 7 (ci := 3) rfl rfl (cwV 1 hts gX10_seekBarriers_X3_lack rfl rfl rfl (by decide +kernel) ⟨Nat.le_of_ble_eq_true rfl, Nat.le_of_ble_eq_true rfl⟩) rfl hl.1 rfl (Nat.le_of_ble_eq_true rfl) dX10_seekBarriers_55 ⟨Nat.le_of_ble_eq_true rfl, Nat.le_of_ble_eq_true rfl⟩ (fun r37724 u H locs hr37724 hP hD hS => ?_)
    refine lv_istore_n (lv' := [(2, .int r37724), (1, .int r37722), (0, .ref (a 18))]) hx hb dX10_seekBarriers_58 rfl hl (by decide) rfl (fun ls hl => ?_)
    refine lv_aload_n hx hb dX10_seekBarriers_59 rfl (lv_at hl 2 rfl) ?_
    refine lv_iconst (v := 0) hx hb dX10_seekBarriers_60 (by decide) ?_
    refine va_put (D := D) (ci := 10) (v := .int 0) (ty := .int) (C := RX10) (T := TX10) (N := 8) hx hb hts hin10 tyX10 tyX10_ok nmX10 hown hK hP hD hS 18 rfl rfl 4 (by decide) (hts (.fieldLink RX10 56 "MissedPoints$Witness" "barrierCount" "I") (by decide +kernel)) (fun _ h9 => h9) rfl (by decide +kernel) rfl rfl (Nat.le_of_ble_eq_true rfl) dX10_seekBarriers_61 (fun H locs hP hD hS => ?_)
    rw [sxf_18_4] at hP hD
    generalize sU u 18 _ = u at hP hD
    refine lv_aload_n hx hb dX10_seekBarriers_64 rfl (lv_at hl 2 rfl) ?_
    refine lv_iconst (v := 0) hx hb dX10_seekBarriers_65 (by decide) ?_
    refine va_put (D := D) (ci := 10) (v := .int 0) (ty := .int) (C := RX10) (T := TX10) (N := 8) hx hb hts hin10 tyX10 tyX10_ok nmX10 hown hK hP hD hS 18 rfl rfl 5 (by decide) (hts (.fieldLink RX10 59 "MissedPoints$Witness" "greatestBarrier" "I") (by decide +kernel)) (fun _ h9 => h9) rfl (by decide +kernel) rfl rfl (Nat.le_of_ble_eq_true rfl) dX10_seekBarriers_66 (fun H locs hP hD hS => ?_)
    rw [sxf_18_5] at hP hD
    generalize sU u 18 _ = u at hP hD
    refine lv_aload_n hx hb dX10_seekBarriers_69 rfl (lv_at hl 2 rfl) ?_
    refine lv_aload_n hx hb dX10_seekBarriers_70 rfl (lv_at hl 2 rfl) ?_
    refine va_get (D := D) (ci := 10) (v := .ref (a 1)) (C := RX10) (T := TX10) (N := 8) hx hb hts hin10 hown hK hP 18 rfl rfl 0 (by decide) (hts (.fieldLink RX10 19 "MissedPoints$Witness" "net" "LMissedPoints$Net;") (by decide +kernel)) (fun _ h9 => h9) rfl dX10_seekBarriers_71 ?_
    refine wk_sv 1 (As := []) (rest := [.ref (a 18)]) ⟨hx, hb, hml, hown, hts⟩ (k_X2_all l D cI cS a na nc N L u hL hN) hKK hP (ci := 2) rfl rfl (cwV 0 hts gX10_seekBarriers_X2_all rfl rfl rfl (by decide +kernel) ⟨Nat.le_of_ble_eq_true rfl, Nat.le_of_ble_eq_true rfl⟩) rfl hl.1 rfl (Nat.le_of_ble_eq_true rfl) dX10_seekBarriers_74 ⟨Nat.le_of_ble_eq_true rfl, Nat.le_of_ble_eq_true rfl⟩ (fun r37725 hr37725 => ?_)
    refine va_put (D := D) (ci := 10) (v := .int r37725) (ty := .int) (C := RX10) (T := TX10) (N := 8) hx hb hts hin10 tyX10 tyX10_ok nmX10 hown hK hP hD hS 18 rfl rfl 6 (by decide) (hts (.fieldLink RX10 62 "MissedPoints$Witness" "inEachBarrier" "I") (by decide +kernel)) (fun _ h9 => h9) rfl (by decide +kernel) rfl rfl (Nat.le_of_ble_eq_true rfl) dX10_seekBarriers_77 (fun H locs hP hD hS => ?_)
    rw [sxf_18_6] at hP hD
    generalize sU u 18 _ = u at hP hD
    refine lv_iconst (v := 0) hx hb dX10_seekBarriers_80 (by decide) ?_
    refine lv_istore_n (lv' := [(3, .int 0), (2, .int r37724), (1, .int r37722), (0, .ref (a 18))]) hx hb dX10_seekBarriers_81 rfl hl (by decide) rfl (fun ls hl => ?_)
    refine lv_iconst (v := 0) hx hb dX10_seekBarriers_82 (by decide) ?_
    refine lv_istore (lv' := [(4, .int 0), (3, .int 0), (2, .int r37724), (1, .int r37722), (0, .ref (a 18))]) hx hb dX10_seekBarriers_83 hl (by decide) rfl (fun ls hl => ?_)
    exact lp85 4097 r37722 r37724 (0 : Int32) (0 : Int32) u _ _ ls hr37722 (by decide : Rg 0 4095 (0 : Int32)) (by decide : Rg 0 4096 (0 : Int32)) hP hD hS (lv_sub (l' := [(0, .ref (a 18)), (1, .int r37722), (2, .int r37724), (3, .int 0), (4, .int 0)]) hl [4, 3, 2, 1, 0] rfl) (me_i (by decide : Rg 0 4096 (0 : Int32)) (by decide))
  · subst hAe
    exact W.vret hx hb hr (fun t ht hW => ⟨⟨u, rfl, trivial, by rw [ht]; exact hP, hD⟩, hS.F ht⟩) hS.2.2 dX10_seekBarriers_14
set_option maxRecDepth 20000 in
theorem ggX10_isCritical_X3_best : GoodIn wsX10_isCritical wsX3_best := goodIn_r _ [14, 15, 16, 17, 13, 18, 19, 20, 21, 22, 23, 24, 25, 26, 27, 28, 29, 30, 31, 32, 33, 34, 35, 5, 36, 37, 38, 39, 40, 41, 42, 43, 4, 6, 7, 8, 9, 44, 45, 46, 47, 59, 60, 61, 62, 56, 57, 58, 63, 64] rfl (by decide +kernel)
set_option maxRecDepth 20000 in
theorem gX10_isCritical_X3_best : GoodIn wsX10_isCritical (wsV RX10 72 RX3 yX3_best wsX3_best) := goodIn_app (goodIn_of _ (by decide +kernel)) ggX10_isCritical_X3_best
theorem dX10_isCritical_13 : decode cX10_isCritical 13 = .ok (.iconst 0, 1) := by decide +kernel
theorem dX10_isCritical_14 : decode cX10_isCritical 14 = .ok (.istore_n 3, 1) := by decide +kernel
theorem dX10_isCritical_15 : decode cX10_isCritical 15 = .ok (.iload_n 3, 1) := by decide +kernel
theorem dX10_isCritical_16 : decode cX10_isCritical 16 = .ok (.aload_n 0, 1) := by decide +kernel
theorem dX10_isCritical_17 : decode cX10_isCritical 17 = .ok (.getfield 19, 3) := by decide +kernel
theorem dX10_isCritical_20 : decode cX10_isCritical 20 = .ok (.getfield 65, 3) := by decide +kernel
theorem dX10_isCritical_23 : decode cX10_isCritical 23 = .ok (.if_icmp .ge 41, 3) := by decide +kernel
theorem dX10_isCritical_26 : decode cX10_isCritical 26 = .ok (.iload_n 1, 1) := by decide +kernel
theorem dX10_isCritical_27 : decode cX10_isCritical 27 = .ok (.iload_n 3, 1) := by decide +kernel
theorem dX10_isCritical_28 : decode cX10_isCritical 28 = .ok (.ishr, 1) := by decide +kernel
theorem dX10_isCritical_29 : decode cX10_isCritical 29 = .ok (.iconst 1, 1) := by decide +kernel
theorem dX10_isCritical_30 : decode cX10_isCritical 30 = .ok (.iand, 1) := by decide +kernel
theorem dX10_isCritical_31 : decode cX10_isCritical 31 = .ok (.ifCond .eq 27, 3) := by decide +kernel
theorem dX10_isCritical_34 : decode cX10_isCritical 34 = .ok (.iconst 2, 1) := by decide +kernel
theorem dX10_isCritical_35 : decode cX10_isCritical 35 = .ok (.aload_n 0, 1) := by decide +kernel
theorem dX10_isCritical_36 : decode cX10_isCritical 36 = .ok (.getfield 23, 3) := by decide +kernel
theorem dX10_isCritical_39 : decode cX10_isCritical 39 = .ok (.iload_n 1, 1) := by decide +kernel
theorem dX10_isCritical_40 : decode cX10_isCritical 40 = .ok (.iconst 1, 1) := by decide +kernel
theorem dX10_isCritical_41 : decode cX10_isCritical 41 = .ok (.iload_n 3, 1) := by decide +kernel
theorem dX10_isCritical_42 : decode cX10_isCritical 42 = .ok (.ishl, 1) := by decide +kernel
theorem dX10_isCritical_43 : decode cX10_isCritical 43 = .ok (.iconst (-1), 1) := by decide +kernel
theorem dX10_isCritical_44 : decode cX10_isCritical 44 = .ok (.ixor, 1) := by decide +kernel
theorem dX10_isCritical_45 : decode cX10_isCritical 45 = .ok (.iand, 1) := by decide +kernel
theorem dX10_isCritical_46 : decode cX10_isCritical 46 = .ok (.invokevirtual 72, 3) := by decide +kernel
theorem dX10_isCritical_49 : decode cX10_isCritical 49 = .ok (.imul, 1) := by decide +kernel
theorem dX10_isCritical_50 : decode cX10_isCritical 50 = .ok (.iload_n 2, 1) := by decide +kernel
theorem dX10_isCritical_51 : decode cX10_isCritical 51 = .ok (.iconst 1, 1) := by decide +kernel
theorem dX10_isCritical_52 : decode cX10_isCritical 52 = .ok (.isub, 1) := by decide +kernel
theorem dX10_isCritical_53 : decode cX10_isCritical 53 = .ok (.if_icmp .eq 5, 3) := by decide +kernel
theorem dX10_isCritical_56 : decode cX10_isCritical 56 = .ok (.iconst 0, 1) := by decide +kernel
theorem dX10_isCritical_57 : decode cX10_isCritical 57 = .ok (.ireturn, 1) := by decide +kernel
theorem dX10_isCritical_58 : decode cX10_isCritical 58 = .ok (.iinc 3 1, 3) := by decide +kernel
theorem dX10_isCritical_61 : decode cX10_isCritical 61 = .ok (.goto (-46), 3) := by decide +kernel
theorem dX10_isCritical_64 : decode cX10_isCritical 64 = .ok (.iconst 1, 1) := by decide +kernel
theorem dX10_isCritical_65 : decode cX10_isCritical 65 = .ok (.ireturn, 1) := by decide +kernel
set_option maxHeartbeats 4000000 in
set_option maxRecDepth 100000 in
theorem k_X10_isCritical (l : Launch) (D : va_G) (cI cS : ClassId) (sz : Nat) (a : Nat → Nat) (na nc N : Nat) (L u0 : SU) (hL : TyX L) (hN : N = 0 ∨ N = 24576) (x0 : Int32) : Met l yX10_isCritical wsX10_isCritical ({ frames := 16, cells := 0, slots := 0, locals := 640 }) (PQ D cI cS (wX cI cS a na nc N L u0) sz [.ref (a 18), .int x0]) (QF (S := SU) D (wX cI cS a na nc N L u0) (wX cI cS a na nc N L) sz (fun r _ => Rg 0 1 r ∧ True)) 0 0 (va_A (wX cI cS a na nc N L u0) sz) := by
  refine Met.ofW (cc := cX10_isCritical) (maxL := 4) (ret := (some .boolean)) (by decide) rfl ?_
  intro p e s m args below meth c s₁ B hml hv
  obtain ⟨rfl, hsz, hP, hKK, hD0⟩ := hv
  have hx := B.exec
  have hb := B.bytes
  have hr := B.returns
  have hts := atoms_spec (ws := wsX10_isCritical) B.pre
  have hown : s.vm.findClass RX10 = some m.cls := findClass_of_methodNamed B.named
  have hlocks := B.notSynchronized
  have hK := hKK.1
  have hin2 : ∀ w ∈ wsX20, w ∈ wsX10_isCritical := by decide +kernel
  have hin10 : ∀ w ∈ wsX100, w ∈ wsX10_isCritical := by decide +kernel
  subst hsz
  have hD := hD0.self (sz := s.heap.size)
  obtain ⟨A, hAe⟩ : ∃ A, A = va_A (wX cI cS a na nc N L u0) s.heap.size := ⟨_, rfl⟩
  rw [← hAe] at hD
  have hA : ∀ q : Nat, s.heap.size ≤ q → A q := fun q h => by rw [hAe]; exact Or.inr h
  have hS : va_S A s.heap s.heap [] := va_S.rf
  have hl := lv_entry ([.ref (a 18), .int x0]) (n := 4) (Nat.le_of_ble_eq_true rfl)
  rw [lg_entry_eq]
  generalize (lg_sl ([.ref (a 18), .int x0]) ++ List.replicate (4 - (lg_sl ([.ref (a 18), .int x0])).length) Slot.unset).toArray = ls at hl ⊢
  have hl : lv_has ls 4 [(0, .ref (a 18)), (1, .int x0)] := hl
  obtain ⟨u, hu9⟩ : ∃ u : SU, u = u0 := ⟨_, rfl⟩
  rw [← hu9] at hP hD
  have lp15 : ∀ (n15 : Nat) (y15_l2 : Int32) (y15_l3 : Int32) (u : SU) (H : Heap) (locs : List Loc) (ls : Array Slot), Rg 0 12 y15_l3 → va_P D cls (wX cI cS a na nc N L u) H → va_D A (wX cI cS a na nc N L u) → va_S A s.heap H locs → lv_has ls 4 [(0, .ref (a 18)), (1, .int x0), (2, .int y15_l2), (3, .int y15_l3)] → 12 - y15_l3.toInt < (n15 : Int) → W p l e (headSpec wsX10_isCritical ({ frames := 16, cells := 0, slots := 0, locals := 640 })).room s m ([.ref (a 18), .int x0]).toArray below meth c H locs 0 0 (MQ below (QF (S := SU) D (wX cI cS a na nc N L u0) (wX cI cS a na nc N L) s.heap.size (fun r _ => Rg 0 1 r ∧ True)) ([.ref (a 18), .int x0]).toArray s 0 0 (va_A (wX cI cS a na nc N L u0) s.heap.size)) (F0 m 15 ls []) := by
    intro n15
    induction n15 with
    | zero =>
      intro y15_l2 y15_l3 u H locs ls g15_l3 hP hD hS hl hm15
      exact absurd rfl (me_z g15_l3 hm15)
    | succ n15 ih15 =>
      intro y15_l2 y15_l3 u H locs ls g15_l3 hP hD hS hl hm15
      refine lv_iload_n hx hb dX10_isCritical_15 rfl (lv_at hl 3 rfl) ?_
      refine lv_aload_n hx hb dX10_isCritical_16 rfl (lv_at hl 0 rfl) ?_
      refine va_get (D := D) (ci := 10) (v := .ref (a 1)) (C := RX10) (T := TX10) (N := 8) hx hb hts hin10 hown hK hP 18 rfl rfl 0 (by decide) (hts (.fieldLink RX10 19 "MissedPoints$Witness" "net" "LMissedPoints$Net;") (by decide +kernel)) (fun _ h9 => h9) rfl dX10_isCritical_17 ?_
      refine va_getN (D := D) (ci := 2) (v := .int (L 1 1)) (C := RX2) (T := TX2) (N := 3) hx hb hts hin2 hown hK hP 1 rfl rfl 1 (by decide) (va_Nw.use rfl hKK.2.2.2.2.2.2.2.2.2.2.2.2.2.2.2.2.2.2.1) (fun _ h9 => h9) rfl dX10_isCritical_20 ?_
      refine lv_icmp_ge (tgt := 64) hx hb dX10_isCritical_23 (by decide) (fun c37923 => ?_) (fun c37923 => ?_)
      · refine lv_iconst (v := 1) hx hb dX10_isCritical_64 (by decide) ?_
        subst hAe
        exact W.zret (v := 1) hx hb hr (by decide) (fun t ht hW => ⟨⟨_, u, rfl, ⟨(by decide : Rg 0 1 (1 : Int32)), trivial⟩, by rw [ht]; exact hP, hD⟩, hS.F ht⟩) hS.2.2 dX10_isCritical_65
      · have g37924 : Rg 1 12 (L 1 1) := rg_ltr g15_l3 hL.1 (rg_nle c37923) (by decide)
        have g37925 : Rg 0 11 y15_l3 := rg_ltl g15_l3 hL.1 (rg_nle c37923) (by decide)
        refine lv_iload_n hx hb dX10_isCritical_26 rfl (lv_at hl 1 rfl) ?_
        refine lv_iload_n hx hb dX10_isCritical_27 rfl (lv_at hl 3 rfl) ?_
        refine lv_ishr hx hb dX10_isCritical_28 ?_
        refine wk_topP (P := fun r => r = x0 >>> (y15_l3 &&& 31)) rfl (fun r37926 qr37926 => ?_)
        refine lv_iconst (v := 1) hx hb dX10_isCritical_29 (by decide) ?_
        refine wk_iandr hx hb dX10_isCritical_30 (by decide : Rg 1 1 (1 : Int32)) (by decide) (fun r37927 hr37927 qr37927 => ?_)
        refine lv_if_eq (tgt := 58) hx hb dX10_isCritical_31 (by decide) (fun c37928 => ?_) (fun c37928 => ?_)
        · have g37929 : Rg 0 0 r37927 := wk_eql hr37927 (by decide : Rg 0 0 (0 : Int32)) c37928 (by decide)
          refine wk_iinc (lv' := fun r => [(3, .int r), (0, .ref (a 18)), (1, .int x0), (2, .int y15_l2)]) (e1 := 1) (f := 12) hx hb dX10_isCritical_58 hl (k := 3) rfl (by decide) g37925 (by decide) (fun _ => rfl) (fun r37930 ls hr37930 er37930 hl => ?_)
          refine lv_goto (tgt := 15) hx hb dX10_isCritical_61 (by decide) ?_
          exact ih15 y15_l2 r37930 u _ _ ls (show Rg 0 12 r37930 from rg_w hr37930 (by decide) (by decide)) hP hD hS (lv_sub (l' := [(0, .ref (a 18)), (1, .int x0), (2, .int y15_l2), (3, .int r37930)]) hl [1, 2, 3, 0] rfl) (me_up hm15 er37930 (by decide))
        · have g37931 : Rg 1 1 r37927 := rg_ne_lo (k := 0) hr37927 (by decide) c37928 (by decide)
          refine lv_iconst (v := 2) hx hb dX10_isCritical_34 (by decide) ?_
          refine lv_aload_n hx hb dX10_isCritical_35 rfl (lv_at hl 0 rfl) ?_
          refine va_get (D := D) (ci := 10) (v := .ref (a 7)) (C := RX10) (T := TX10) (N := 8) hx hb hts hin10 hown hK hP 18 rfl rfl 1 (by decide) (hts (.fieldLink RX10 23 "MissedPoints$Witness" "pairs" "LMissedPoints$Pairs;") (by decide +kernel)) (fun _ h9 => h9) rfl dX10_isCritical_36 ?_
          refine lv_iload_n hx hb dX10_isCritical_39 rfl (lv_at hl 1 rfl) ?_
          refine lv_iconst (v := 1) hx hb dX10_isCritical_40 (by decide) ?_
          refine lv_iload_n hx hb dX10_isCritical_41 rfl (lv_at hl 3 rfl) ?_
          refine wk_ishl1 (f := 2048) hx hb dX10_isCritical_42 g37925 (by decide) (fun r37932 hr37932 qr37932 => ?_)
          refine lv_iconst (v := (-1)) hx hb dX10_isCritical_43 (by decide) ?_
          refine lv_ixor hx hb dX10_isCritical_44 ?_
          refine wk_topP (P := fun r => r = r37932 ^^^ ((-1) : Int32)) rfl (fun r37933 qr37933 => ?_)
          refine lv_iand hx hb dX10_isCritical_45 ?_
          refine wk_topP (P := fun r => r = x0 &&& r37933) rfl (fun r37934 qr37934 => ?_)
          refine wk_qi (wX cI cS a na nc N L) u (As := [.int r37934]) (rest := [.int 2]) ⟨hx, hb, hml, hown, hts⟩ (k_X3_best l D cI cS _ a na nc N L u hL hN r37934) hKK hP hD hS hA 7 (ci := 3) rfl rfl (cwV 1 hts gX10_isCritical_X3_best rfl rfl rfl (by decide +kernel) ⟨Nat.le_of_ble_eq_true rfl, Nat.le_of_ble_eq_true rfl⟩) rfl hl.1 rfl (Nat.le_of_ble_eq_true rfl) dX10_isCritical_46 ⟨Nat.le_of_ble_eq_true rfl, Nat.le_of_ble_eq_true rfl⟩ (fun r37935 u H locs hr37935 hP hD hS => ?_)
          refine wk_imul (f := 131098) hx hb dX10_isCritical_49 (by decide : Rg 0 2 (2 : Int32)) hr37935.1 (by decide) (fun r37936 hr37936 er37936 qr37936 => ?_)
          refine lv_iload_n hx hb dX10_isCritical_50 rfl (lv_at hl 2 rfl) ?_
          refine lv_iconst (v := 1) hx hb dX10_isCritical_51 (by decide) ?_
          refine lv_isub hx hb dX10_isCritical_52 ?_
          refine wk_topP (P := fun r => r = y15_l2 - (1 : Int32)) rfl (fun r37937 qr37937 => ?_)
          refine lv_icmp_eq (tgt := 58) hx hb dX10_isCritical_53 (by decide) (fun c37938 => ?_) (fun c37938 => ?_)
          · have g37939 : Rg 0 131098 r37937 := wk_eqr hr37936 (rg_any r37937) c37938 (by decide)
            refine wk_iinc (lv' := fun r => [(3, .int r), (0, .ref (a 18)), (1, .int x0), (2, .int y15_l2)]) (e1 := 1) (f := 12) hx hb dX10_isCritical_58 hl (k := 3) rfl (by decide) g37925 (by decide) (fun _ => rfl) (fun r37940 ls hr37940 er37940 hl => ?_)
            refine lv_goto (tgt := 15) hx hb dX10_isCritical_61 (by decide) ?_
            exact ih15 y15_l2 r37940 u _ _ ls (show Rg 0 12 r37940 from rg_w hr37940 (by decide) (by decide)) hP hD hS (lv_sub (l' := [(0, .ref (a 18)), (1, .int x0), (2, .int y15_l2), (3, .int r37940)]) hl [1, 2, 3, 0] rfl) (me_up hm15 er37940 (by decide))
          · refine lv_iconst (v := 0) hx hb dX10_isCritical_56 (by decide) ?_
            subst hAe
            exact W.zret (v := 0) hx hb hr (by decide) (fun t ht hW => ⟨⟨_, u, rfl, ⟨(by decide : Rg 0 1 (0 : Int32)), trivial⟩, by rw [ht]; exact hP, hD⟩, hS.F ht⟩) hS.2.2 dX10_isCritical_57
  refine lv_iload_n hx hb dX10_isCritical_0 rfl (lv_at hl 1 rfl) ?_
  refine lz_ss (As := [.int x0]) (rest := []) ⟨hx, hb, hml, hown, hts⟩ (k_J6_bitCount_0f7a4 l D cI cS x0) hKK (hP.sub (ws' := []) [] rfl) (va_cwS 1 hts gX10_isCritical_J6_bitCount_0f7a4 rfl rfl rfl (by decide +kernel) ⟨Nat.le_of_ble_eq_true rfl, Nat.le_of_ble_eq_true rfl⟩) rfl hl.1 rfl (Nat.le_of_ble_eq_true rfl) dX10_isCritical_1 ⟨Nat.le_of_ble_eq_true rfl, Nat.le_of_ble_eq_true rfl⟩ (fun r37941 hr37941 => ?_)
  refine lv_istore_n (lv' := [(2, .int r37941), (0, .ref (a 18)), (1, .int x0)]) hx hb dX10_isCritical_4 rfl hl (by decide) rfl (fun ls hl => ?_)
  refine lv_iload_n hx hb dX10_isCritical_5 rfl (lv_at hl 0 rfl) ?_
  refine lv_iconst (v := 1) hx hb dX10_isCritical_6 (by decide) ?_
  refine wk_iandr hx hb dX10_isCritical_7 (by decide : Rg 1 1 (1 : Int32)) (by decide) (fun r37942 hr37942 qr37942 => ?_)
  refine lv_if_ne (tgt := 13) hx hb dX10_isCritical_8 (by decide) (fun c37943 => ?_) (fun c37943 => ?_)
  · have g37944 : Rg 1 1 r37942 := rg_ne_lo (k := 0) hr37942 (by decide) c37943 (by decide)
    refine lv_iconst (v := 0) hx hb dX10_isCritical_13 (by decide) ?_
    refine lv_istore_n (lv' := [(3, .int 0), (2, .int r37941), (0, .ref (a 18)), (1, .int x0)]) hx hb dX10_isCritical_14 rfl hl (by decide) rfl (fun ls hl => ?_)
    exact lp15 13 r37941 (0 : Int32) u _ _ ls (by decide : Rg 0 12 (0 : Int32)) hP hD hS (lv_sub (l' := [(0, .ref (a 18)), (1, .int x0), (2, .int r37941), (3, .int 0)]) hl [2, 3, 1, 0] rfl) (me_i (by decide : Rg 0 12 (0 : Int32)) (by decide))
  · have g37945 : Rg 0 0 r37942 := wk_eql hr37942 (by decide : Rg 0 0 (0 : Int32)) c37943 (by decide)
    refine lv_iconst (v := 0) hx hb dX10_isCritical_11 (by decide) ?_
    subst hAe
    exact W.zret (v := 0) hx hb hr (by decide) (fun t ht hW => ⟨⟨_, u, rfl, ⟨(by decide : Rg 0 1 (0 : Int32)), trivial⟩, by rw [ht]; exact hP, hD⟩, hS.F ht⟩) hS.2.2 dX10_isCritical_12
set_option maxRecDepth 20000 in
theorem ggX10_nextEar_J6_bitCount_0f7a4 : GoodIn wsX10_nextEar wsJ6_bitCount_0f7a4 := goodIn_r _ [5, 6, 7, 8] rfl (by decide +kernel)
set_option maxRecDepth 20000 in
theorem gX10_nextEar_J6_bitCount_0f7a4 : GoodIn wsX10_nextEar (va_wsS RX10 40 yJ6_bitCount_0f7a4 wsJ6_bitCount_0f7a4) := goodIn_app (goodIn_of _ (by decide +kernel)) ggX10_nextEar_J6_bitCount_0f7a4
set_option maxRecDepth 20000 in
theorem ggX10_nextEar_X10_isCritical : GoodIn wsX10_nextEar wsX10_isCritical := goodIn_r _ [55, 56, 1, 2, 3, 4, 5, 6, 7, 8, 57, 15, 16, 12, 17, 18, 19, 20, 21, 22, 23, 24, 25, 26, 27, 28, 29, 30, 31, 32, 33, 34, 35, 36, 37, 38, 39, 40, 41, 42, 43, 44, 45, 46, 47, 48, 49, 50, 58, 59, 60, 61, 62, 63, 64, 65, 70, 71, 72, 66, 67, 68, 69, 73, 74] rfl (by decide +kernel)
set_option maxRecDepth 20000 in
theorem gX10_nextEar_X10_isCritical : GoodIn wsX10_nextEar (wsV RX10 89 RX10 yX10_isCritical wsX10_isCritical) := goodIn_app (goodIn_of _ (by decide +kernel)) ggX10_nextEar_X10_isCritical
set_option maxRecDepth 20000 in
theorem ggX10_nextEar_X3_isWhole : GoodIn wsX10_nextEar wsX3_isWhole := goodIn_r _ [13, 14, 15, 16, 12, 17, 18, 19, 20, 21, 22, 23, 24, 25, 26, 27, 28, 29, 30, 31, 32, 33, 34, 35, 36, 37, 38, 4, 39, 40, 41, 42, 43, 44, 45, 46, 3, 5, 6, 7, 8, 47, 48, 49, 50, 66, 67, 68, 69, 70, 71, 72, 73, 74] rfl (by decide +kernel)
set_option maxRecDepth 20000 in
theorem gX10_nextEar_X3_isWhole : GoodIn wsX10_nextEar (wsV RX10 85 RX3 yX3_isWhole wsX3_isWhole) := goodIn_app (goodIn_of _ (by decide +kernel)) ggX10_nextEar_X3_isWhole
theorem dX10_nextEar_0 : decode cX10_nextEar 0 = .ok (.iconst 0, 1) := by decide +kernel
theorem dX10_nextEar_1 : decode cX10_nextEar 1 = .ok (.istore_n 3, 1) := by decide +kernel
theorem dX10_nextEar_10 : decode cX10_nextEar 10 = .ok (.istore 6, 2) := by decide +kernel
theorem dX10_nextEar_12 : decode cX10_nextEar 12 = .ok (.iload 6, 2) := by decide +kernel
theorem dX10_nextEar_14 : decode cX10_nextEar 14 = .ok (.sipush 4096, 3) := by decide +kernel
theorem dX10_nextEar_17 : decode cX10_nextEar 17 = .ok (.if_icmp .ge 77, 3) := by decide +kernel
theorem dX10_nextEar_2 : decode cX10_nextEar 2 = .ok (.bipush 13, 2) := by decide +kernel
theorem dX10_nextEar_20 : decode cX10_nextEar 20 = .ok (.iload 5, 2) := by decide +kernel
theorem dX10_nextEar_22 : decode cX10_nextEar 22 = .ok (.iload_n 2, 1) := by decide +kernel
theorem dX10_nextEar_23 : decode cX10_nextEar 23 = .ok (.if_icmp .eq 71, 3) := by decide +kernel
theorem dX10_nextEar_26 : decode cX10_nextEar 26 = .ok (.iload 5, 2) := by decide +kernel
theorem dX10_nextEar_28 : decode cX10_nextEar 28 = .ok (.iload_n 2, 1) := by decide +kernel
theorem dX10_nextEar_29 : decode cX10_nextEar 29 = .ok (.isub, 1) := by decide +kernel
theorem dX10_nextEar_30 : decode cX10_nextEar 30 = .ok (.iload_n 2, 1) := by decide +kernel
theorem dX10_nextEar_31 : decode cX10_nextEar 31 = .ok (.iand, 1) := by decide +kernel
theorem dX10_nextEar_32 : decode cX10_nextEar 32 = .ok (.istore 5, 2) := by decide +kernel
theorem dX10_nextEar_34 : decode cX10_nextEar 34 = .ok (.iload 5, 2) := by decide +kernel
theorem dX10_nextEar_36 : decode cX10_nextEar 36 = .ok (.invokestatic 40, 3) := by decide +kernel
theorem dX10_nextEar_39 : decode cX10_nextEar 39 = .ok (.istore 7, 2) := by decide +kernel
theorem dX10_nextEar_4 : decode cX10_nextEar 4 = .ok (.istore 4, 2) := by decide +kernel
theorem dX10_nextEar_41 : decode cX10_nextEar 41 = .ok (.iload 7, 2) := by decide +kernel
theorem dX10_nextEar_43 : decode cX10_nextEar 43 = .ok (.iconst 2, 1) := by decide +kernel
theorem dX10_nextEar_44 : decode cX10_nextEar 44 = .ok (.if_icmp .lt 44, 3) := by decide +kernel
theorem dX10_nextEar_47 : decode cX10_nextEar 47 = .ok (.iload 7, 2) := by decide +kernel
theorem dX10_nextEar_49 : decode cX10_nextEar 49 = .ok (.iload 4, 2) := by decide +kernel
theorem dX10_nextEar_51 : decode cX10_nextEar 51 = .ok (.if_icmp .ge 37, 3) := by decide +kernel
theorem dX10_nextEar_54 : decode cX10_nextEar 54 = .ok (.aload_n 0, 1) := by decide +kernel
theorem dX10_nextEar_55 : decode cX10_nextEar 55 = .ok (.getfield 23, 3) := by decide +kernel
theorem dX10_nextEar_58 : decode cX10_nextEar 58 = .ok (.iload_n 2, 1) := by decide +kernel
theorem dX10_nextEar_59 : decode cX10_nextEar 59 = .ok (.iload 5, 2) := by decide +kernel
theorem dX10_nextEar_6 : decode cX10_nextEar 6 = .ok (.iconst 0, 1) := by decide +kernel
theorem dX10_nextEar_61 : decode cX10_nextEar 61 = .ok (.iconst (-1), 1) := by decide +kernel
theorem dX10_nextEar_62 : decode cX10_nextEar 62 = .ok (.ixor, 1) := by decide +kernel
theorem dX10_nextEar_63 : decode cX10_nextEar 63 = .ok (.iand, 1) := by decide +kernel
theorem dX10_nextEar_64 : decode cX10_nextEar 64 = .ok (.invokevirtual 85, 3) := by decide +kernel
theorem dX10_nextEar_67 : decode cX10_nextEar 67 = .ok (.ifCond .eq 21, 3) := by decide +kernel
theorem dX10_nextEar_7 : decode cX10_nextEar 7 = .ok (.istore 5, 2) := by decide +kernel
theorem dX10_nextEar_70 : decode cX10_nextEar 70 = .ok (.aload_n 0, 1) := by decide +kernel
theorem dX10_nextEar_71 : decode cX10_nextEar 71 = .ok (.iload_n 1, 1) := by decide +kernel
theorem dX10_nextEar_72 : decode cX10_nextEar 72 = .ok (.iload 5, 2) := by decide +kernel
theorem dX10_nextEar_74 : decode cX10_nextEar 74 = .ok (.ior, 1) := by decide +kernel
theorem dX10_nextEar_75 : decode cX10_nextEar 75 = .ok (.invokevirtual 89, 3) := by decide +kernel
theorem dX10_nextEar_78 : decode cX10_nextEar 78 = .ok (.ifCond .eq 10, 3) := by decide +kernel
theorem dX10_nextEar_81 : decode cX10_nextEar 81 = .ok (.iload 5, 2) := by decide +kernel
theorem dX10_nextEar_83 : decode cX10_nextEar 83 = .ok (.istore_n 3, 1) := by decide +kernel
theorem dX10_nextEar_84 : decode cX10_nextEar 84 = .ok (.iload 7, 2) := by decide +kernel
theorem dX10_nextEar_86 : decode cX10_nextEar 86 = .ok (.istore 4, 2) := by decide +kernel
theorem dX10_nextEar_88 : decode cX10_nextEar 88 = .ok (.iinc 6 1, 3) := by decide +kernel
theorem dX10_nextEar_9 : decode cX10_nextEar 9 = .ok (.iconst 0, 1) := by decide +kernel
theorem dX10_nextEar_91 : decode cX10_nextEar 91 = .ok (.goto (-79), 3) := by decide +kernel
theorem dX10_nextEar_94 : decode cX10_nextEar 94 = .ok (.iload_n 3, 1) := by decide +kernel
theorem dX10_nextEar_95 : decode cX10_nextEar 95 = .ok (.ireturn, 1) := by decide +kernel
set_option maxHeartbeats 4000000 in
set_option maxRecDepth 100000 in
theorem k_X10_nextEar (l : Launch) (D : va_G) (cI cS : ClassId) (sz : Nat) (a : Nat → Nat) (na nc N : Nat) (L u0 : SU) (hL : TyX L) (hN : N = 0 ∨ N = 24576) (x0 x1 : Int32) : Met l yX10_nextEar wsX10_nextEar ({ frames := 17, cells := 0, slots := 0, locals := 680 }) (PQ D cI cS (wX cI cS a na nc N L u0) sz [.ref (a 18), .int x0, .int x1]) (QF (S := SU) D (wX cI cS a na nc N L u0) (wX cI cS a na nc N L) sz (fun r _ => Rg (-2147483648) 2147483647 r ∧ True)) 0 0 (va_A (wX cI cS a na nc N L u0) sz) := by
  refine Met.ofW (cc := cX10_nextEar) (maxL := 8) (ret := (some .int)) (by decide) rfl ?_
  intro p e s m args below meth c s₁ B hml hv
  obtain ⟨rfl, hsz, hP, hKK, hD0⟩ := hv
  have hx := B.exec
  have hb := B.bytes
  have hr := B.returns
  have hts := atoms_spec (ws := wsX10_nextEar) B.pre
  have hown : s.vm.findClass RX10 = some m.cls := findClass_of_methodNamed B.named
  have hlocks := B.notSynchronized
  have hK := hKK.1
  have hin10 : ∀ w ∈ wsX100, w ∈ wsX10_nextEar := by decide +kernel
  subst hsz
  have hD := hD0.self (sz := s.heap.size)
  obtain ⟨A, hAe⟩ : ∃ A, A = va_A (wX cI cS a na nc N L u0) s.heap.size := ⟨_, rfl⟩
  rw [← hAe] at hD
  have hA : ∀ q : Nat, s.heap.size ≤ q → A q := fun q h => by rw [hAe]; exact Or.inr h
  have hS : va_S A s.heap s.heap [] := va_S.rf
  have hl := lv_entry ([.ref (a 18), .int x0, .int x1]) (n := 8) (Nat.le_of_ble_eq_true rfl)
  rw [lg_entry_eq]
  generalize (lg_sl ([.ref (a 18), .int x0, .int x1]) ++ List.replicate (8 - (lg_sl ([.ref (a 18), .int x0, .int x1])).length) Slot.unset).toArray = ls at hl ⊢
  have hl : lv_has ls 8 [(0, .ref (a 18)), (1, .int x0), (2, .int x1)] := hl
  obtain ⟨u, hu9⟩ : ∃ u : SU, u = u0 := ⟨_, rfl⟩
  rw [← hu9] at hP hD
  have lp12 : ∀ (n12 : Nat) (y12_l3 : Int32) (y12_l4 : Int32) (y12_l5 : Int32) (y12_l6 : Int32) (u : SU) (H : Heap) (locs : List Loc) (ls : Array Slot), Rg 2 13 y12_l4 → Rg 0 4096 y12_l6 → va_P D cls (wX cI cS a na nc N L u) H → va_D A (wX cI cS a na nc N L u) → va_S A s.heap H locs → lv_has ls 8 [(0, .ref (a 18)), (1, .int x0), (2, .int x1), (3, .int y12_l3), (4, .int y12_l4), (5, .int y12_l5), (6, .int y12_l6)] → 4096 - y12_l6.toInt < (n12 : Int) → W p l e (headSpec wsX10_nextEar ({ frames := 17, cells := 0, slots := 0, locals := 680 })).room s m ([.ref (a 18), .int x0, .int x1]).toArray below meth c H locs 0 0 (MQ below (QF (S := SU) D (wX cI cS a na nc N L u0) (wX cI cS a na nc N L) s.heap.size (fun r _ => Rg (-2147483648) 2147483647 r ∧ True)) ([.ref (a 18), .int x0, .int x1]).toArray s 0 0 (va_A (wX cI cS a na nc N L u0) s.heap.size)) (F0 m 12 ls []) := by
    intro n12
    induction n12 with
    | zero =>
      intro y12_l3 y12_l4 y12_l5 y12_l6 u H locs ls g12_l4 g12_l6 hP hD hS hl hm12
      exact absurd rfl (me_z g12_l6 hm12)
    | succ n12 ih12 =>
      intro y12_l3 y12_l4 y12_l5 y12_l6 u H locs ls g12_l4 g12_l6 hP hD hS hl hm12
      refine lv_iload hx hb dX10_nextEar_12 (lv_at hl 6 rfl) ?_
      refine lv_sipush (v := 4096) hx hb dX10_nextEar_14 (by decide) ?_
      refine lv_icmp_ge (tgt := 94) hx hb dX10_nextEar_17 (by decide) (fun c38532 => ?_) (fun c38532 => ?_)
      · have g38533 : Rg 4096 4096 y12_l6 := rg_ler (by decide : Rg 4096 4096 (4096 : Int32)) g12_l6 c38532 (by decide)
        refine lv_iload_n hx hb dX10_nextEar_94 rfl (lv_at hl 3 rfl) ?_
        subst hAe
        exact W.iret (v := y12_l3) hx hb hr (fun t ht hW => ⟨⟨_, u, rfl, ⟨(rg_any y12_l3), trivial⟩, by rw [ht]; exact hP, hD⟩, hS.F ht⟩) hS.2.2 dX10_nextEar_95
      · have g38534 : Rg 0 4095 y12_l6 := rg_ltl g12_l6 (by decide : Rg 4096 4096 (4096 : Int32)) (rg_nle c38532) (by decide)
        refine lv_iload hx hb dX10_nextEar_20 (lv_at hl 5 rfl) ?_
        refine lv_iload_n hx hb dX10_nextEar_22 rfl (lv_at hl 2 rfl) ?_
        refine lv_icmp_eq (tgt := 94) hx hb dX10_nextEar_23 (by decide) (fun c38535 => ?_) (fun c38535 => ?_)
        · refine lv_iload_n hx hb dX10_nextEar_94 rfl (lv_at hl 3 rfl) ?_
          subst hAe
          exact W.iret (v := y12_l3) hx hb hr (fun t ht hW => ⟨⟨_, u, rfl, ⟨(rg_any y12_l3), trivial⟩, by rw [ht]; exact hP, hD⟩, hS.F ht⟩) hS.2.2 dX10_nextEar_95
        · refine lv_iload hx hb dX10_nextEar_26 (lv_at hl 5 rfl) ?_
          refine lv_iload_n hx hb dX10_nextEar_28 rfl (lv_at hl 2 rfl) ?_
          refine lv_isub hx hb dX10_nextEar_29 ?_
          refine wk_topP (P := fun r => r = y12_l5 - x1) rfl (fun r38536 qr38536 => ?_)
          refine lv_iload_n hx hb dX10_nextEar_30 rfl (lv_at hl 2 rfl) ?_
          refine lv_iand hx hb dX10_nextEar_31 ?_
          refine wk_topP (P := fun r => r = r38536 &&& x1) rfl (fun r38537 qr38537 => ?_)
          refine lv_istore (lv' := [(5, .int r38537), (0, .ref (a 18)), (1, .int x0), (2, .int x1), (3, .int y12_l3), (4, .int y12_l4), (6, .int y12_l6)]) hx hb dX10_nextEar_32 hl (by decide) rfl (fun ls hl => ?_)
          refine lv_iload hx hb dX10_nextEar_34 (lv_at hl 0 rfl) ?_
          refine lz_ss (As := [.int r38537]) (rest := []) ⟨hx, hb, hml, hown, hts⟩ (k_J6_bitCount_0f7a4 l D cI cS r38537) hKK (hP.sub (ws' := []) [] rfl) (va_cwS 1 hts gX10_nextEar_J6_bitCount_0f7a4 rfl rfl rfl (by decide +kernel) ⟨Nat.le_of_ble_eq_true rfl, Nat.le_of_ble_eq_true rfl⟩) rfl hl.1 rfl (Nat.le_of_ble_eq_true rfl) dX10_nextEar_36 ⟨Nat.le_of_ble_eq_true rfl, Nat.le_of_ble_eq_true rfl⟩ (fun r38538 hr38538 => ?_)
          refine lv_istore (lv' := [(7, .int r38538), (5, .int r38537), (0, .ref (a 18)), (1, .int x0), (2, .int x1), (3, .int y12_l3), (4, .int y12_l4), (6, .int y12_l6)]) hx hb dX10_nextEar_39 hl (by decide) rfl (fun ls hl => ?_)
          refine lv_iload hx hb dX10_nextEar_41 (lv_at hl 0 rfl) ?_
          refine lv_iconst (v := 2) hx hb dX10_nextEar_43 (by decide) ?_
          refine lv_icmp_lt (tgt := 88) hx hb dX10_nextEar_44 (by decide) (fun c38539 => ?_) (fun c38539 => ?_)
          · have g38540 : Rg (-2147483648) 1 r38538 := rg_ltl hr38538.1 (by decide : Rg 2 2 (2 : Int32)) c38539 (by decide)
            refine wk_iinc (lv' := fun r => [(6, .int r), (7, .int r38538), (5, .int r38537), (0, .ref (a 18)), (1, .int x0), (2, .int x1), (3, .int y12_l3), (4, .int y12_l4)]) (e1 := 1) (f := 4096) hx hb dX10_nextEar_88 hl (k := 7) rfl (by decide) g38534 (by decide) (fun _ => rfl) (fun r38541 ls hr38541 er38541 hl => ?_)
            refine lv_goto (tgt := 12) hx hb dX10_nextEar_91 (by decide) ?_
            exact ih12 y12_l3 y12_l4 r38537 r38541 u _ _ ls g12_l4 (show Rg 0 4096 r38541 from rg_w hr38541 (by decide) (by decide)) hP hD hS (lv_sub (l' := [(0, .ref (a 18)), (1, .int x0), (2, .int x1), (3, .int y12_l3), (4, .int y12_l4), (5, .int r38537), (6, .int r38541)]) hl [3, 4, 5, 6, 7, 2, 0] rfl) (me_up hm12 er38541 (by decide))
          · have g38542 : Rg 2 2147483647 r38538 := rg_ler (by decide : Rg 2 2 (2 : Int32)) hr38538.1 (rg_nlt c38539) (by decide)
            refine lv_iload hx hb dX10_nextEar_47 (lv_at hl 0 rfl) ?_
            refine lv_iload hx hb dX10_nextEar_49 (lv_at hl 6 rfl) ?_
            refine lv_icmp_ge (tgt := 88) hx hb dX10_nextEar_51 (by decide) (fun c38543 => ?_) (fun c38543 => ?_)
            · refine wk_iinc (lv' := fun r => [(6, .int r), (7, .int r38538), (5, .int r38537), (0, .ref (a 18)), (1, .int x0), (2, .int x1), (3, .int y12_l3), (4, .int y12_l4)]) (e1 := 1) (f := 4096) hx hb dX10_nextEar_88 hl (k := 7) rfl (by decide) g38534 (by decide) (fun _ => rfl) (fun r38544 ls hr38544 er38544 hl => ?_)
              refine lv_goto (tgt := 12) hx hb dX10_nextEar_91 (by decide) ?_
              exact ih12 y12_l3 y12_l4 r38537 r38544 u _ _ ls g12_l4 (show Rg 0 4096 r38544 from rg_w hr38544 (by decide) (by decide)) hP hD hS (lv_sub (l' := [(0, .ref (a 18)), (1, .int x0), (2, .int x1), (3, .int y12_l3), (4, .int y12_l4), (5, .int r38537), (6, .int r38544)]) hl [3, 4, 5, 6, 7, 2, 0] rfl) (me_up hm12 er38544 (by decide))
            · have g38545 : Rg 3 13 y12_l4 := rg_ltr g38542 g12_l4 (rg_nle c38543) (by decide)
              have g38546 : Rg 2 12 r38538 := rg_ltl g38542 g12_l4 (rg_nle c38543) (by decide)
              refine lv_aload_n hx hb dX10_nextEar_54 rfl (lv_at hl 2 rfl) ?_
              refine va_get (D := D) (ci := 10) (v := .ref (a 7)) (C := RX10) (T := TX10) (N := 8) hx hb hts hin10 hown hK hP 18 rfl rfl 1 (by decide) (hts (.fieldLink RX10 23 "MissedPoints$Witness" "pairs" "LMissedPoints$Pairs;") (by decide +kernel)) (fun _ h9 => h9) rfl dX10_nextEar_55 ?_
              refine lv_iload_n hx hb dX10_nextEar_58 rfl (lv_at hl 4 rfl) ?_
              refine lv_iload hx hb dX10_nextEar_59 (lv_at hl 1 rfl) ?_
              refine lv_iconst (v := (-1)) hx hb dX10_nextEar_61 (by decide) ?_
              refine lv_ixor hx hb dX10_nextEar_62 ?_
              refine wk_topP (P := fun r => r = r38537 ^^^ ((-1) : Int32)) rfl (fun r38547 qr38547 => ?_)
              refine lv_iand hx hb dX10_nextEar_63 ?_
              refine wk_topP (P := fun r => r = x1 &&& r38547) rfl (fun r38548 qr38548 => ?_)
              refine wk_qi (wX cI cS a na nc N L) u (As := [.int r38548]) (rest := []) ⟨hx, hb, hml, hown, hts⟩ (k_X3_isWhole l D cI cS _ a na nc N L u hL hN r38548) hKK hP hD hS hA 7 (ci := 3) rfl rfl (cwV 1 hts gX10_nextEar_X3_isWhole rfl rfl rfl (by decide +kernel) ⟨Nat.le_of_ble_eq_true rfl, Nat.le_of_ble_eq_true rfl⟩) rfl hl.1 rfl (Nat.le_of_ble_eq_true rfl) dX10_nextEar_64 ⟨Nat.le_of_ble_eq_true rfl, Nat.le_of_ble_eq_true rfl⟩ (fun r38549 u H locs hr38549 hP hD hS => ?_)
              refine lv_if_eq (tgt := 88) hx hb dX10_nextEar_67 (by decide) (fun c38550 => ?_) (fun c38550 => ?_)
              · have g38551 : Rg 0 0 r38549 := wk_eql hr38549.1 (by decide : Rg 0 0 (0 : Int32)) c38550 (by decide)
                refine wk_iinc (lv' := fun r => [(6, .int r), (7, .int r38538), (5, .int r38537), (0, .ref (a 18)), (1, .int x0), (2, .int x1), (3, .int y12_l3), (4, .int y12_l4)]) (e1 := 1) (f := 4096) hx hb dX10_nextEar_88 hl (k := 7) rfl (by decide) g38534 (by decide) (fun _ => rfl) (fun r38552 ls hr38552 er38552 hl => ?_)
                refine lv_goto (tgt := 12) hx hb dX10_nextEar_91 (by decide) ?_
                exact ih12 y12_l3 y12_l4 r38537 r38552 u _ _ ls (show Rg 2 13 y12_l4 from rg_w g38545 (by decide) (by decide)) (show Rg 0 4096 r38552 from rg_w hr38552 (by decide) (by decide)) hP hD hS (lv_sub (l' := [(0, .ref (a 18)), (1, .int x0), (2, .int x1), (3, .int y12_l3), (4, .int y12_l4), (5, .int r38537), (6, .int r38552)]) hl [3, 4, 5, 6, 7, 2, 0] rfl) (me_up hm12 er38552 (by decide))
              · have g38553 : Rg 1 1 r38549 := rg_ne_lo (k := 0) hr38549.1 (by decide) c38550 (by decide)
                refine lv_aload_n hx hb dX10_nextEar_70 rfl (lv_at hl 2 rfl) ?_
                refine lv_iload_n hx hb dX10_nextEar_71 rfl (lv_at hl 3 rfl) ?_
                refine lv_iload hx hb dX10_nextEar_72 (lv_at hl 1 rfl) ?_
                refine lv_ior hx hb dX10_nextEar_74 ?_
                refine wk_topP (P := fun r => r = x0 ||| r38537) rfl (fun r38554 qr38554 => ?_)
                refine wk_qi (wX cI cS a na nc N L) u (As := [.int r38554]) (rest := []) ⟨hx, hb, hml, hown, hts⟩ (k_X10_isCritical l D cI cS _ a na nc N L u hL hN r38554) hKK hP hD hS hA 18 (ci := 10) rfl rfl (cwV 1 hts gX10_nextEar_X10_isCritical rfl rfl rfl (by decide +kernel) ⟨Nat.le_of_ble_eq_true rfl, Nat.le_of_ble_eq_true rfl⟩) rfl hl.1 rfl (Nat.le_of_ble_eq_true rfl) dX10_nextEar_75 ⟨Nat.le_of_ble_eq_true rfl, Nat.le_of_ble_eq_true rfl⟩ (fun r38555 u H locs hr38555 hP hD hS => ?_)
                refine lv_if_eq (tgt := 88) hx hb dX10_nextEar_78 (by decide) (fun c38556 => ?_) (fun c38556 => ?_)
                · have g38557 : Rg 0 0 r38555 := wk_eql hr38555.1 (by decide : Rg 0 0 (0 : Int32)) c38556 (by decide)
                  refine wk_iinc (lv' := fun r => [(6, .int r), (7, .int r38538), (5, .int r38537), (0, .ref (a 18)), (1, .int x0), (2, .int x1), (3, .int y12_l3), (4, .int y12_l4)]) (e1 := 1) (f := 4096) hx hb dX10_nextEar_88 hl (k := 7) rfl (by decide) g38534 (by decide) (fun _ => rfl) (fun r38558 ls hr38558 er38558 hl => ?_)
                  refine lv_goto (tgt := 12) hx hb dX10_nextEar_91 (by decide) ?_
                  exact ih12 y12_l3 y12_l4 r38537 r38558 u _ _ ls (show Rg 2 13 y12_l4 from rg_w g38545 (by decide) (by decide)) (show Rg 0 4096 r38558 from rg_w hr38558 (by decide) (by decide)) hP hD hS (lv_sub (l' := [(0, .ref (a 18)), (1, .int x0), (2, .int x1), (3, .int y12_l3), (4, .int y12_l4), (5, .int r38537), (6, .int r38558)]) hl [3, 4, 5, 6, 7, 2, 0] rfl) (me_up hm12 er38558 (by decide))
                · have g38559 : Rg 1 1 r38555 := rg_ne_lo (k := 0) hr38555.1 (by decide) c38556 (by decide)
                  refine lv_iload hx hb dX10_nextEar_81 (lv_at hl 1 rfl) ?_
                  refine lv_istore_n (lv' := [(3, .int r38537), (7, .int r38538), (5, .int r38537), (0, .ref (a 18)), (1, .int x0), (2, .int x1), (4, .int y12_l4), (6, .int y12_l6)]) hx hb dX10_nextEar_83 rfl hl (by decide) rfl (fun ls hl => ?_)
                  refine lv_iload hx hb dX10_nextEar_84 (lv_at hl 1 rfl) ?_
                  refine lv_istore (lv' := [(4, .int r38538), (3, .int r38537), (7, .int r38538), (5, .int r38537), (0, .ref (a 18)), (1, .int x0), (2, .int x1), (6, .int y12_l6)]) hx hb dX10_nextEar_86 hl (by decide) rfl (fun ls hl => ?_)
                  refine wk_iinc (lv' := fun r => [(6, .int r), (4, .int r38538), (3, .int r38537), (7, .int r38538), (5, .int r38537), (0, .ref (a 18)), (1, .int x0), (2, .int x1)]) (e1 := 1) (f := 4096) hx hb dX10_nextEar_88 hl (k := 7) rfl (by decide) g38534 (by decide) (fun _ => rfl) (fun r38560 ls hr38560 er38560 hl => ?_)
                  refine lv_goto (tgt := 12) hx hb dX10_nextEar_91 (by decide) ?_
                  exact ih12 r38537 r38538 r38537 r38560 u _ _ ls (show Rg 2 13 r38538 from rg_w g38546 (by decide) (by decide)) (show Rg 0 4096 r38560 from rg_w hr38560 (by decide) (by decide)) hP hD hS (lv_sub (l' := [(0, .ref (a 18)), (1, .int x0), (2, .int x1), (3, .int r38537), (4, .int r38538), (5, .int r38537), (6, .int r38560)]) hl [5, 6, 7, 2, 1, 4, 0] rfl) (me_up hm12 er38560 (by decide))
  refine lv_iconst (v := 0) hx hb dX10_nextEar_0 (by decide) ?_
  refine lv_istore_n (lv' := [(3, .int 0), (0, .ref (a 18)), (1, .int x0), (2, .int x1)]) hx hb dX10_nextEar_1 rfl hl (by decide) rfl (fun ls hl => ?_)
  refine lv_bipush (v := 13) hx hb dX10_nextEar_2 (by decide) ?_
  refine lv_istore (lv' := [(4, .int 13), (3, .int 0), (0, .ref (a 18)), (1, .int x0), (2, .int x1)]) hx hb dX10_nextEar_4 hl (by decide) rfl (fun ls hl => ?_)
  refine lv_iconst (v := 0) hx hb dX10_nextEar_6 (by decide) ?_
  refine lv_istore (lv' := [(5, .int 0), (4, .int 13), (3, .int 0), (0, .ref (a 18)), (1, .int x0), (2, .int x1)]) hx hb dX10_nextEar_7 hl (by decide) rfl (fun ls hl => ?_)
  refine lv_iconst (v := 0) hx hb dX10_nextEar_9 (by decide) ?_
  refine lv_istore (lv' := [(6, .int 0), (5, .int 0), (4, .int 13), (3, .int 0), (0, .ref (a 18)), (1, .int x0), (2, .int x1)]) hx hb dX10_nextEar_10 hl (by decide) rfl (fun ls hl => ?_)
  exact lp12 4097 (0 : Int32) (13 : Int32) (0 : Int32) (0 : Int32) u _ _ ls (by decide : Rg 2 13 (13 : Int32)) (by decide : Rg 0 4096 (0 : Int32)) hP hD hS (lv_sub (l' := [(0, .ref (a 18)), (1, .int x0), (2, .int x1), (3, .int 0), (4, .int 13), (5, .int 0), (6, .int 0)]) hl [4, 5, 6, 3, 2, 1, 0] rfl) (me_i (by decide : Rg 0 4096 (0 : Int32)) (by decide))
set_option maxRecDepth 20000 in
theorem ggX10_seekEars_J6_lowestOneBit_0f7a4 : GoodIn wsX10_seekEars wsJ6_lowestOneBit_0f7a4 := goodIn_r _ [6] rfl (by decide +kernel)
set_option maxRecDepth 20000 in
theorem gX10_seekEars_J6_lowestOneBit_0f7a4 : GoodIn wsX10_seekEars (va_wsS RX10 75 yJ6_lowestOneBit_0f7a4 wsJ6_lowestOneBit_0f7a4) := goodIn_app (goodIn_of _ (by decide +kernel)) ggX10_seekEars_J6_lowestOneBit_0f7a4
set_option maxRecDepth 20000 in
theorem ggX10_seekEars_X10_nextEar : GoodIn wsX10_seekEars wsX10_nextEar := goodIn_r _ [11, 12, 13, 14, 5, 15, 16, 17, 18, 19, 20, 21, 22, 23, 24, 25, 26, 27, 28, 29, 30, 31, 32, 33, 34, 35, 36, 37, 38, 39, 40, 41, 42, 43, 44, 45, 46, 47, 48, 49, 50, 51, 52, 53, 54, 55, 56, 57, 58, 59, 60, 61, 62, 63, 10, 64, 65, 66, 67, 68, 69, 70, 71, 72, 73, 74, 75, 76, 77, 78, 79, 80, 81, 82, 83] rfl (by decide +kernel)
set_option maxRecDepth 20000 in
theorem gX10_seekEars_X10_nextEar : GoodIn wsX10_seekEars (wsV RX10 81 RX10 yX10_nextEar wsX10_nextEar) := goodIn_app (goodIn_of _ (by decide +kernel)) ggX10_seekEars_X10_nextEar
theorem dX10_seekEars_0 : decode cX10_seekEars 0 = .ok (.iload_n 1, 1) := by decide +kernel
theorem dX10_seekEars_1 : decode cX10_seekEars 1 = .ok (.invokestatic 75, 3) := by decide +kernel
theorem dX10_seekEars_10 : decode cX10_seekEars 10 = .ok (.iconst 0, 1) := by decide +kernel
theorem dX10_seekEars_11 : decode cX10_seekEars 11 = .ok (.istore_n 3, 1) := by decide +kernel
theorem dX10_seekEars_12 : decode cX10_seekEars 12 = .ok (.iload_n 3, 1) := by decide +kernel
theorem dX10_seekEars_13 : decode cX10_seekEars 13 = .ok (.iconst 5, 1) := by decide +kernel
theorem dX10_seekEars_14 : decode cX10_seekEars 14 = .ok (.if_icmp .ge 55, 3) := by decide +kernel
theorem dX10_seekEars_17 : decode cX10_seekEars 17 = .ok (.iload_n 2, 1) := by decide +kernel
theorem dX10_seekEars_18 : decode cX10_seekEars 18 = .ok (.iload_n 1, 1) := by decide +kernel
theorem dX10_seekEars_19 : decode cX10_seekEars 19 = .ok (.if_icmp .eq 50, 3) := by decide +kernel
theorem dX10_seekEars_22 : decode cX10_seekEars 22 = .ok (.aload_n 0, 1) := by decide +kernel
theorem dX10_seekEars_23 : decode cX10_seekEars 23 = .ok (.iload_n 2, 1) := by decide +kernel
theorem dX10_seekEars_24 : decode cX10_seekEars 24 = .ok (.iload_n 1, 1) := by decide +kernel
theorem dX10_seekEars_25 : decode cX10_seekEars 25 = .ok (.iload_n 2, 1) := by decide +kernel
theorem dX10_seekEars_26 : decode cX10_seekEars 26 = .ok (.iconst (-1), 1) := by decide +kernel
theorem dX10_seekEars_27 : decode cX10_seekEars 27 = .ok (.ixor, 1) := by decide +kernel
theorem dX10_seekEars_28 : decode cX10_seekEars 28 = .ok (.iand, 1) := by decide +kernel
theorem dX10_seekEars_29 : decode cX10_seekEars 29 = .ok (.invokevirtual 81, 3) := by decide +kernel
theorem dX10_seekEars_32 : decode cX10_seekEars 32 = .ok (.istore 4, 2) := by decide +kernel
theorem dX10_seekEars_34 : decode cX10_seekEars 34 = .ok (.iload 4, 2) := by decide +kernel
theorem dX10_seekEars_36 : decode cX10_seekEars 36 = .ok (.ifCond .ne 4, 3) := by decide +kernel
theorem dX10_seekEars_39 : decode cX10_seekEars 39 = .ok (.return_, 1) := by decide +kernel
theorem dX10_seekEars_4 : decode cX10_seekEars 4 = .ok (.istore_n 2, 1) := by decide +kernel
theorem dX10_seekEars_40 : decode cX10_seekEars 40 = .ok (.aload_n 0, 1) := by decide +kernel
theorem dX10_seekEars_41 : decode cX10_seekEars 41 = .ok (.getfield 11, 3) := by decide +kernel
theorem dX10_seekEars_44 : decode cX10_seekEars 44 = .ok (.iload_n 3, 1) := by decide +kernel
theorem dX10_seekEars_45 : decode cX10_seekEars 45 = .ok (.iload 4, 2) := by decide +kernel
theorem dX10_seekEars_47 : decode cX10_seekEars 47 = .ok (.iastore, 1) := by decide +kernel
theorem dX10_seekEars_48 : decode cX10_seekEars 48 = .ok (.aload_n 0, 1) := by decide +kernel
theorem dX10_seekEars_49 : decode cX10_seekEars 49 = .ok (.dup, 1) := by decide +kernel
theorem dX10_seekEars_5 : decode cX10_seekEars 5 = .ok (.aload_n 0, 1) := by decide +kernel
theorem dX10_seekEars_50 : decode cX10_seekEars 50 = .ok (.getfield 78, 3) := by decide +kernel
theorem dX10_seekEars_53 : decode cX10_seekEars 53 = .ok (.iconst 1, 1) := by decide +kernel
theorem dX10_seekEars_54 : decode cX10_seekEars 54 = .ok (.iadd, 1) := by decide +kernel
theorem dX10_seekEars_55 : decode cX10_seekEars 55 = .ok (.putfield 78, 3) := by decide +kernel
theorem dX10_seekEars_58 : decode cX10_seekEars 58 = .ok (.iload_n 2, 1) := by decide +kernel
theorem dX10_seekEars_59 : decode cX10_seekEars 59 = .ok (.iload 4, 2) := by decide +kernel
theorem dX10_seekEars_6 : decode cX10_seekEars 6 = .ok (.iconst 0, 1) := by decide +kernel
theorem dX10_seekEars_61 : decode cX10_seekEars 61 = .ok (.ior, 1) := by decide +kernel
theorem dX10_seekEars_62 : decode cX10_seekEars 62 = .ok (.istore_n 2, 1) := by decide +kernel
theorem dX10_seekEars_63 : decode cX10_seekEars 63 = .ok (.iinc 3 1, 3) := by decide +kernel
theorem dX10_seekEars_66 : decode cX10_seekEars 66 = .ok (.goto (-54), 3) := by decide +kernel
theorem dX10_seekEars_69 : decode cX10_seekEars 69 = .ok (.return_, 1) := by decide +kernel
theorem dX10_seekEars_7 : decode cX10_seekEars 7 = .ok (.putfield 78, 3) := by decide +kernel
set_option maxHeartbeats 4000000 in
set_option maxRecDepth 100000 in
theorem k_X10_seekEars (l : Launch) (D : va_G) (cI cS : ClassId) (sz : Nat) (a : Nat → Nat) (na nc N : Nat) (L u0 : SU) (hL : TyX L) (hN : N = 0 ∨ N = 24576) (x0 : Int32) : Met l yX10_seekEars wsX10_seekEars ({ frames := 18, cells := 0, slots := 0, locals := 720 }) (PQ D cI cS (wX cI cS a na nc N L u0) sz [.ref (a 18), .int x0]) (QE (S := SU) D (wX cI cS a na nc N L u0) (wX cI cS a na nc N L) sz (fun _ => True)) 0 0 (va_A (wX cI cS a na nc N L u0) sz) := by
  refine Met.ofW (cc := cX10_seekEars) (maxL := 5) (ret := none) (by decide) rfl ?_
  intro p e s m args below meth c s₁ B hml hv
  obtain ⟨rfl, hsz, hP, hKK, hD0⟩ := hv
  have hx := B.exec
  have hb := B.bytes
  have hr := B.returns
  have hts := atoms_spec (ws := wsX10_seekEars) B.pre
  have hown : s.vm.findClass RX10 = some m.cls := findClass_of_methodNamed B.named
  have hlocks := B.notSynchronized
  have hK := hKK.1
  have hin10 : ∀ w ∈ wsX100, w ∈ wsX10_seekEars := by decide +kernel
  subst hsz
  have hD := hD0.self (sz := s.heap.size)
  obtain ⟨A, hAe⟩ : ∃ A, A = va_A (wX cI cS a na nc N L u0) s.heap.size := ⟨_, rfl⟩
  rw [← hAe] at hD
  have hA : ∀ q : Nat, s.heap.size ≤ q → A q := fun q h => by rw [hAe]; exact Or.inr h
  have hS : va_S A s.heap s.heap [] := va_S.rf
  have hl := lv_entry ([.ref (a 18), .int x0]) (n := 5) (Nat.le_of_ble_eq_true rfl)
  rw [lg_entry_eq]
  generalize (lg_sl ([.ref (a 18), .int x0]) ++ List.replicate (5 - (lg_sl ([.ref (a 18), .int x0])).length) Slot.unset).toArray = ls at hl ⊢
  have hl : lv_has ls 5 [(0, .ref (a 18)), (1, .int x0)] := hl
  obtain ⟨u, hu9⟩ : ∃ u : SU, u = u0 := ⟨_, rfl⟩
  rw [← hu9] at hP hD
  have lp12 : ∀ (n12 : Nat) (y12_l2 : Int32) (y12_l3 : Int32) (u : SU) (H : Heap) (locs : List Loc) (ls : Array Slot), Rg 0 5 y12_l3 → va_P D cls (wX cI cS a na nc N L u) H → va_D A (wX cI cS a na nc N L u) → va_S A s.heap H locs → lv_has ls 5 [(0, .ref (a 18)), (1, .int x0), (2, .int y12_l2), (3, .int y12_l3)] → 5 - y12_l3.toInt < (n12 : Int) → W p l e (headSpec wsX10_seekEars ({ frames := 18, cells := 0, slots := 0, locals := 720 })).room s m ([.ref (a 18), .int x0]).toArray below meth c H locs 0 0 (MQ below (QE (S := SU) D (wX cI cS a na nc N L u0) (wX cI cS a na nc N L) s.heap.size (fun _ => True)) ([.ref (a 18), .int x0]).toArray s 0 0 (va_A (wX cI cS a na nc N L u0) s.heap.size)) (F0 m 12 ls []) := by
    intro n12
    induction n12 with
    | zero =>
      intro y12_l2 y12_l3 u H locs ls g12_l3 hP hD hS hl hm12
      exact absurd rfl (me_z g12_l3 hm12)
    | succ n12 ih12 =>
      intro y12_l2 y12_l3 u H locs ls g12_l3 hP hD hS hl hm12
      refine lv_iload_n hx hb dX10_seekEars_12 rfl (lv_at hl 3 rfl) ?_
      refine lv_iconst (v := 5) hx hb dX10_seekEars_13 (by decide) ?_
      refine lv_icmp_ge (tgt := 69) hx hb dX10_seekEars_14 (by decide) (fun c38634 => ?_) (fun c38634 => ?_)
      · have g38635 : Rg 5 5 y12_l3 := rg_ler (by decide : Rg 5 5 (5 : Int32)) g12_l3 c38634 (by decide)
        subst hAe
        exact W.vret hx hb hr (fun t ht hW => ⟨⟨u, rfl, trivial, by rw [ht]; exact hP, hD⟩, hS.F ht⟩) hS.2.2 dX10_seekEars_69
      · have g38636 : Rg 0 4 y12_l3 := rg_ltl g12_l3 (by decide : Rg 5 5 (5 : Int32)) (rg_nle c38634) (by decide)
        refine lv_iload_n hx hb dX10_seekEars_17 rfl (lv_at hl 2 rfl) ?_
        refine lv_iload_n hx hb dX10_seekEars_18 rfl (lv_at hl 1 rfl) ?_
        refine lv_icmp_eq (tgt := 69) hx hb dX10_seekEars_19 (by decide) (fun c38637 => ?_) (fun c38637 => ?_)
        · subst hAe
          exact W.vret hx hb hr (fun t ht hW => ⟨⟨u, rfl, trivial, by rw [ht]; exact hP, hD⟩, hS.F ht⟩) hS.2.2 dX10_seekEars_69
        · refine lv_aload_n hx hb dX10_seekEars_22 rfl (lv_at hl 0 rfl) ?_
          refine lv_iload_n hx hb dX10_seekEars_23 rfl (lv_at hl 2 rfl) ?_
          refine lv_iload_n hx hb dX10_seekEars_24 rfl (lv_at hl 1 rfl) ?_
          refine lv_iload_n hx hb dX10_seekEars_25 rfl (lv_at hl 2 rfl) ?_
          refine lv_iconst (v := (-1)) hx hb dX10_seekEars_26 (by decide) ?_
          refine lv_ixor hx hb dX10_seekEars_27 ?_
          refine wk_topP (P := fun r => r = y12_l2 ^^^ ((-1) : Int32)) rfl (fun r38638 qr38638 => ?_)
          refine lv_iand hx hb dX10_seekEars_28 ?_
          refine wk_topP (P := fun r => r = x0 &&& r38638) rfl (fun r38639 qr38639 => ?_)
          refine wk_qi (wX cI cS a na nc N L) u (As := [.int y12_l2, .int r38639]) (rest := []) ⟨hx, hb, hml, hown, hts⟩ (k_X10_nextEar l D cI cS _ a na nc N L u hL hN y12_l2 r38639) hKK hP hD hS hA 18 (ci := 10) rfl rfl (cwV 2 hts gX10_seekEars_X10_nextEar rfl rfl rfl (by decide +kernel) ⟨Nat.le_of_ble_eq_true rfl, Nat.le_of_ble_eq_true rfl⟩) rfl hl.1 rfl (Nat.le_of_ble_eq_true rfl) dX10_seekEars_29 ⟨Nat.le_of_ble_eq_true rfl, Nat.le_of_ble_eq_true rfl⟩ (fun r38640 u H locs hr38640 hP hD hS => ?_)
          refine lv_istore (lv' := [(4, .int r38640), (0, .ref (a 18)), (1, .int x0), (2, .int y12_l2), (3, .int y12_l3)]) hx hb dX10_seekEars_32 hl (by decide) rfl (fun ls hl => ?_)
          refine lv_iload hx hb dX10_seekEars_34 (lv_at hl 0 rfl) ?_
          refine lv_if_ne (tgt := 40) hx hb dX10_seekEars_36 (by decide) (fun c38641 => ?_) (fun c38641 => ?_)
          · refine lv_aload_n hx hb dX10_seekEars_40 rfl (lv_at hl 1 rfl) ?_
            refine va_get (D := D) (ci := 10) (v := .ref (a 19)) (C := RX10) (T := TX10) (N := 8) hx hb hts hin10 hown hK hP 18 rfl rfl 2 (by decide) (hts (.fieldLink RX10 11 "MissedPoints$Witness" "ears" "[I") (by decide +kernel)) (fun _ h9 => h9) rfl dX10_seekEars_41 ?_
            refine lv_iload_n hx hb dX10_seekEars_44 rfl (lv_at hl 4 rfl) ?_
            refine lv_iload hx hb dX10_seekEars_45 (lv_at hl 0 rfl) ?_
            refine ks_ast hx hb hK hP hD hS rfl (k := 19) rfl sx_19 (rg_in g38636 (by decide) (by decide)) dX10_seekEars_47 (fun u H locs hP hD hS => ?_)
            refine lv_aload_n hx hb dX10_seekEars_48 rfl (lv_at hl 1 rfl) ?_
            refine lv_dup hx hb dX10_seekEars_49 rfl ?_
            refine va_get (D := D) (ci := 10) (v := .int (u 18 3)) (C := RX10) (T := TX10) (N := 8) hx hb hts hin10 hown hK hP 18 rfl rfl 3 (by decide) (hts (.fieldLink RX10 78 "MissedPoints$Witness" "earCount" "I") (by decide +kernel)) (fun _ h9 => h9) rfl dX10_seekEars_50 ?_
            refine wk_any (fun r38642 => ?_)
            refine lv_iconst (v := 1) hx hb dX10_seekEars_53 (by decide) ?_
            refine lv_iadd hx hb dX10_seekEars_54 ?_
            refine wk_topP (P := fun r => r = r38642 + (1 : Int32)) rfl (fun r38643 qr38643 => ?_)
            refine va_put (D := D) (ci := 10) (v := .int r38643) (ty := .int) (C := RX10) (T := TX10) (N := 8) hx hb hts hin10 tyX10 tyX10_ok nmX10 hown hK hP hD hS 18 rfl rfl 3 (by decide) (hts (.fieldLink RX10 78 "MissedPoints$Witness" "earCount" "I") (by decide +kernel)) (fun _ h9 => h9) rfl (by decide +kernel) rfl rfl (Nat.le_of_ble_eq_true rfl) dX10_seekEars_55 (fun H locs hP hD hS => ?_)
            rw [sxf_18_3] at hP hD
            generalize sU u 18 _ = u at hP hD
            refine lv_iload_n hx hb dX10_seekEars_58 rfl (lv_at hl 3 rfl) ?_
            refine lv_iload hx hb dX10_seekEars_59 (lv_at hl 0 rfl) ?_
            refine lv_ior hx hb dX10_seekEars_61 ?_
            refine wk_topP (P := fun r => r = y12_l2 ||| r38640) rfl (fun r38644 qr38644 => ?_)
            refine lv_istore_n (lv' := [(2, .int r38644), (4, .int r38640), (0, .ref (a 18)), (1, .int x0), (3, .int y12_l3)]) hx hb dX10_seekEars_62 rfl hl (by decide) rfl (fun ls hl => ?_)
            refine wk_iinc (lv' := fun r => [(3, .int r), (2, .int r38644), (4, .int r38640), (0, .ref (a 18)), (1, .int x0)]) (e1 := 1) (f := 5) hx hb dX10_seekEars_63 hl (k := 4) rfl (by decide) g38636 (by decide) (fun _ => rfl) (fun r38645 ls hr38645 er38645 hl => ?_)
            refine lv_goto (tgt := 12) hx hb dX10_seekEars_66 (by decide) ?_
            exact ih12 r38644 r38645 u _ _ ls (show Rg 0 5 r38645 from rg_w hr38645 (by decide) (by decide)) hP hD hS (lv_sub (l' := [(0, .ref (a 18)), (1, .int x0), (2, .int r38644), (3, .int r38645)]) hl [3, 4, 1, 0] rfl) (me_up hm12 er38645 (by decide))
          · have g38646 : Rg 0 0 r38640 := wk_eql hr38640.1 (by decide : Rg 0 0 (0 : Int32)) c38641 (by decide)
            subst hAe
            exact W.vret hx hb hr (fun t ht hW => ⟨⟨u, rfl, trivial, by rw [ht]; exact hP, hD⟩, hS.F ht⟩) hS.2.2 dX10_seekEars_39
  refine lv_iload_n hx hb dX10_seekEars_0 rfl (lv_at hl 1 rfl) ?_
  refine lz_ss (As := [.int x0]) (rest := []) ⟨hx, hb, hml, hown, hts⟩ (k_J6_lowestOneBit_0f7a4 l D cI cS x0) hKK (hP.sub (ws' := []) [] rfl) (va_cwS 1 hts gX10_seekEars_J6_lowestOneBit_0f7a4 rfl rfl rfl (by decide +kernel) ⟨Nat.le_of_ble_eq_true rfl, Nat.le_of_ble_eq_true rfl⟩) rfl hl.1 rfl (Nat.le_of_ble_eq_true rfl) dX10_seekEars_1 ⟨Nat.le_of_ble_eq_true rfl, Nat.le_of_ble_eq_true rfl⟩ (fun r38647 hr38647 => ?_)
  refine lv_istore_n (lv' := [(2, .int r38647), (0, .ref (a 18)), (1, .int x0)]) hx hb dX10_seekEars_4 rfl hl (by decide) rfl (fun ls hl => ?_)
  refine lv_aload_n hx hb dX10_seekEars_5 rfl (lv_at hl 1 rfl) ?_
  refine lv_iconst (v := 0) hx hb dX10_seekEars_6 (by decide) ?_
  refine va_put (D := D) (ci := 10) (v := .int 0) (ty := .int) (C := RX10) (T := TX10) (N := 8) hx hb hts hin10 tyX10 tyX10_ok nmX10 hown hK hP hD hS 18 rfl rfl 3 (by decide) (hts (.fieldLink RX10 78 "MissedPoints$Witness" "earCount" "I") (by decide +kernel)) (fun _ h9 => h9) rfl (by decide +kernel) rfl rfl (Nat.le_of_ble_eq_true rfl) dX10_seekEars_7 (fun H locs hP hD hS => ?_)
  rw [sxf_18_3] at hP hD
  generalize sU u 18 _ = u at hP hD
  refine lv_iconst (v := 0) hx hb dX10_seekEars_10 (by decide) ?_
  refine lv_istore_n (lv' := [(3, .int 0), (2, .int r38647), (0, .ref (a 18)), (1, .int x0)]) hx hb dX10_seekEars_11 rfl hl (by decide) rfl (fun ls hl => ?_)
  exact lp12 6 r38647 (0 : Int32) u _ _ ls (by decide : Rg 0 5 (0 : Int32)) hP hD hS (lv_sub (l' := [(0, .ref (a 18)), (1, .int x0), (2, .int r38647), (3, .int 0)]) hl [2, 3, 1, 0] rfl) (me_i (by decide : Rg 0 5 (0 : Int32)) (by decide))
theorem dX10_earAt_0 : decode cX10_earAt 0 = .ok (.iload_n 1, 1) := by decide +kernel
theorem dX10_earAt_1 : decode cX10_earAt 1 = .ok (.ifCond .lt 25, 3) := by decide +kernel
theorem dX10_earAt_12 : decode cX10_earAt 12 = .ok (.iload_n 1, 1) := by decide +kernel
theorem dX10_earAt_13 : decode cX10_earAt 13 = .ok (.iconst 5, 1) := by decide +kernel
theorem dX10_earAt_14 : decode cX10_earAt 14 = .ok (.if_icmp .ge 12, 3) := by decide +kernel
theorem dX10_earAt_17 : decode cX10_earAt 17 = .ok (.aload_n 0, 1) := by decide +kernel
theorem dX10_earAt_18 : decode cX10_earAt 18 = .ok (.getfield 11, 3) := by decide +kernel
theorem dX10_earAt_21 : decode cX10_earAt 21 = .ok (.iload_n 1, 1) := by decide +kernel
theorem dX10_earAt_22 : decode cX10_earAt 22 = .ok (.iaload, 1) := by decide +kernel
theorem dX10_earAt_23 : decode cX10_earAt 23 = .ok (.goto 4, 3) := by decide +kernel
theorem dX10_earAt_26 : decode cX10_earAt 26 = .ok (.iconst (-1), 1) := by decide +kernel
theorem dX10_earAt_27 : decode cX10_earAt 27 = .ok (.ireturn, 1) := by decide +kernel
theorem dX10_earAt_4 : decode cX10_earAt 4 = .ok (.iload_n 1, 1) := by decide +kernel
theorem dX10_earAt_5 : decode cX10_earAt 5 = .ok (.aload_n 0, 1) := by decide +kernel
theorem dX10_earAt_6 : decode cX10_earAt 6 = .ok (.getfield 78, 3) := by decide +kernel
theorem dX10_earAt_9 : decode cX10_earAt 9 = .ok (.if_icmp .ge 17, 3) := by decide +kernel
set_option maxHeartbeats 4000000 in
set_option maxRecDepth 100000 in
theorem k_X10_earAt (l : Launch) (D : va_G) (cI cS : ClassId) (a : Nat → Nat) (na nc N : Nat) (L u : SU) (hL : TyX L) (hN : N = 0 ∨ N = 24576) (x0 : Int32) : Met l yX10_earAt wsX10_earAt ({ frames := 0, cells := 0, slots := 0, locals := 0 }) (PS D cI cS (wX cI cS a na nc N L u) [.ref (a 18), .int x0]) (vp_Si (fun r => Rg (-2147483648) 2147483647 r ∧ True)) 0 0 (fun _ => False) := by
  refine Met.ofW (cc := cX10_earAt) (maxL := 2) (ret := (some .int)) (by decide) rfl ?_
  intro p e s m args below meth c s₁ B hml hv
  obtain ⟨rfl, hP, hKK⟩ := hv
  have hx := B.exec
  have hb := B.bytes
  have hr := B.returns
  have hts := atoms_spec (ws := wsX10_earAt) B.pre
  have hown : s.vm.findClass RX10 = some m.cls := findClass_of_methodNamed B.named
  have hlocks := B.notSynchronized
  have hK := hKK.1
  have hin10 : ∀ w ∈ wsX100, w ∈ wsX10_earAt := by decide +kernel
  have hl := lv_entry ([.ref (a 18), .int x0]) (n := 2) (Nat.le_of_ble_eq_true rfl)
  rw [lg_entry_eq]
  generalize (lg_sl ([.ref (a 18), .int x0]) ++ List.replicate (2 - (lg_sl ([.ref (a 18), .int x0])).length) Slot.unset).toArray = ls at hl ⊢
  have hl : lv_has ls 2 [(0, .ref (a 18)), (1, .int x0)] := hl
  refine lv_iload_n hx hb dX10_earAt_0 rfl (lv_at hl 1 rfl) ?_
  refine lv_if_lt (tgt := 26) hx hb dX10_earAt_1 (by decide) (fun c38659 => ?_) (fun c38659 => ?_)
  · have g38660 : Rg (-2147483648) (-1) x0 := rg_ltl (rg_any x0) (by decide : Rg 0 0 (0 : Int32)) c38659 (by decide)
    refine lv_iconst (v := (-1)) hx hb dX10_earAt_26 (by decide) ?_
    exact W.iret (v := (-1)) hx hb hr (fun t ht hW => ⟨_, rfl, ⟨(by decide : Rg (-2147483648) 2147483647 ((-1) : Int32)), trivial⟩, ht⟩) (fun q hq => absurd hq List.not_mem_nil) dX10_earAt_27
  · have g38661 : Rg 0 2147483647 x0 := rg_ler (by decide : Rg 0 0 (0 : Int32)) (rg_any x0) (rg_nlt c38659) (by decide)
    refine lv_iload_n hx hb dX10_earAt_4 rfl (lv_at hl 1 rfl) ?_
    refine lv_aload_n hx hb dX10_earAt_5 rfl (lv_at hl 0 rfl) ?_
    refine va_get (D := D) (ci := 10) (v := .int (u 18 3)) (C := RX10) (T := TX10) (N := 8) hx hb hts hin10 hown hK hP 18 rfl rfl 3 (by decide) (hts (.fieldLink RX10 78 "MissedPoints$Witness" "earCount" "I") (by decide +kernel)) (fun _ h9 => h9) rfl dX10_earAt_6 ?_
    refine wk_any (fun r38662 => ?_)
    refine lv_icmp_ge (tgt := 26) hx hb dX10_earAt_9 (by decide) (fun c38663 => ?_) (fun c38663 => ?_)
    · refine lv_iconst (v := (-1)) hx hb dX10_earAt_26 (by decide) ?_
      exact W.iret (v := (-1)) hx hb hr (fun t ht hW => ⟨_, rfl, ⟨(by decide : Rg (-2147483648) 2147483647 ((-1) : Int32)), trivial⟩, ht⟩) (fun q hq => absurd hq List.not_mem_nil) dX10_earAt_27
    · have g38664 : Rg 1 2147483647 r38662 := rg_ltr g38661 (rg_any r38662) (rg_nle c38663) (by decide)
      have g38665 : Rg 0 2147483646 x0 := rg_ltl g38661 (rg_any r38662) (rg_nle c38663) (by decide)
      refine lv_iload_n hx hb dX10_earAt_12 rfl (lv_at hl 1 rfl) ?_
      refine lv_iconst (v := 5) hx hb dX10_earAt_13 (by decide) ?_
      refine lv_icmp_ge (tgt := 26) hx hb dX10_earAt_14 (by decide) (fun c38666 => ?_) (fun c38666 => ?_)
      · have g38667 : Rg 5 2147483646 x0 := rg_ler (by decide : Rg 5 5 (5 : Int32)) g38665 c38666 (by decide)
        refine lv_iconst (v := (-1)) hx hb dX10_earAt_26 (by decide) ?_
        exact W.iret (v := (-1)) hx hb hr (fun t ht hW => ⟨_, rfl, ⟨(by decide : Rg (-2147483648) 2147483647 ((-1) : Int32)), trivial⟩, ht⟩) (fun q hq => absurd hq List.not_mem_nil) dX10_earAt_27
      · have g38668 : Rg 0 4 x0 := rg_ltl g38665 (by decide : Rg 5 5 (5 : Int32)) (rg_nle c38666) (by decide)
        refine lv_aload_n hx hb dX10_earAt_17 rfl (lv_at hl 0 rfl) ?_
        refine va_get (D := D) (ci := 10) (v := .ref (a 19)) (C := RX10) (T := TX10) (N := 8) hx hb hts hin10 hown hK hP 18 rfl rfl 2 (by decide) (hts (.fieldLink RX10 11 "MissedPoints$Witness" "ears" "[I") (by decide +kernel)) (fun _ h9 => h9) rfl dX10_earAt_18 ?_
        refine lv_iload_n hx hb dX10_earAt_21 rfl (lv_at hl 1 rfl) ?_
        refine wk_aldA hx hb hK hP 19 0 rfl rfl (rg_in g38668 (by decide) (by decide)) dX10_earAt_22 (fun r38669 => ?_)
        refine lv_goto (tgt := 27) hx hb dX10_earAt_23 (by decide) ?_
        exact W.iret (v := r38669) hx hb hr (fun t ht hW => ⟨_, rfl, ⟨(rg_any r38669), trivial⟩, ht⟩) (fun q hq => absurd hq List.not_mem_nil) dX10_earAt_27
theorem dX6_isMissing_12 : decode cX6_isMissing 12 = .ok (.iconst 0, 1) := by decide +kernel
set_option maxHeartbeats 4000000 in
set_option maxRecDepth 100000 in
theorem k_X6_isMissing (l : Launch) (D : va_G) (cI cS : ClassId) (a : Nat → Nat) (na nc N : Nat) (L u : SU) (hL : TyX L) (hN : N = 0 ∨ N = 24576) (q : Nat) (hq : q < 4) : Met l yX6_isMissing wsX6_isMissing ({ frames := 0, cells := 0, slots := 0, locals := 0 }) (PS D cI cS (wX cI cS a na nc N L u) [.ref (a (26 + 2 * q))]) (vp_Si (fun r => Rg 0 1 r ∧ True)) 0 0 (fun _ => False) := by
  refine Met.ofW (cc := cX6_isMissing) (maxL := 1) (ret := (some .boolean)) (by decide) rfl ?_
  intro p e s m args below meth c s₁ B hml hv
  obtain ⟨rfl, hP, hKK⟩ := hv
  have hx := B.exec
  have hb := B.bytes
  have hr := B.returns
  have hts := atoms_spec (ws := wsX6_isMissing) B.pre
  have hown : s.vm.findClass RX6 = some m.cls := findClass_of_methodNamed B.named
  have hlocks := B.notSynchronized
  have hK := hKK.1
  have hin6 : ∀ w ∈ wsX60, w ∈ wsX6_isMissing := by decide +kernel
  have hl := lv_entry ([.ref (a (26 + 2 * q))]) (n := 1) (Nat.le_of_ble_eq_true rfl)
  rw [lg_entry_eq]
  generalize (lg_sl ([.ref (a (26 + 2 * q))]) ++ List.replicate (1 - (lg_sl ([.ref (a (26 + 2 * q))])).length) Slot.unset).toArray = ls at hl ⊢
  have hl : lv_has ls 1 [(0, .ref (a (26 + 2 * q)))] := hl
  refine lv_aload_n hx hb dX6_isMissing_0 rfl (lv_at hl 0 rfl) ?_
  refine va_get (D := D) (ci := 6) (v := .int ((L (26 + 2 * q) 1))) (C := RX6) (T := TX6) (N := 3) hx hb hts hin6 hown hK hP (26 + 2 * q) (gx_sh hq) rfl 1 (by decide) (hts (.fieldLink RX6 15 "MissedPoints$Sheet" "sort" "I") (by decide +kernel)) (fun _ h9 => h9) rfl dX6_isMissing_1 ?_
  refine lv_iconst (v := (-1)) hx hb dX6_isMissing_4 (by decide) ?_
  refine lv_icmp_ne (tgt := 12) hx hb dX6_isMissing_5 (by decide) (fun c38672 => ?_) (fun c38672 => ?_)
  · refine lv_iconst (v := 0) hx hb dX6_isMissing_12 (by decide) ?_
    exact W.zret (v := 0) hx hb hr (by decide) (fun t ht hW => ⟨_, rfl, ⟨(by decide : Rg 0 1 (0 : Int32)), trivial⟩, ht⟩) (fun q hq => absurd hq List.not_mem_nil) dX6_isMissing_13
  · have g38673 : Rg (-1) (-1) ((L (26 + 2 * q) 1)) := wk_eql (rg_any ((L (26 + 2 * q) 1))) (by decide : Rg (-1) (-1) ((-1) : Int32)) c38672 (by decide)
    refine lv_iconst (v := 1) hx hb dX6_isMissing_8 (by decide) ?_
    refine lv_goto (tgt := 13) hx hb dX6_isMissing_9 (by decide) ?_
    exact W.zret (v := 1) hx hb hr (by decide) (fun t ht hW => ⟨_, rfl, ⟨(by decide : Rg 0 1 (1 : Int32)), trivial⟩, ht⟩) (fun q hq => absurd hq List.not_mem_nil) dX6_isMissing_13
theorem dX6_hasRange_0 : decode cX6_hasRange 0 = .ok (.iload_n 1, 1) := by decide +kernel
theorem dX6_hasRange_1 : decode cX6_hasRange 1 = .ok (.ifCond .lt 29, 3) := by decide +kernel
theorem dX6_hasRange_10 : decode cX6_hasRange 10 = .ok (.getfield 28, 3) := by decide +kernel
theorem dX6_hasRange_13 : decode cX6_hasRange 13 = .ok (.if_icmp .gt 17, 3) := by decide +kernel
theorem dX6_hasRange_16 : decode cX6_hasRange 16 = .ok (.iload_n 1, 1) := by decide +kernel
theorem dX6_hasRange_17 : decode cX6_hasRange 17 = .ok (.aload_n 0, 1) := by decide +kernel
theorem dX6_hasRange_18 : decode cX6_hasRange 18 = .ok (.getfield 28, 3) := by decide +kernel
theorem dX6_hasRange_21 : decode cX6_hasRange 21 = .ok (.iload_n 2, 1) := by decide +kernel
theorem dX6_hasRange_22 : decode cX6_hasRange 22 = .ok (.isub, 1) := by decide +kernel
theorem dX6_hasRange_23 : decode cX6_hasRange 23 = .ok (.if_icmp .gt 7, 3) := by decide +kernel
theorem dX6_hasRange_26 : decode cX6_hasRange 26 = .ok (.iconst 1, 1) := by decide +kernel
theorem dX6_hasRange_27 : decode cX6_hasRange 27 = .ok (.goto 4, 3) := by decide +kernel
theorem dX6_hasRange_30 : decode cX6_hasRange 30 = .ok (.iconst 0, 1) := by decide +kernel
theorem dX6_hasRange_31 : decode cX6_hasRange 31 = .ok (.ireturn, 1) := by decide +kernel
theorem dX6_hasRange_4 : decode cX6_hasRange 4 = .ok (.iload_n 2, 1) := by decide +kernel
theorem dX6_hasRange_5 : decode cX6_hasRange 5 = .ok (.ifCond .lt 25, 3) := by decide +kernel
theorem dX6_hasRange_8 : decode cX6_hasRange 8 = .ok (.iload_n 2, 1) := by decide +kernel
theorem dX6_hasRange_9 : decode cX6_hasRange 9 = .ok (.aload_n 0, 1) := by decide +kernel
set_option maxHeartbeats 4000000 in
set_option maxRecDepth 100000 in
theorem k_X6_hasRange_1 (l : Launch) (D : va_G) (cI cS : ClassId) (a : Nat → Nat) (na nc N : Nat) (L u : SU) (hL : TyX L) (hN : N = 0 ∨ N = 24576) (q : Nat) (hq : q < 4) (x0 x1 : Int32) (px1 : Rg 1 1 x1) : Met l yX6_hasRange wsX6_hasRange ({ frames := 0, cells := 0, slots := 0, locals := 0 }) (PS D cI cS (wX cI cS a na nc N L u) [.ref (a (26 + 2 * q)), .int x0, .int x1]) (vp_Si (fun r => Rg 0 1 r ∧ (r ≠ 0 → Rg 0 39 x0))) 0 0 (fun _ => False) := by
  refine Met.ofW (cc := cX6_hasRange) (maxL := 3) (ret := (some .boolean)) (by decide) rfl ?_
  intro p e s m args below meth c s₁ B hml hv
  obtain ⟨rfl, hP, hKK⟩ := hv
  have hx := B.exec
  have hb := B.bytes
  have hr := B.returns
  have hts := atoms_spec (ws := wsX6_hasRange) B.pre
  have hown : s.vm.findClass RX6 = some m.cls := findClass_of_methodNamed B.named
  have hlocks := B.notSynchronized
  have hK := hKK.1
  have hin6 : ∀ w ∈ wsX60, w ∈ wsX6_hasRange := by decide +kernel
  have hl := lv_entry ([.ref (a (26 + 2 * q)), .int x0, .int x1]) (n := 3) (Nat.le_of_ble_eq_true rfl)
  rw [lg_entry_eq]
  generalize (lg_sl ([.ref (a (26 + 2 * q)), .int x0, .int x1]) ++ List.replicate (3 - (lg_sl ([.ref (a (26 + 2 * q)), .int x0, .int x1])).length) Slot.unset).toArray = ls at hl ⊢
  have hl : lv_has ls 3 [(0, .ref (a (26 + 2 * q))), (1, .int x0), (2, .int x1)] := hl
  refine lv_iload_n hx hb dX6_hasRange_0 rfl (lv_at hl 1 rfl) ?_
  refine lv_if_lt (tgt := 30) hx hb dX6_hasRange_1 (by decide) (fun c38685 => ?_) (fun c38685 => ?_)
  · have g38686 : Rg (-2147483648) (-1) x0 := rg_ltl (rg_any x0) (by decide : Rg 0 0 (0 : Int32)) c38685 (by decide)
    refine lv_iconst (v := 0) hx hb dX6_hasRange_30 (by decide) ?_
    exact W.zret (v := 0) hx hb hr (by decide) (fun t ht hW => ⟨_, rfl, ⟨(by decide : Rg 0 1 (0 : Int32)), fun h9 => absurd rfl h9⟩, ht⟩) (fun q hq => absurd hq List.not_mem_nil) dX6_hasRange_31
  · have g38687 : Rg 0 2147483647 x0 := rg_ler (by decide : Rg 0 0 (0 : Int32)) (rg_any x0) (rg_nlt c38685) (by decide)
    refine lv_iload_n hx hb dX6_hasRange_4 rfl (lv_at hl 2 rfl) ?_
    refine lv_if_lt (tgt := 30) hx hb dX6_hasRange_5 (by decide) (fun c38688 => ?_) (fun c38688 => ?_)
    · exact absurd c38688 (wk_nlt px1 (by decide : Rg 0 0 (0 : Int32)) (by decide))
    · refine lv_iload_n hx hb dX6_hasRange_8 rfl (lv_at hl 2 rfl) ?_
      refine lv_aload_n hx hb dX6_hasRange_9 rfl (lv_at hl 0 rfl) ?_
      refine va_get (D := D) (ci := 6) (v := .int ((L (26 + 2 * q) 2))) (C := RX6) (T := TX6) (N := 3) hx hb hts hin6 hown hK hP (26 + 2 * q) (gx_sh hq) rfl 2 (by decide) (hts (.fieldLink RX6 28 "MissedPoints$Sheet" "size" "I") (by decide +kernel)) (fun _ h9 => h9) rfl dX6_hasRange_10 ?_
      refine lv_icmp_gt (tgt := 30) hx hb dX6_hasRange_13 (by decide) (fun c38689 => ?_) (fun c38689 => ?_)
      · have g38690 : Rg 0 0 ((L (26 + 2 * q) 2)) := rg_ltl (hL.sh hq) px1 c38689 (by decide)
        refine lv_iconst (v := 0) hx hb dX6_hasRange_30 (by decide) ?_
        exact W.zret (v := 0) hx hb hr (by decide) (fun t ht hW => ⟨_, rfl, ⟨(by decide : Rg 0 1 (0 : Int32)), fun h9 => absurd rfl h9⟩, ht⟩) (fun q hq => absurd hq List.not_mem_nil) dX6_hasRange_31
      · have g38691 : Rg 1 40 ((L (26 + 2 * q) 2)) := rg_ler px1 (hL.sh hq) (rg_nlt c38689) (by decide)
        refine lv_iload_n hx hb dX6_hasRange_16 rfl (lv_at hl 1 rfl) ?_
        refine lv_aload_n hx hb dX6_hasRange_17 rfl (lv_at hl 0 rfl) ?_
        refine va_get (D := D) (ci := 6) (v := .int ((L (26 + 2 * q) 2))) (C := RX6) (T := TX6) (N := 3) hx hb hts hin6 hown hK hP (26 + 2 * q) (gx_sh hq) rfl 2 (by decide) (hts (.fieldLink RX6 28 "MissedPoints$Sheet" "size" "I") (by decide +kernel)) (fun _ h9 => h9) rfl dX6_hasRange_18 ?_
        refine lv_iload_n hx hb dX6_hasRange_21 rfl (lv_at hl 2 rfl) ?_
        refine wk_isub (e1 := 0) (f := 39) hx hb dX6_hasRange_22 g38691 px1 (by decide) (fun r38692 hr38692 er38692 qr38692 => ?_)
        refine lv_icmp_gt (tgt := 30) hx hb dX6_hasRange_23 (by decide) (fun c38693 => ?_) (fun c38693 => ?_)
        · have g38694 : Rg 1 2147483647 x0 := rg_ltr hr38692 g38687 c38693 (by decide)
          refine lv_iconst (v := 0) hx hb dX6_hasRange_30 (by decide) ?_
          exact W.zret (v := 0) hx hb hr (by decide) (fun t ht hW => ⟨_, rfl, ⟨(by decide : Rg 0 1 (0 : Int32)), fun h9 => absurd rfl h9⟩, ht⟩) (fun q hq => absurd hq List.not_mem_nil) dX6_hasRange_31
        · have g38695 : Rg 0 39 x0 := rg_lel g38687 hr38692 (rg_nlt c38693) (by decide)
          refine lv_iconst (v := 1) hx hb dX6_hasRange_26 (by decide) ?_
          refine lv_goto (tgt := 31) hx hb dX6_hasRange_27 (by decide) ?_
          exact W.zret (v := 1) hx hb hr (by decide) (fun t ht hW => ⟨_, rfl, ⟨(by decide : Rg 0 1 (1 : Int32)), fun _ => g38695⟩, ht⟩) (fun q hq => absurd hq List.not_mem_nil) dX6_hasRange_31
set_option maxRecDepth 20000 in
theorem ggX6_at_X6_hasRange : GoodIn wsX6_at wsX6_hasRange := goodIn_r _ [6, 7, 8, 9, 10] rfl (by decide +kernel)
set_option maxRecDepth 20000 in
theorem gX6_at_X6_hasRange : GoodIn wsX6_at (wsV RX6 31 RX6 yX6_hasRange wsX6_hasRange) := goodIn_app (goodIn_of _ (by decide +kernel)) ggX6_at_X6_hasRange
theorem dX6_at_0 : decode cX6_at 0 = .ok (.aload_n 0, 1) := by decide +kernel
theorem dX6_at_1 : decode cX6_at 1 = .ok (.iload_n 1, 1) := by decide +kernel
theorem dX6_at_10 : decode cX6_at 10 = .ok (.getfield 9, 3) := by decide +kernel
theorem dX6_at_13 : decode cX6_at 13 = .ok (.iload_n 1, 1) := by decide +kernel
theorem dX6_at_14 : decode cX6_at 14 = .ok (.iaload, 1) := by decide +kernel
theorem dX6_at_15 : decode cX6_at 15 = .ok (.goto 4, 3) := by decide +kernel
theorem dX6_at_18 : decode cX6_at 18 = .ok (.iconst 0, 1) := by decide +kernel
theorem dX6_at_19 : decode cX6_at 19 = .ok (.ireturn, 1) := by decide +kernel
theorem dX6_at_2 : decode cX6_at 2 = .ok (.iconst 1, 1) := by decide +kernel
theorem dX6_at_3 : decode cX6_at 3 = .ok (.invokevirtual 31, 3) := by decide +kernel
theorem dX6_at_6 : decode cX6_at 6 = .ok (.ifCond .eq 12, 3) := by decide +kernel
theorem dX6_at_9 : decode cX6_at 9 = .ok (.aload_n 0, 1) := by decide +kernel
set_option maxHeartbeats 4000000 in
set_option maxRecDepth 100000 in
theorem k_X6_at (l : Launch) (D : va_G) (cI cS : ClassId) (a : Nat → Nat) (na nc N : Nat) (L u : SU) (hL : TyX L) (hN : N = 0 ∨ N = 24576) (q : Nat) (hq : q < 4) (x0 : Int32) : Met l yX6_at wsX6_at ({ frames := 1, cells := 0, slots := 0, locals := 40 }) (PS D cI cS (wX cI cS a na nc N L u) [.ref (a (26 + 2 * q)), .int x0]) (vp_Si (fun r => Rg (-2147483648) 2147483647 r ∧ True)) 0 0 (fun _ => False) := by
  refine Met.ofW (cc := cX6_at) (maxL := 2) (ret := (some .int)) (by decide) rfl ?_
  intro p e s m args below meth c s₁ B hml hv
  obtain ⟨rfl, hP, hKK⟩ := hv
  have hx := B.exec
  have hb := B.bytes
  have hr := B.returns
  have hts := atoms_spec (ws := wsX6_at) B.pre
  have hown : s.vm.findClass RX6 = some m.cls := findClass_of_methodNamed B.named
  have hlocks := B.notSynchronized
  have hK := hKK.1
  have hin6 : ∀ w ∈ wsX60, w ∈ wsX6_at := by decide +kernel
  have hl := lv_entry ([.ref (a (26 + 2 * q)), .int x0]) (n := 2) (Nat.le_of_ble_eq_true rfl)
  rw [lg_entry_eq]
  generalize (lg_sl ([.ref (a (26 + 2 * q)), .int x0]) ++ List.replicate (2 - (lg_sl ([.ref (a (26 + 2 * q)), .int x0])).length) Slot.unset).toArray = ls at hl ⊢
  have hl : lv_has ls 2 [(0, .ref (a (26 + 2 * q))), (1, .int x0)] := hl
  refine lv_aload_n hx hb dX6_at_0 rfl (lv_at hl 0 rfl) ?_
  refine lv_iload_n hx hb dX6_at_1 rfl (lv_at hl 1 rfl) ?_
  refine lv_iconst (v := 1) hx hb dX6_at_2 (by decide) ?_
  refine wk_sv (26 + 2 * q) (As := [.int x0, .int 1]) (rest := []) ⟨hx, hb, hml, hown, hts⟩ (k_X6_hasRange_1 l D cI cS a na nc N L u hL hN q hq x0 (1 : Int32) (by decide : Rg 1 1 (1 : Int32))) hKK hP (ci := 6) rfl (gx_sh hq) (cwV 2 hts gX6_at_X6_hasRange rfl rfl rfl (by decide +kernel) ⟨Nat.le_of_ble_eq_true rfl, Nat.le_of_ble_eq_true rfl⟩) rfl hl.1 rfl (Nat.le_of_ble_eq_true rfl) dX6_at_3 ⟨Nat.le_of_ble_eq_true rfl, Nat.le_of_ble_eq_true rfl⟩ (fun r38702 hr38702 => ?_)
  refine lv_if_eq (tgt := 18) hx hb dX6_at_6 (by decide) (fun c38703 => ?_) (fun c38703 => ?_)
  · have g38704 : Rg 0 0 r38702 := wk_eql hr38702.1 (by decide : Rg 0 0 (0 : Int32)) c38703 (by decide)
    refine lv_iconst (v := 0) hx hb dX6_at_18 (by decide) ?_
    exact W.iret (v := 0) hx hb hr (fun t ht hW => ⟨_, rfl, ⟨(by decide : Rg (-2147483648) 2147483647 (0 : Int32)), trivial⟩, ht⟩) (fun q hq => absurd hq List.not_mem_nil) dX6_at_19
  · have g38705 : Rg 0 39 x0 := (hr38702.2 c38703)
    have g38706 : Rg 1 1 r38702 := rg_ne_lo (k := 0) hr38702.1 (by decide) c38703 (by decide)
    refine lv_aload_n hx hb dX6_at_9 rfl (lv_at hl 0 rfl) ?_
    refine va_get (D := D) (ci := 6) (v := .ref (a (27 + 2 * q))) (C := RX6) (T := TX6) (N := 3) hx hb hts hin6 hown hK hP (26 + 2 * q) (gx_sh hq) rfl 0 (by decide) (hts (.fieldLink RX6 9 "MissedPoints$Sheet" "numbers" "[I") (by decide +kernel)) (fun _ h9 => h9) rfl dX6_at_10 ?_
    refine lv_iload_n hx hb dX6_at_13 rfl (lv_at hl 1 rfl) ?_
    refine wk_aldA hx hb hK hP (27 + 2 * q) 0 (gx_shn hq) rfl (rg_in g38705 (by decide) (by decide)) dX6_at_14 (fun r38707 => ?_)
    refine lv_goto (tgt := 19) hx hb dX6_at_15 (by decide) ?_
    exact W.iret (v := r38707) hx hb hr (fun t ht hW => ⟨_, rfl, ⟨(rg_any r38707), trivial⟩, ht⟩) (fun q hq => absurd hq List.not_mem_nil) dX6_at_19
set_option maxRecDepth 20000 in
theorem ggX6_store_X6_hasRange : GoodIn wsX6_store wsX6_hasRange := goodIn_r _ [7, 8, 9, 10, 11] rfl (by decide +kernel)
set_option maxRecDepth 20000 in
theorem gX6_store_X6_hasRange : GoodIn wsX6_store (wsV RX6 31 RX6 yX6_hasRange wsX6_hasRange) := goodIn_app (goodIn_of _ (by decide +kernel)) ggX6_store_X6_hasRange
theorem dX6_store_0 : decode cX6_store 0 = .ok (.aload_n 0, 1) := by decide +kernel
theorem dX6_store_1 : decode cX6_store 1 = .ok (.iload_n 1, 1) := by decide +kernel
theorem dX6_store_10 : decode cX6_store 10 = .ok (.getfield 9, 3) := by decide +kernel
theorem dX6_store_13 : decode cX6_store 13 = .ok (.iload_n 1, 1) := by decide +kernel
theorem dX6_store_14 : decode cX6_store 14 = .ok (.aload_n 0, 1) := by decide +kernel
theorem dX6_store_15 : decode cX6_store 15 = .ok (.getfield 15, 3) := by decide +kernel
theorem dX6_store_18 : decode cX6_store 18 = .ok (.ifCond .ne 8, 3) := by decide +kernel
theorem dX6_store_2 : decode cX6_store 2 = .ok (.iconst 1, 1) := by decide +kernel
theorem dX6_store_21 : decode cX6_store 21 = .ok (.iload_n 2, 1) := by decide +kernel
theorem dX6_store_22 : decode cX6_store 22 = .ok (.i2s, 1) := by decide +kernel
theorem dX6_store_23 : decode cX6_store 23 = .ok (.goto 4, 3) := by decide +kernel
theorem dX6_store_26 : decode cX6_store 26 = .ok (.iload_n 2, 1) := by decide +kernel
theorem dX6_store_27 : decode cX6_store 27 = .ok (.iastore, 1) := by decide +kernel
theorem dX6_store_28 : decode cX6_store 28 = .ok (.return_, 1) := by decide +kernel
theorem dX6_store_3 : decode cX6_store 3 = .ok (.invokevirtual 31, 3) := by decide +kernel
theorem dX6_store_6 : decode cX6_store 6 = .ok (.ifCond .eq 22, 3) := by decide +kernel
theorem dX6_store_9 : decode cX6_store 9 = .ok (.aload_n 0, 1) := by decide +kernel
set_option maxHeartbeats 4000000 in
set_option maxRecDepth 100000 in
theorem k_X6_store (l : Launch) (D : va_G) (cI cS : ClassId) (sz : Nat) (a : Nat → Nat) (na nc N : Nat) (L u0 : SU) (hL : TyX L) (hN : N = 0 ∨ N = 24576) (q : Nat) (hq : q < 4) (x0 x1 : Int32) : Met l yX6_store wsX6_store ({ frames := 1, cells := 0, slots := 0, locals := 40 }) (PQ D cI cS (wX cI cS a na nc N L u0) sz [.ref (a (26 + 2 * q)), .int x0, .int x1]) (QE (S := SU) D (wX cI cS a na nc N L u0) (wX cI cS a na nc N L) sz (fun _ => True)) 0 0 (va_A (wX cI cS a na nc N L u0) sz) := by
  refine Met.ofW (cc := cX6_store) (maxL := 3) (ret := none) (by decide) rfl ?_
  intro p e s m args below meth c s₁ B hml hv
  obtain ⟨rfl, hsz, hP, hKK, hD0⟩ := hv
  have hx := B.exec
  have hb := B.bytes
  have hr := B.returns
  have hts := atoms_spec (ws := wsX6_store) B.pre
  have hown : s.vm.findClass RX6 = some m.cls := findClass_of_methodNamed B.named
  have hlocks := B.notSynchronized
  have hK := hKK.1
  have hin6 : ∀ w ∈ wsX60, w ∈ wsX6_store := by decide +kernel
  subst hsz
  have hD := hD0.self (sz := s.heap.size)
  obtain ⟨A, hAe⟩ : ∃ A, A = va_A (wX cI cS a na nc N L u0) s.heap.size := ⟨_, rfl⟩
  rw [← hAe] at hD
  have hA : ∀ q : Nat, s.heap.size ≤ q → A q := fun q h => by rw [hAe]; exact Or.inr h
  have hS : va_S A s.heap s.heap [] := va_S.rf
  have hl := lv_entry ([.ref (a (26 + 2 * q)), .int x0, .int x1]) (n := 3) (Nat.le_of_ble_eq_true rfl)
  rw [lg_entry_eq]
  generalize (lg_sl ([.ref (a (26 + 2 * q)), .int x0, .int x1]) ++ List.replicate (3 - (lg_sl ([.ref (a (26 + 2 * q)), .int x0, .int x1])).length) Slot.unset).toArray = ls at hl ⊢
  have hl : lv_has ls 3 [(0, .ref (a (26 + 2 * q))), (1, .int x0), (2, .int x1)] := hl
  obtain ⟨u, hu9⟩ : ∃ u : SU, u = u0 := ⟨_, rfl⟩
  rw [← hu9] at hP hD
  refine lv_aload_n hx hb dX6_store_0 rfl (lv_at hl 0 rfl) ?_
  refine lv_iload_n hx hb dX6_store_1 rfl (lv_at hl 1 rfl) ?_
  refine lv_iconst (v := 1) hx hb dX6_store_2 (by decide) ?_
  refine wk_sv (26 + 2 * q) (As := [.int x0, .int 1]) (rest := []) ⟨hx, hb, hml, hown, hts⟩ (k_X6_hasRange_1 l D cI cS a na nc N L u hL hN q hq x0 (1 : Int32) (by decide : Rg 1 1 (1 : Int32))) hKK hP (ci := 6) rfl (gx_sh hq) (cwV 2 hts gX6_store_X6_hasRange rfl rfl rfl (by decide +kernel) ⟨Nat.le_of_ble_eq_true rfl, Nat.le_of_ble_eq_true rfl⟩) rfl hl.1 rfl (Nat.le_of_ble_eq_true rfl) dX6_store_3 ⟨Nat.le_of_ble_eq_true rfl, Nat.le_of_ble_eq_true rfl⟩ (fun r38717 hr38717 => ?_)
  refine lv_if_eq (tgt := 28) hx hb dX6_store_6 (by decide) (fun c38718 => ?_) (fun c38718 => ?_)
  · have g38719 : Rg 0 0 r38717 := wk_eql hr38717.1 (by decide : Rg 0 0 (0 : Int32)) c38718 (by decide)
    subst hAe
    exact W.vret hx hb hr (fun t ht hW => ⟨⟨u, rfl, trivial, by rw [ht]; exact hP, hD⟩, hS.F ht⟩) hS.2.2 dX6_store_28
  · have g38720 : Rg 0 39 x0 := (hr38717.2 c38718)
    have g38721 : Rg 1 1 r38717 := rg_ne_lo (k := 0) hr38717.1 (by decide) c38718 (by decide)
    refine lv_aload_n hx hb dX6_store_9 rfl (lv_at hl 0 rfl) ?_
    refine va_get (D := D) (ci := 6) (v := .ref (a (27 + 2 * q))) (C := RX6) (T := TX6) (N := 3) hx hb hts hin6 hown hK hP (26 + 2 * q) (gx_sh hq) rfl 0 (by decide) (hts (.fieldLink RX6 9 "MissedPoints$Sheet" "numbers" "[I") (by decide +kernel)) (fun _ h9 => h9) rfl dX6_store_10 ?_
    refine lv_iload_n hx hb dX6_store_13 rfl (lv_at hl 1 rfl) ?_
    refine lv_aload_n hx hb dX6_store_14 rfl (lv_at hl 0 rfl) ?_
    refine va_get (D := D) (ci := 6) (v := .int ((L (26 + 2 * q) 1))) (C := RX6) (T := TX6) (N := 3) hx hb hts hin6 hown hK hP (26 + 2 * q) (gx_sh hq) rfl 1 (by decide) (hts (.fieldLink RX6 15 "MissedPoints$Sheet" "sort" "I") (by decide +kernel)) (fun _ h9 => h9) rfl dX6_store_15 ?_
    refine lv_if_ne (tgt := 26) hx hb dX6_store_18 (by decide) (fun c38722 => ?_) (fun c38722 => ?_)
    · refine lv_iload_n hx hb dX6_store_26 rfl (lv_at hl 2 rfl) ?_
      refine ks_ast hx hb hK hP hD hS rfl (k := (27 + 2 * q)) (gx_shn hq) (sx_shn hq) (rg_in g38720 (by decide) (by decide)) dX6_store_27 (fun u H locs hP hD hS => ?_)
      subst hAe
      exact W.vret hx hb hr (fun t ht hW => ⟨⟨u, rfl, trivial, by rw [ht]; exact hP, hD⟩, hS.F ht⟩) hS.2.2 dX6_store_28
    · have g38723 : Rg 0 0 ((L (26 + 2 * q) 1)) := wk_eql (rg_any ((L (26 + 2 * q) 1))) (by decide : Rg 0 0 (0 : Int32)) c38722 (by decide)
      refine lv_iload_n hx hb dX6_store_21 rfl (lv_at hl 2 rfl) ?_
      refine lv_i2s hx hb dX6_store_22 rfl ?_
      refine wk_any (fun r38725 => ?_)
      refine lv_goto (tgt := 27) hx hb dX6_store_23 (by decide) ?_
      refine ks_ast hx hb hK hP hD hS rfl (k := (27 + 2 * q)) (gx_shn hq) (sx_shn hq) (rg_in g38720 (by decide) (by decide)) dX6_store_27 (fun u H locs hP hD hS => ?_)
      subst hAe
      exact W.vret hx hb hr (fun t ht hW => ⟨⟨u, rfl, trivial, by rw [ht]; exact hP, hD⟩, hS.F ht⟩) hS.2.2 dX6_store_28
set_option maxHeartbeats 4000000 in
set_option maxRecDepth 100000 in
theorem k_X6_hasRange (l : Launch) (D : va_G) (cI cS : ClassId) (a : Nat → Nat) (na nc N : Nat) (L u : SU) (hL : TyX L) (hN : N = 0 ∨ N = 24576) (q : Nat) (hq : q < 4) (x0 x1 : Int32) : Met l yX6_hasRange wsX6_hasRange ({ frames := 0, cells := 0, slots := 0, locals := 0 }) (PS D cI cS (wX cI cS a na nc N L u) [.ref (a (26 + 2 * q)), .int x0, .int x1]) (vp_Si (fun r => Rg 0 1 r ∧ (r ≠ 0 → Rg 0 40 x0 ∧ Rg 0 40 x1))) 0 0 (fun _ => False) := by
  refine Met.ofW (cc := cX6_hasRange) (maxL := 3) (ret := (some .boolean)) (by decide) rfl ?_
  intro p e s m args below meth c s₁ B hml hv
  obtain ⟨rfl, hP, hKK⟩ := hv
  have hx := B.exec
  have hb := B.bytes
  have hr := B.returns
  have hts := atoms_spec (ws := wsX6_hasRange) B.pre
  have hown : s.vm.findClass RX6 = some m.cls := findClass_of_methodNamed B.named
  have hlocks := B.notSynchronized
  have hK := hKK.1
  have hin6 : ∀ w ∈ wsX60, w ∈ wsX6_hasRange := by decide +kernel
  have hl := lv_entry ([.ref (a (26 + 2 * q)), .int x0, .int x1]) (n := 3) (Nat.le_of_ble_eq_true rfl)
  rw [lg_entry_eq]
  generalize (lg_sl ([.ref (a (26 + 2 * q)), .int x0, .int x1]) ++ List.replicate (3 - (lg_sl ([.ref (a (26 + 2 * q)), .int x0, .int x1])).length) Slot.unset).toArray = ls at hl ⊢
  have hl : lv_has ls 3 [(0, .ref (a (26 + 2 * q))), (1, .int x0), (2, .int x1)] := hl
  refine lv_iload_n hx hb dX6_hasRange_0 rfl (lv_at hl 1 rfl) ?_
  refine lv_if_lt (tgt := 30) hx hb dX6_hasRange_1 (by decide) (fun c38739 => ?_) (fun c38739 => ?_)
  · have g38740 : Rg (-2147483648) (-1) x0 := rg_ltl (rg_any x0) (by decide : Rg 0 0 (0 : Int32)) c38739 (by decide)
    refine lv_iconst (v := 0) hx hb dX6_hasRange_30 (by decide) ?_
    exact W.zret (v := 0) hx hb hr (by decide) (fun t ht hW => ⟨_, rfl, ⟨(by decide : Rg 0 1 (0 : Int32)), fun h9 => absurd rfl h9⟩, ht⟩) (fun q hq => absurd hq List.not_mem_nil) dX6_hasRange_31
  · have g38741 : Rg 0 2147483647 x0 := rg_ler (by decide : Rg 0 0 (0 : Int32)) (rg_any x0) (rg_nlt c38739) (by decide)
    refine lv_iload_n hx hb dX6_hasRange_4 rfl (lv_at hl 2 rfl) ?_
    refine lv_if_lt (tgt := 30) hx hb dX6_hasRange_5 (by decide) (fun c38742 => ?_) (fun c38742 => ?_)
    · have g38743 : Rg (-2147483648) (-1) x1 := rg_ltl (rg_any x1) (by decide : Rg 0 0 (0 : Int32)) c38742 (by decide)
      refine lv_iconst (v := 0) hx hb dX6_hasRange_30 (by decide) ?_
      exact W.zret (v := 0) hx hb hr (by decide) (fun t ht hW => ⟨_, rfl, ⟨(by decide : Rg 0 1 (0 : Int32)), fun h9 => absurd rfl h9⟩, ht⟩) (fun q hq => absurd hq List.not_mem_nil) dX6_hasRange_31
    · have g38744 : Rg 0 2147483647 x1 := rg_ler (by decide : Rg 0 0 (0 : Int32)) (rg_any x1) (rg_nlt c38742) (by decide)
      refine lv_iload_n hx hb dX6_hasRange_8 rfl (lv_at hl 2 rfl) ?_
      refine lv_aload_n hx hb dX6_hasRange_9 rfl (lv_at hl 0 rfl) ?_
      refine va_get (D := D) (ci := 6) (v := .int ((L (26 + 2 * q) 2))) (C := RX6) (T := TX6) (N := 3) hx hb hts hin6 hown hK hP (26 + 2 * q) (gx_sh hq) rfl 2 (by decide) (hts (.fieldLink RX6 28 "MissedPoints$Sheet" "size" "I") (by decide +kernel)) (fun _ h9 => h9) rfl dX6_hasRange_10 ?_
      refine lv_icmp_gt (tgt := 30) hx hb dX6_hasRange_13 (by decide) (fun c38745 => ?_) (fun c38745 => ?_)
      · have g38746 : Rg 1 2147483647 x1 := rg_ltr (hL.sh hq) g38744 c38745 (by decide)
        refine lv_iconst (v := 0) hx hb dX6_hasRange_30 (by decide) ?_
        exact W.zret (v := 0) hx hb hr (by decide) (fun t ht hW => ⟨_, rfl, ⟨(by decide : Rg 0 1 (0 : Int32)), fun h9 => absurd rfl h9⟩, ht⟩) (fun q hq => absurd hq List.not_mem_nil) dX6_hasRange_31
      · have g38747 : Rg 0 40 x1 := rg_lel g38744 (hL.sh hq) (rg_nlt c38745) (by decide)
        refine lv_iload_n hx hb dX6_hasRange_16 rfl (lv_at hl 1 rfl) ?_
        refine lv_aload_n hx hb dX6_hasRange_17 rfl (lv_at hl 0 rfl) ?_
        refine va_get (D := D) (ci := 6) (v := .int ((L (26 + 2 * q) 2))) (C := RX6) (T := TX6) (N := 3) hx hb hts hin6 hown hK hP (26 + 2 * q) (gx_sh hq) rfl 2 (by decide) (hts (.fieldLink RX6 28 "MissedPoints$Sheet" "size" "I") (by decide +kernel)) (fun _ h9 => h9) rfl dX6_hasRange_18 ?_
        refine lv_iload_n hx hb dX6_hasRange_21 rfl (lv_at hl 2 rfl) ?_
        refine wk_isub (e1 := (-40)) (f := 40) hx hb dX6_hasRange_22 (hL.sh hq) g38747 (by decide) (fun r38748 hr38748 er38748 qr38748 => ?_)
        refine lv_icmp_gt (tgt := 30) hx hb dX6_hasRange_23 (by decide) (fun c38749 => ?_) (fun c38749 => ?_)
        · refine lv_iconst (v := 0) hx hb dX6_hasRange_30 (by decide) ?_
          exact W.zret (v := 0) hx hb hr (by decide) (fun t ht hW => ⟨_, rfl, ⟨(by decide : Rg 0 1 (0 : Int32)), fun h9 => absurd rfl h9⟩, ht⟩) (fun q hq => absurd hq List.not_mem_nil) dX6_hasRange_31
        · have g38750 : Rg 0 40 r38748 := rg_ler g38741 hr38748 (rg_nlt c38749) (by decide)
          have g38751 : Rg 0 40 x0 := rg_lel g38741 hr38748 (rg_nlt c38749) (by decide)
          refine lv_iconst (v := 1) hx hb dX6_hasRange_26 (by decide) ?_
          refine lv_goto (tgt := 31) hx hb dX6_hasRange_27 (by decide) ?_
          exact W.zret (v := 1) hx hb hr (by decide) (fun t ht hW => ⟨_, rfl, ⟨(by decide : Rg 0 1 (1 : Int32)), fun _ => ⟨g38751, g38747⟩⟩, ht⟩) (fun q hq => absurd hq List.not_mem_nil) dX6_hasRange_31
theorem dX8_byteAt_12 : decode cX8_byteAt 12 = .ok (.iload_n 1, 1) := by decide +kernel
theorem dX8_byteAt_13 : decode cX8_byteAt 13 = .ok (.bipush 120, 2) := by decide +kernel
theorem dX8_byteAt_15 : decode cX8_byteAt 15 = .ok (.if_icmp .ge 12, 3) := by decide +kernel
theorem dX8_byteAt_18 : decode cX8_byteAt 18 = .ok (.aload_n 0, 1) := by decide +kernel
theorem dX8_byteAt_19 : decode cX8_byteAt 19 = .ok (.getfield 9, 3) := by decide +kernel
theorem dX8_byteAt_22 : decode cX8_byteAt 22 = .ok (.iload_n 1, 1) := by decide +kernel
theorem dX8_byteAt_23 : decode cX8_byteAt 23 = .ok (.iaload, 1) := by decide +kernel
theorem dX8_byteAt_24 : decode cX8_byteAt 24 = .ok (.goto 4, 3) := by decide +kernel
set_option maxHeartbeats 4000000 in
set_option maxRecDepth 100000 in
theorem k_X8_byteAt (l : Launch) (D : va_G) (cI cS : ClassId) (a : Nat → Nat) (na nc N : Nat) (L u : SU) (hL : TyX L) (hN : N = 0 ∨ N = 24576) (x0 : Int32) : Met l yX8_byteAt wsX8_byteAt ({ frames := 0, cells := 0, slots := 0, locals := 0 }) (PS D cI cS (wX cI cS a na nc N L u) [.ref (a 21), .int x0]) (vp_Si (fun r => Rg (-2147483648) 2147483647 r ∧ True)) 0 0 (fun _ => False) := by
  refine Met.ofW (cc := cX8_byteAt) (maxL := 2) (ret := (some .int)) (by decide) rfl ?_
  intro p e s m args below meth c s₁ B hml hv
  obtain ⟨rfl, hP, hKK⟩ := hv
  have hx := B.exec
  have hb := B.bytes
  have hr := B.returns
  have hts := atoms_spec (ws := wsX8_byteAt) B.pre
  have hown : s.vm.findClass RX8 = some m.cls := findClass_of_methodNamed B.named
  have hlocks := B.notSynchronized
  have hK := hKK.1
  have hin8 : ∀ w ∈ wsX80, w ∈ wsX8_byteAt := by decide +kernel
  have hl := lv_entry ([.ref (a 21), .int x0]) (n := 2) (Nat.le_of_ble_eq_true rfl)
  rw [lg_entry_eq]
  generalize (lg_sl ([.ref (a 21), .int x0]) ++ List.replicate (2 - (lg_sl ([.ref (a 21), .int x0])).length) Slot.unset).toArray = ls at hl ⊢
  have hl : lv_has ls 2 [(0, .ref (a 21)), (1, .int x0)] := hl
  refine lv_iload_n hx hb dX8_byteAt_0 rfl (lv_at hl 1 rfl) ?_
  refine lv_if_lt (tgt := 27) hx hb dX8_byteAt_1 (by decide) (fun c38760 => ?_) (fun c38760 => ?_)
  · have g38761 : Rg (-2147483648) (-1) x0 := rg_ltl (rg_any x0) (by decide : Rg 0 0 (0 : Int32)) c38760 (by decide)
    refine lv_iconst (v := (-1)) hx hb dX8_byteAt_27 (by decide) ?_
    exact W.iret (v := (-1)) hx hb hr (fun t ht hW => ⟨_, rfl, ⟨(by decide : Rg (-2147483648) 2147483647 ((-1) : Int32)), trivial⟩, ht⟩) (fun q hq => absurd hq List.not_mem_nil) dX8_byteAt_28
  · have g38762 : Rg 0 2147483647 x0 := rg_ler (by decide : Rg 0 0 (0 : Int32)) (rg_any x0) (rg_nlt c38760) (by decide)
    refine lv_iload_n hx hb dX8_byteAt_4 rfl (lv_at hl 1 rfl) ?_
    refine lv_aload_n hx hb dX8_byteAt_5 rfl (lv_at hl 0 rfl) ?_
    refine va_get (D := D) (ci := 8) (v := .int (L 21 1)) (C := RX8) (T := TX8) (N := 2) hx hb hts hin8 hown hK hP 21 rfl rfl 1 (by decide) (hts (.fieldLink RX8 15 "MissedPoints$Tape" "size" "I") (by decide +kernel)) (fun _ h9 => h9) rfl dX8_byteAt_6 ?_
    refine lv_icmp_ge (tgt := 27) hx hb dX8_byteAt_9 (by decide) (fun c38763 => ?_) (fun c38763 => ?_)
    · refine lv_iconst (v := (-1)) hx hb dX8_byteAt_27 (by decide) ?_
      exact W.iret (v := (-1)) hx hb hr (fun t ht hW => ⟨_, rfl, ⟨(by decide : Rg (-2147483648) 2147483647 ((-1) : Int32)), trivial⟩, ht⟩) (fun q hq => absurd hq List.not_mem_nil) dX8_byteAt_28
    · have g38764 : Rg 1 120 (L 21 1) := rg_ltr g38762 hL.2.2.2.1 (rg_nle c38763) (by decide)
      have g38765 : Rg 0 119 x0 := rg_ltl g38762 hL.2.2.2.1 (rg_nle c38763) (by decide)
      refine lv_iload_n hx hb dX8_byteAt_12 rfl (lv_at hl 1 rfl) ?_
      refine lv_bipush (v := 120) hx hb dX8_byteAt_13 (by decide) ?_
      refine lv_icmp_ge (tgt := 27) hx hb dX8_byteAt_15 (by decide) (fun c38766 => ?_) (fun c38766 => ?_)
      · exact absurd c38766 (wk_nle (by decide : Rg 120 120 (120 : Int32)) g38765 (by decide))
      · refine lv_aload_n hx hb dX8_byteAt_18 rfl (lv_at hl 0 rfl) ?_
        refine va_get (D := D) (ci := 8) (v := .ref (a 22)) (C := RX8) (T := TX8) (N := 2) hx hb hts hin8 hown hK hP 21 rfl rfl 0 (by decide) (hts (.fieldLink RX8 9 "MissedPoints$Tape" "bytes" "[I") (by decide +kernel)) (fun _ h9 => h9) rfl dX8_byteAt_19 ?_
        refine lv_iload_n hx hb dX8_byteAt_22 rfl (lv_at hl 1 rfl) ?_
        refine wk_aldA hx hb hK hP 22 0 rfl rfl (rg_in g38765 (by decide) (by decide)) dX8_byteAt_23 (fun r38767 => ?_)
        refine lv_goto (tgt := 28) hx hb dX8_byteAt_24 (by decide) ?_
        exact W.iret (v := r38767) hx hb hr (fun t ht hW => ⟨_, rfl, ⟨(rg_any r38767), trivial⟩, ht⟩) (fun q hq => absurd hq List.not_mem_nil) dX8_byteAt_28
theorem dX5_tokenOf_12 : decode cX5_tokenOf 12 = .ok (.iload_n 0, 1) := by decide +kernel
theorem dX5_tokenOf_13 : decode cX5_tokenOf 13 = .ok (.bipush 57, 2) := by decide +kernel
theorem dX5_tokenOf_15 : decode cX5_tokenOf 15 = .ok (.if_icmp .gt 6, 3) := by decide +kernel
theorem dX5_tokenOf_18 : decode cX5_tokenOf 18 = .ok (.bipush (-2), 2) := by decide +kernel
theorem dX5_tokenOf_20 : decode cX5_tokenOf 20 = .ok (.ireturn, 1) := by decide +kernel
theorem dX5_tokenOf_21 : decode cX5_tokenOf 21 = .ok (.iload_n 0, 1) := by decide +kernel
theorem dX5_tokenOf_22 : decode cX5_tokenOf 22 = .ok (.bipush 45, 2) := by decide +kernel
theorem dX5_tokenOf_24 : decode cX5_tokenOf 24 = .ok (.if_icmp .eq 33, 3) := by decide +kernel
theorem dX5_tokenOf_27 : decode cX5_tokenOf 27 = .ok (.iload_n 0, 1) := by decide +kernel
theorem dX5_tokenOf_28 : decode cX5_tokenOf 28 = .ok (.bipush 40, 2) := by decide +kernel
theorem dX5_tokenOf_30 : decode cX5_tokenOf 30 = .ok (.if_icmp .eq 27, 3) := by decide +kernel
theorem dX5_tokenOf_33 : decode cX5_tokenOf 33 = .ok (.iload_n 0, 1) := by decide +kernel
theorem dX5_tokenOf_34 : decode cX5_tokenOf 34 = .ok (.bipush 41, 2) := by decide +kernel
theorem dX5_tokenOf_36 : decode cX5_tokenOf 36 = .ok (.if_icmp .eq 21, 3) := by decide +kernel
theorem dX5_tokenOf_39 : decode cX5_tokenOf 39 = .ok (.iload_n 0, 1) := by decide +kernel
theorem dX5_tokenOf_40 : decode cX5_tokenOf 40 = .ok (.bipush 91, 2) := by decide +kernel
theorem dX5_tokenOf_42 : decode cX5_tokenOf 42 = .ok (.if_icmp .eq 15, 3) := by decide +kernel
theorem dX5_tokenOf_45 : decode cX5_tokenOf 45 = .ok (.iload_n 0, 1) := by decide +kernel
theorem dX5_tokenOf_46 : decode cX5_tokenOf 46 = .ok (.bipush 93, 2) := by decide +kernel
theorem dX5_tokenOf_48 : decode cX5_tokenOf 48 = .ok (.if_icmp .eq 9, 3) := by decide +kernel
theorem dX5_tokenOf_51 : decode cX5_tokenOf 51 = .ok (.iload_n 0, 1) := by decide +kernel
theorem dX5_tokenOf_52 : decode cX5_tokenOf 52 = .ok (.bipush 44, 2) := by decide +kernel
theorem dX5_tokenOf_54 : decode cX5_tokenOf 54 = .ok (.if_icmp .ne 7, 3) := by decide +kernel
theorem dX5_tokenOf_57 : decode cX5_tokenOf 57 = .ok (.iconst 1, 1) := by decide +kernel
theorem dX5_tokenOf_58 : decode cX5_tokenOf 58 = .ok (.goto 4, 3) := by decide +kernel
theorem dX5_tokenOf_6 : decode cX5_tokenOf 6 = .ok (.iload_n 0, 1) := by decide +kernel
theorem dX5_tokenOf_61 : decode cX5_tokenOf 61 = .ok (.iconst 0, 1) := by decide +kernel
theorem dX5_tokenOf_62 : decode cX5_tokenOf 62 = .ok (.istore_n 1, 1) := by decide +kernel
theorem dX5_tokenOf_63 : decode cX5_tokenOf 63 = .ok (.iload_n 1, 1) := by decide +kernel
theorem dX5_tokenOf_64 : decode cX5_tokenOf 64 = .ok (.ifCond .eq 7, 3) := by decide +kernel
theorem dX5_tokenOf_67 : decode cX5_tokenOf 67 = .ok (.iload_n 0, 1) := by decide +kernel
theorem dX5_tokenOf_68 : decode cX5_tokenOf 68 = .ok (.goto 5, 3) := by decide +kernel
theorem dX5_tokenOf_7 : decode cX5_tokenOf 7 = .ok (.bipush 48, 2) := by decide +kernel
theorem dX5_tokenOf_71 : decode cX5_tokenOf 71 = .ok (.bipush (-3), 2) := by decide +kernel
theorem dX5_tokenOf_73 : decode cX5_tokenOf 73 = .ok (.ireturn, 1) := by decide +kernel
theorem dX5_tokenOf_9 : decode cX5_tokenOf 9 = .ok (.if_icmp .lt 12, 3) := by decide +kernel
set_option maxHeartbeats 4000000 in
set_option maxRecDepth 100000 in
theorem k_X5_tokenOf (l : Launch) (D : va_G) (cI cS : ClassId) (x0 : Int32) : Met l yX5_tokenOf wsX5_tokenOf ({ frames := 0, cells := 0, slots := 0, locals := 0 }) (PS D cI cS [] [.int x0]) (vp_Si (fun r => Rg (-3) 93 r ∧ True)) 0 0 (fun _ => False) := by
  refine Met.ofW (cc := cX5_tokenOf) (maxL := 2) (ret := (some .int)) (by decide) rfl ?_
  intro p e s m args below meth c s₁ B hml hv
  obtain ⟨rfl, hP, hKK⟩ := hv
  have hx := B.exec
  have hb := B.bytes
  have hr := B.returns
  have hts := atoms_spec (ws := wsX5_tokenOf) B.pre
  have hown : s.vm.findClass RX5 = some m.cls := findClass_of_methodNamed B.named
  have hlocks := B.notSynchronized
  have hK := hKK.1
  have hl := lv_entry ([.int x0]) (n := 2) (Nat.le_of_ble_eq_true rfl)
  rw [lg_entry_eq]
  generalize (lg_sl ([.int x0]) ++ List.replicate (2 - (lg_sl ([.int x0])).length) Slot.unset).toArray = ls at hl ⊢
  have hl : lv_has ls 2 [(0, .int x0)] := hl
  have ct21 : ∀ (ls : Array Slot), Rg 0 2147483647 x0 → lv_has ls 2 [(0, .int x0)] → W p l e (headSpec wsX5_tokenOf ({ frames := 0, cells := 0, slots := 0, locals := 0 })).room s m ([.int x0]).toArray below meth c s.heap [] 0 0 (MQ below (vp_Si (fun r => Rg (-3) 93 r ∧ True)) ([.int x0]).toArray s 0 0 (fun _ => False)) (F0 m 21 ls []) := by
    intro ls g21_l0 hl
    refine lv_iload_n hx hb dX5_tokenOf_21 rfl (lv_at hl 0 rfl) ?_
    refine lv_bipush (v := 45) hx hb dX5_tokenOf_22 (by decide) ?_
    refine lv_icmp_eq (tgt := 57) hx hb dX5_tokenOf_24 (by decide) (fun c38824 => ?_) (fun c38824 => ?_)
    · have g38825 : Rg 45 45 x0 := wk_eql g21_l0 (by decide : Rg 45 45 (45 : Int32)) c38824 (by decide)
      refine lv_iconst (v := 1) hx hb dX5_tokenOf_57 (by decide) ?_
      refine lv_goto (tgt := 62) hx hb dX5_tokenOf_58 (by decide) ?_
      refine lv_istore_n (lv' := [(1, .int 1), (0, .int x0)]) hx hb dX5_tokenOf_62 rfl hl (by decide) rfl (fun ls hl => ?_)
      refine lv_iload_n hx hb dX5_tokenOf_63 rfl (lv_at hl 0 rfl) ?_
      refine lv_if_eq (tgt := 71) hx hb dX5_tokenOf_64 (by decide) (fun c38826 => ?_) (fun c38826 => ?_)
      · exact absurd c38826 (by decide)
      · refine lv_iload_n hx hb dX5_tokenOf_67 rfl (lv_at hl 1 rfl) ?_
        refine lv_goto (tgt := 73) hx hb dX5_tokenOf_68 (by decide) ?_
        exact W.iret (v := x0) hx hb hr (fun t ht hW => ⟨_, rfl, ⟨(show Rg (-3) 93 x0 from rg_w g38825 (by decide) (by decide)), trivial⟩, ht⟩) (fun q hq => absurd hq List.not_mem_nil) dX5_tokenOf_73
    · refine lv_iload_n hx hb dX5_tokenOf_27 rfl (lv_at hl 0 rfl) ?_
      refine lv_bipush (v := 40) hx hb dX5_tokenOf_28 (by decide) ?_
      refine lv_icmp_eq (tgt := 57) hx hb dX5_tokenOf_30 (by decide) (fun c38827 => ?_) (fun c38827 => ?_)
      · have g38828 : Rg 40 40 x0 := wk_eql g21_l0 (by decide : Rg 40 40 (40 : Int32)) c38827 (by decide)
        refine lv_iconst (v := 1) hx hb dX5_tokenOf_57 (by decide) ?_
        refine lv_goto (tgt := 62) hx hb dX5_tokenOf_58 (by decide) ?_
        refine lv_istore_n (lv' := [(1, .int 1), (0, .int x0)]) hx hb dX5_tokenOf_62 rfl hl (by decide) rfl (fun ls hl => ?_)
        refine lv_iload_n hx hb dX5_tokenOf_63 rfl (lv_at hl 0 rfl) ?_
        refine lv_if_eq (tgt := 71) hx hb dX5_tokenOf_64 (by decide) (fun c38829 => ?_) (fun c38829 => ?_)
        · exact absurd c38829 (by decide)
        · refine lv_iload_n hx hb dX5_tokenOf_67 rfl (lv_at hl 1 rfl) ?_
          refine lv_goto (tgt := 73) hx hb dX5_tokenOf_68 (by decide) ?_
          exact W.iret (v := x0) hx hb hr (fun t ht hW => ⟨_, rfl, ⟨(show Rg (-3) 93 x0 from rg_w g38828 (by decide) (by decide)), trivial⟩, ht⟩) (fun q hq => absurd hq List.not_mem_nil) dX5_tokenOf_73
      · refine lv_iload_n hx hb dX5_tokenOf_33 rfl (lv_at hl 0 rfl) ?_
        refine lv_bipush (v := 41) hx hb dX5_tokenOf_34 (by decide) ?_
        refine lv_icmp_eq (tgt := 57) hx hb dX5_tokenOf_36 (by decide) (fun c38830 => ?_) (fun c38830 => ?_)
        · have g38831 : Rg 41 41 x0 := wk_eql g21_l0 (by decide : Rg 41 41 (41 : Int32)) c38830 (by decide)
          refine lv_iconst (v := 1) hx hb dX5_tokenOf_57 (by decide) ?_
          refine lv_goto (tgt := 62) hx hb dX5_tokenOf_58 (by decide) ?_
          refine lv_istore_n (lv' := [(1, .int 1), (0, .int x0)]) hx hb dX5_tokenOf_62 rfl hl (by decide) rfl (fun ls hl => ?_)
          refine lv_iload_n hx hb dX5_tokenOf_63 rfl (lv_at hl 0 rfl) ?_
          refine lv_if_eq (tgt := 71) hx hb dX5_tokenOf_64 (by decide) (fun c38832 => ?_) (fun c38832 => ?_)
          · exact absurd c38832 (by decide)
          · refine lv_iload_n hx hb dX5_tokenOf_67 rfl (lv_at hl 1 rfl) ?_
            refine lv_goto (tgt := 73) hx hb dX5_tokenOf_68 (by decide) ?_
            exact W.iret (v := x0) hx hb hr (fun t ht hW => ⟨_, rfl, ⟨(show Rg (-3) 93 x0 from rg_w g38831 (by decide) (by decide)), trivial⟩, ht⟩) (fun q hq => absurd hq List.not_mem_nil) dX5_tokenOf_73
        · refine lv_iload_n hx hb dX5_tokenOf_39 rfl (lv_at hl 0 rfl) ?_
          refine lv_bipush (v := 91) hx hb dX5_tokenOf_40 (by decide) ?_
          refine lv_icmp_eq (tgt := 57) hx hb dX5_tokenOf_42 (by decide) (fun c38833 => ?_) (fun c38833 => ?_)
          · have g38834 : Rg 91 91 x0 := wk_eql g21_l0 (by decide : Rg 91 91 (91 : Int32)) c38833 (by decide)
            refine lv_iconst (v := 1) hx hb dX5_tokenOf_57 (by decide) ?_
            refine lv_goto (tgt := 62) hx hb dX5_tokenOf_58 (by decide) ?_
            refine lv_istore_n (lv' := [(1, .int 1), (0, .int x0)]) hx hb dX5_tokenOf_62 rfl hl (by decide) rfl (fun ls hl => ?_)
            refine lv_iload_n hx hb dX5_tokenOf_63 rfl (lv_at hl 0 rfl) ?_
            refine lv_if_eq (tgt := 71) hx hb dX5_tokenOf_64 (by decide) (fun c38835 => ?_) (fun c38835 => ?_)
            · exact absurd c38835 (by decide)
            · refine lv_iload_n hx hb dX5_tokenOf_67 rfl (lv_at hl 1 rfl) ?_
              refine lv_goto (tgt := 73) hx hb dX5_tokenOf_68 (by decide) ?_
              exact W.iret (v := x0) hx hb hr (fun t ht hW => ⟨_, rfl, ⟨(show Rg (-3) 93 x0 from rg_w g38834 (by decide) (by decide)), trivial⟩, ht⟩) (fun q hq => absurd hq List.not_mem_nil) dX5_tokenOf_73
          · refine lv_iload_n hx hb dX5_tokenOf_45 rfl (lv_at hl 0 rfl) ?_
            refine lv_bipush (v := 93) hx hb dX5_tokenOf_46 (by decide) ?_
            refine lv_icmp_eq (tgt := 57) hx hb dX5_tokenOf_48 (by decide) (fun c38836 => ?_) (fun c38836 => ?_)
            · have g38837 : Rg 93 93 x0 := wk_eql g21_l0 (by decide : Rg 93 93 (93 : Int32)) c38836 (by decide)
              refine lv_iconst (v := 1) hx hb dX5_tokenOf_57 (by decide) ?_
              refine lv_goto (tgt := 62) hx hb dX5_tokenOf_58 (by decide) ?_
              refine lv_istore_n (lv' := [(1, .int 1), (0, .int x0)]) hx hb dX5_tokenOf_62 rfl hl (by decide) rfl (fun ls hl => ?_)
              refine lv_iload_n hx hb dX5_tokenOf_63 rfl (lv_at hl 0 rfl) ?_
              refine lv_if_eq (tgt := 71) hx hb dX5_tokenOf_64 (by decide) (fun c38838 => ?_) (fun c38838 => ?_)
              · exact absurd c38838 (by decide)
              · refine lv_iload_n hx hb dX5_tokenOf_67 rfl (lv_at hl 1 rfl) ?_
                refine lv_goto (tgt := 73) hx hb dX5_tokenOf_68 (by decide) ?_
                exact W.iret (v := x0) hx hb hr (fun t ht hW => ⟨_, rfl, ⟨(show Rg (-3) 93 x0 from rg_w g38837 (by decide) (by decide)), trivial⟩, ht⟩) (fun q hq => absurd hq List.not_mem_nil) dX5_tokenOf_73
            · refine lv_iload_n hx hb dX5_tokenOf_51 rfl (lv_at hl 0 rfl) ?_
              refine lv_bipush (v := 44) hx hb dX5_tokenOf_52 (by decide) ?_
              refine lv_icmp_ne (tgt := 61) hx hb dX5_tokenOf_54 (by decide) (fun c38839 => ?_) (fun c38839 => ?_)
              · refine lv_iconst (v := 0) hx hb dX5_tokenOf_61 (by decide) ?_
                refine lv_istore_n (lv' := [(1, .int 0), (0, .int x0)]) hx hb dX5_tokenOf_62 rfl hl (by decide) rfl (fun ls hl => ?_)
                refine lv_iload_n hx hb dX5_tokenOf_63 rfl (lv_at hl 0 rfl) ?_
                refine lv_if_eq (tgt := 71) hx hb dX5_tokenOf_64 (by decide) (fun c38840 => ?_) (fun c38840 => ?_)
                · refine lv_bipush (v := (-3)) hx hb dX5_tokenOf_71 (by decide) ?_
                  exact W.iret (v := (-3)) hx hb hr (fun t ht hW => ⟨_, rfl, ⟨(by decide : Rg (-3) 93 ((-3) : Int32)), trivial⟩, ht⟩) (fun q hq => absurd hq List.not_mem_nil) dX5_tokenOf_73
                · exact absurd c38840 (by decide)
              · have g38841 : Rg 44 44 x0 := wk_eql g21_l0 (by decide : Rg 44 44 (44 : Int32)) c38839 (by decide)
                refine lv_iconst (v := 1) hx hb dX5_tokenOf_57 (by decide) ?_
                refine lv_goto (tgt := 62) hx hb dX5_tokenOf_58 (by decide) ?_
                refine lv_istore_n (lv' := [(1, .int 1), (0, .int x0)]) hx hb dX5_tokenOf_62 rfl hl (by decide) rfl (fun ls hl => ?_)
                refine lv_iload_n hx hb dX5_tokenOf_63 rfl (lv_at hl 0 rfl) ?_
                refine lv_if_eq (tgt := 71) hx hb dX5_tokenOf_64 (by decide) (fun c38842 => ?_) (fun c38842 => ?_)
                · exact absurd c38842 (by decide)
                · refine lv_iload_n hx hb dX5_tokenOf_67 rfl (lv_at hl 1 rfl) ?_
                  refine lv_goto (tgt := 73) hx hb dX5_tokenOf_68 (by decide) ?_
                  exact W.iret (v := x0) hx hb hr (fun t ht hW => ⟨_, rfl, ⟨(show Rg (-3) 93 x0 from rg_w g38841 (by decide) (by decide)), trivial⟩, ht⟩) (fun q hq => absurd hq List.not_mem_nil) dX5_tokenOf_73
  refine lv_iload_n hx hb dX5_tokenOf_0 rfl (lv_at hl 0 rfl) ?_
  refine lv_if_ge (tgt := 6) hx hb dX5_tokenOf_1 (by decide) (fun c38843 => ?_) (fun c38843 => ?_)
  · have g38844 : Rg 0 2147483647 x0 := rg_ler (by decide : Rg 0 0 (0 : Int32)) (rg_any x0) c38843 (by decide)
    refine lv_iload_n hx hb dX5_tokenOf_6 rfl (lv_at hl 0 rfl) ?_
    refine lv_bipush (v := 48) hx hb dX5_tokenOf_7 (by decide) ?_
    refine lv_icmp_lt (tgt := 21) hx hb dX5_tokenOf_9 (by decide) (fun c38845 => ?_) (fun c38845 => ?_)
    · have g38846 : Rg 0 47 x0 := rg_ltl g38844 (by decide : Rg 48 48 (48 : Int32)) c38845 (by decide)
      exact ct21 ls (show Rg 0 2147483647 x0 from rg_w g38846 (by decide) (by decide)) (lv_sub (l' := [(0, .int x0)]) hl [0] rfl)
    · have g38847 : Rg 48 2147483647 x0 := rg_ler (by decide : Rg 48 48 (48 : Int32)) g38844 (rg_nlt c38845) (by decide)
      refine lv_iload_n hx hb dX5_tokenOf_12 rfl (lv_at hl 0 rfl) ?_
      refine lv_bipush (v := 57) hx hb dX5_tokenOf_13 (by decide) ?_
      refine lv_icmp_gt (tgt := 21) hx hb dX5_tokenOf_15 (by decide) (fun c38848 => ?_) (fun c38848 => ?_)
      · have g38849 : Rg 58 2147483647 x0 := rg_ltr (by decide : Rg 57 57 (57 : Int32)) g38847 c38848 (by decide)
        exact ct21 ls (show Rg 0 2147483647 x0 from rg_w g38849 (by decide) (by decide)) (lv_sub (l' := [(0, .int x0)]) hl [0] rfl)
      · have g38850 : Rg 48 57 x0 := rg_lel g38847 (by decide : Rg 57 57 (57 : Int32)) (rg_nlt c38848) (by decide)
        refine lv_bipush (v := (-2)) hx hb dX5_tokenOf_18 (by decide) ?_
        exact W.iret (v := (-2)) hx hb hr (fun t ht hW => ⟨_, rfl, ⟨(by decide : Rg (-3) 93 ((-2) : Int32)), trivial⟩, ht⟩) (fun q hq => absurd hq List.not_mem_nil) dX5_tokenOf_20
  · have g38851 : Rg (-2147483648) (-1) x0 := rg_ltl (rg_any x0) (by decide : Rg 0 0 (0 : Int32)) (rg_nle c38843) (by decide)
    refine lv_iconst (v := (-1)) hx hb dX5_tokenOf_4 (by decide) ?_
    exact W.iret (v := (-1)) hx hb hr (fun t ht hW => ⟨_, rfl, ⟨(by decide : Rg (-3) 93 ((-1) : Int32)), trivial⟩, ht⟩) (fun q hq => absurd hq List.not_mem_nil) dX5_tokenOf_5
set_option maxHeartbeats 4000000 in
set_option maxRecDepth 100000 in
theorem k_X5_fail (l : Launch) (D : va_G) (cI cS : ClassId) (sz : Nat) (a : Nat → Nat) (na nc N : Nat) (L u0 : SU) (hL : TyX L) (hN : N = 0 ∨ N = 24576) : Met l yX5_fail wsX5_fail ({ frames := 0, cells := 0, slots := 0, locals := 0 }) (PQ D cI cS (wX cI cS a na nc N L u0) sz [.ref (a 23)]) (QE (S := SU) D (wX cI cS a na nc N L u0) (wX cI cS a na nc N L) sz (fun _ => True)) 0 0 (va_A (wX cI cS a na nc N L u0) sz) := by
  refine Met.ofW (cc := cX5_fail) (maxL := 1) (ret := none) (by decide) rfl ?_
  intro p e s m args below meth c s₁ B hml hv
  obtain ⟨rfl, hsz, hP, hKK, hD0⟩ := hv
  have hx := B.exec
  have hb := B.bytes
  have hr := B.returns
  have hts := atoms_spec (ws := wsX5_fail) B.pre
  have hown : s.vm.findClass RX5 = some m.cls := findClass_of_methodNamed B.named
  have hlocks := B.notSynchronized
  have hK := hKK.1
  have hin5 : ∀ w ∈ wsX50, w ∈ wsX5_fail := by decide +kernel
  subst hsz
  have hD := hD0.self (sz := s.heap.size)
  obtain ⟨A, hAe⟩ : ∃ A, A = va_A (wX cI cS a na nc N L u0) s.heap.size := ⟨_, rfl⟩
  rw [← hAe] at hD
  have hA : ∀ q : Nat, s.heap.size ≤ q → A q := fun q h => by rw [hAe]; exact Or.inr h
  have hS : va_S A s.heap s.heap [] := va_S.rf
  have hl := lv_entry ([.ref (a 23)]) (n := 1) (Nat.le_of_ble_eq_true rfl)
  rw [lg_entry_eq]
  generalize (lg_sl ([.ref (a 23)]) ++ List.replicate (1 - (lg_sl ([.ref (a 23)])).length) Slot.unset).toArray = ls at hl ⊢
  have hl : lv_has ls 1 [(0, .ref (a 23))] := hl
  obtain ⟨u, hu9⟩ : ∃ u : SU, u = u0 := ⟨_, rfl⟩
  rw [← hu9] at hP hD
  refine lv_aload_n hx hb dX5_fail_0 rfl (lv_at hl 0 rfl) ?_
  refine va_get (D := D) (ci := 5) (v := .int (u 23 7)) (C := RX5) (T := TX5) (N := 8) hx hb hts hin5 hown hK hP 23 rfl rfl 7 (by decide) (hts (.fieldLink RX5 27 "MissedPoints$Reader" "fault" "I") (by decide +kernel)) (fun _ h9 => h9) rfl dX5_fail_1 ?_
  refine wk_any (fun r38857 => ?_)
  refine lv_if_ge (tgt := 15) hx hb dX5_fail_4 (by decide) (fun c38858 => ?_) (fun c38858 => ?_)
  · have g38859 : Rg 0 2147483647 r38857 := rg_ler (by decide : Rg 0 0 (0 : Int32)) (rg_any r38857) c38858 (by decide)
    subst hAe
    exact W.vret hx hb hr (fun t ht hW => ⟨⟨u, rfl, trivial, by rw [ht]; exact hP, hD⟩, hS.F ht⟩) hS.2.2 dX5_fail_15
  · have g38860 : Rg (-2147483648) (-1) r38857 := rg_ltl (rg_any r38857) (by decide : Rg 0 0 (0 : Int32)) (rg_nle c38858) (by decide)
    refine lv_aload_n hx hb dX5_fail_7 rfl (lv_at hl 0 rfl) ?_
    refine lv_aload_n hx hb dX5_fail_8 rfl (lv_at hl 0 rfl) ?_
    refine va_get (D := D) (ci := 5) (v := .int (u 23 4)) (C := RX5) (T := TX5) (N := 8) hx hb hts hin5 hown hK hP 23 rfl rfl 4 (by decide) (hts (.fieldLink RX5 42 "MissedPoints$Reader" "start" "I") (by decide +kernel)) (fun _ h9 => h9) rfl dX5_fail_9 ?_
    refine wk_any (fun r38861 => ?_)
    refine va_put (D := D) (ci := 5) (v := .int r38861) (ty := .int) (C := RX5) (T := TX5) (N := 8) hx hb hts hin5 tyX5 tyX5_ok nmX5 hown hK hP hD hS 23 rfl rfl 7 (by decide) (hts (.fieldLink RX5 27 "MissedPoints$Reader" "fault" "I") (by decide +kernel)) (fun _ h9 => h9) rfl (by decide +kernel) rfl rfl (Nat.le_of_ble_eq_true rfl) dX5_fail_12 (fun H locs hP hD hS => ?_)
    rw [sxf_23_7] at hP hD
    generalize sU u 23 _ = u at hP hD
    subst hAe
    exact W.vret hx hb hr (fun t ht hW => ⟨⟨u, rfl, trivial, by rw [ht]; exact hP, hD⟩, hS.F ht⟩) hS.2.2 dX5_fail_15
theorem dX5_step_103 : decode cX5_step 103 = .ok (.aload_n 0, 1) := by decide +kernel
theorem dX5_step_104 : decode cX5_step 104 = .ok (.getfield 15, 3) := by decide +kernel
theorem dX5_step_107 : decode cX5_step 107 = .ok (.aload_n 0, 1) := by decide +kernel
theorem dX5_step_108 : decode cX5_step 108 = .ok (.getfield 23, 3) := by decide +kernel
theorem dX5_step_111 : decode cX5_step 111 = .ok (.invokevirtual 45, 3) := by decide +kernel
theorem dX5_step_114 : decode cX5_step 114 = .ok (.bipush 48, 2) := by decide +kernel
theorem dX5_step_116 : decode cX5_step 116 = .ok (.isub, 1) := by decide +kernel
theorem dX5_step_117 : decode cX5_step 117 = .ok (.istore_n 1, 1) := by decide +kernel
theorem dX5_step_118 : decode cX5_step 118 = .ok (.iconst 0, 1) := by decide +kernel
theorem dX5_step_119 : decode cX5_step 119 = .ok (.istore_n 2, 1) := by decide +kernel
theorem dX5_step_120 : decode cX5_step 120 = .ok (.iload_n 2, 1) := by decide +kernel
theorem dX5_step_121 : decode cX5_step 121 = .ok (.bipush 120, 2) := by decide +kernel
theorem dX5_step_123 : decode cX5_step 123 = .ok (.if_icmp .ge 70, 3) := by decide +kernel
theorem dX5_step_126 : decode cX5_step 126 = .ok (.iload_n 1, 1) := by decide +kernel
theorem dX5_step_127 : decode cX5_step 127 = .ok (.bipush 99, 2) := by decide +kernel
theorem dX5_step_129 : decode cX5_step 129 = .ok (.if_icmp .gt 64, 3) := by decide +kernel
theorem dX5_step_132 : decode cX5_step 132 = .ok (.aload_n 0, 1) := by decide +kernel
theorem dX5_step_133 : decode cX5_step 133 = .ok (.iload_n 1, 1) := by decide +kernel
theorem dX5_step_134 : decode cX5_step 134 = .ok (.putfield 51, 3) := by decide +kernel
theorem dX5_step_137 : decode cX5_step 137 = .ok (.aload_n 0, 1) := by decide +kernel
theorem dX5_step_138 : decode cX5_step 138 = .ok (.dup, 1) := by decide +kernel
theorem dX5_step_139 : decode cX5_step 139 = .ok (.getfield 23, 3) := by decide +kernel
theorem dX5_step_142 : decode cX5_step 142 = .ok (.iconst 1, 1) := by decide +kernel
theorem dX5_step_143 : decode cX5_step 143 = .ok (.iadd, 1) := by decide +kernel
theorem dX5_step_144 : decode cX5_step 144 = .ok (.putfield 23, 3) := by decide +kernel
theorem dX5_step_147 : decode cX5_step 147 = .ok (.aload_n 0, 1) := by decide +kernel
theorem dX5_step_148 : decode cX5_step 148 = .ok (.getfield 15, 3) := by decide +kernel
theorem dX5_step_151 : decode cX5_step 151 = .ok (.aload_n 0, 1) := by decide +kernel
theorem dX5_step_152 : decode cX5_step 152 = .ok (.getfield 23, 3) := by decide +kernel
theorem dX5_step_155 : decode cX5_step 155 = .ok (.invokevirtual 45, 3) := by decide +kernel
theorem dX5_step_158 : decode cX5_step 158 = .ok (.bipush 48, 2) := by decide +kernel
theorem dX5_step_160 : decode cX5_step 160 = .ok (.isub, 1) := by decide +kernel
theorem dX5_step_161 : decode cX5_step 161 = .ok (.istore_n 3, 1) := by decide +kernel
theorem dX5_step_162 : decode cX5_step 162 = .ok (.iload_n 3, 1) := by decide +kernel
theorem dX5_step_163 : decode cX5_step 163 = .ok (.ifCond .lt 9, 3) := by decide +kernel
theorem dX5_step_166 : decode cX5_step 166 = .ok (.iload_n 3, 1) := by decide +kernel
theorem dX5_step_167 : decode cX5_step 167 = .ok (.bipush 9, 2) := by decide +kernel
theorem dX5_step_169 : decode cX5_step 169 = .ok (.if_icmp .le 8, 3) := by decide +kernel
theorem dX5_step_172 : decode cX5_step 172 = .ok (.bipush 100, 2) := by decide +kernel
theorem dX5_step_174 : decode cX5_step 174 = .ok (.goto 12, 3) := by decide +kernel
theorem dX5_step_177 : decode cX5_step 177 = .ok (.aload_n 0, 1) := by decide +kernel
theorem dX5_step_178 : decode cX5_step 178 = .ok (.getfield 51, 3) := by decide +kernel
theorem dX5_step_181 : decode cX5_step 181 = .ok (.bipush 10, 2) := by decide +kernel
theorem dX5_step_183 : decode cX5_step 183 = .ok (.imul, 1) := by decide +kernel
theorem dX5_step_184 : decode cX5_step 184 = .ok (.iload_n 3, 1) := by decide +kernel
theorem dX5_step_185 : decode cX5_step 185 = .ok (.iadd, 1) := by decide +kernel
theorem dX5_step_186 : decode cX5_step 186 = .ok (.istore_n 1, 1) := by decide +kernel
theorem dX5_step_187 : decode cX5_step 187 = .ok (.iinc 2 1, 3) := by decide +kernel
theorem dX5_step_190 : decode cX5_step 190 = .ok (.goto (-70), 3) := by decide +kernel
theorem dX5_step_193 : decode cX5_step 193 = .ok (.return_, 1) := by decide +kernel
theorem dX5_step_24 : decode cX5_step 24 = .ok (.aload_n 0, 1) := by decide +kernel
theorem dX5_step_25 : decode cX5_step 25 = .ok (.dup, 1) := by decide +kernel
theorem dX5_step_26 : decode cX5_step 26 = .ok (.getfield 23, 3) := by decide +kernel
theorem dX5_step_29 : decode cX5_step 29 = .ok (.iconst 1, 1) := by decide +kernel
theorem dX5_step_30 : decode cX5_step 30 = .ok (.iadd, 1) := by decide +kernel
theorem dX5_step_31 : decode cX5_step 31 = .ok (.putfield 23, 3) := by decide +kernel
theorem dX5_step_34 : decode cX5_step 34 = .ok (.iinc 1 1, 3) := by decide +kernel
theorem dX5_step_37 : decode cX5_step 37 = .ok (.goto (-35), 3) := by decide +kernel
theorem dX5_step_97 : decode cX5_step 97 = .ok (.iconst 1, 1) := by decide +kernel
set_option maxHeartbeats 4000000 in
set_option maxRecDepth 100000 in
theorem k_X5_step (l : Launch) (D : va_G) (cI cS : ClassId) (sz : Nat) (a : Nat → Nat) (na nc N : Nat) (L u0 : SU) (hL : TyX L) (hN : N = 0 ∨ N = 24576) : Met l yX5_step wsX5_step ({ frames := 1, cells := 0, slots := 0, locals := 40 }) (PQ D cI cS (wX cI cS a na nc N L u0) sz [.ref (a 23)]) (QE (S := SU) D (wX cI cS a na nc N L u0) (wX cI cS a na nc N L) sz (fun _ => True)) 0 0 (va_A (wX cI cS a na nc N L u0) sz) := by
  refine Met.ofW (cc := cX5_step) (maxL := 4) (ret := none) (by decide) rfl ?_
  intro p e s m args below meth c s₁ B hml hv
  obtain ⟨rfl, hsz, hP, hKK, hD0⟩ := hv
  have hx := B.exec
  have hb := B.bytes
  have hr := B.returns
  have hts := atoms_spec (ws := wsX5_step) B.pre
  have hown : s.vm.findClass RX5 = some m.cls := findClass_of_methodNamed B.named
  have hlocks := B.notSynchronized
  have hK := hKK.1
  have hin5 : ∀ w ∈ wsX50, w ∈ wsX5_step := by decide +kernel
  subst hsz
  have hD := hD0.self (sz := s.heap.size)
  obtain ⟨A, hAe⟩ : ∃ A, A = va_A (wX cI cS a na nc N L u0) s.heap.size := ⟨_, rfl⟩
  rw [← hAe] at hD
  have hA : ∀ q : Nat, s.heap.size ≤ q → A q := fun q h => by rw [hAe]; exact Or.inr h
  have hS : va_S A s.heap s.heap [] := va_S.rf
  have hl := lv_entry ([.ref (a 23)]) (n := 4) (Nat.le_of_ble_eq_true rfl)
  rw [lg_entry_eq]
  generalize (lg_sl ([.ref (a 23)]) ++ List.replicate (4 - (lg_sl ([.ref (a 23)])).length) Slot.unset).toArray = ls at hl ⊢
  have hl : lv_has ls 4 [(0, .ref (a 23))] := hl
  obtain ⟨u, hu9⟩ : ∃ u : SU, u = u0 := ⟨_, rfl⟩
  rw [← hu9] at hP hD
  have lp120 : ∀ (n120 : Nat) (y120_l1 : Int32) (y120_l2 : Int32) (u : SU) (H : Heap) (locs : List Loc) (ls : Array Slot), Rg 0 120 y120_l2 → va_P D cls (wX cI cS a na nc N L u) H → va_D A (wX cI cS a na nc N L u) → va_S A s.heap H locs → lv_has ls 4 [(0, .ref (a 23)), (1, .int y120_l1), (2, .int y120_l2)] → 120 - y120_l2.toInt < (n120 : Int) → W p l e (headSpec wsX5_step ({ frames := 1, cells := 0, slots := 0, locals := 40 })).room s m ([.ref (a 23)]).toArray below meth c H locs 0 0 (MQ below (QE (S := SU) D (wX cI cS a na nc N L u0) (wX cI cS a na nc N L) s.heap.size (fun _ => True)) ([.ref (a 23)]).toArray s 0 0 (va_A (wX cI cS a na nc N L u0) s.heap.size)) (F0 m 120 ls []) := by
    intro n120
    induction n120 with
    | zero =>
      intro y120_l1 y120_l2 u H locs ls g120_l2 hP hD hS hl hm120
      exact absurd rfl (me_z g120_l2 hm120)
    | succ n120 ih120 =>
      intro y120_l1 y120_l2 u H locs ls g120_l2 hP hD hS hl hm120
      refine lv_iload_n hx hb dX5_step_120 rfl (lv_at hl 2 rfl) ?_
      refine lv_bipush (v := 120) hx hb dX5_step_121 (by decide) ?_
      refine lv_icmp_ge (tgt := 193) hx hb dX5_step_123 (by decide) (fun c39703 => ?_) (fun c39703 => ?_)
      · have g39704 : Rg 120 120 y120_l2 := rg_ler (by decide : Rg 120 120 (120 : Int32)) g120_l2 c39703 (by decide)
        subst hAe
        exact W.vret hx hb hr (fun t ht hW => ⟨⟨u, rfl, trivial, by rw [ht]; exact hP, hD⟩, hS.F ht⟩) hS.2.2 dX5_step_193
      · have g39705 : Rg 0 119 y120_l2 := rg_ltl g120_l2 (by decide : Rg 120 120 (120 : Int32)) (rg_nle c39703) (by decide)
        refine lv_iload_n hx hb dX5_step_126 rfl (lv_at hl 1 rfl) ?_
        refine lv_bipush (v := 99) hx hb dX5_step_127 (by decide) ?_
        refine lv_icmp_gt (tgt := 193) hx hb dX5_step_129 (by decide) (fun c39706 => ?_) (fun c39706 => ?_)
        · have g39707 : Rg 100 2147483647 y120_l1 := rg_ltr (by decide : Rg 99 99 (99 : Int32)) (rg_any y120_l1) c39706 (by decide)
          subst hAe
          exact W.vret hx hb hr (fun t ht hW => ⟨⟨u, rfl, trivial, by rw [ht]; exact hP, hD⟩, hS.F ht⟩) hS.2.2 dX5_step_193
        · have g39708 : Rg (-2147483648) 99 y120_l1 := rg_lel (rg_any y120_l1) (by decide : Rg 99 99 (99 : Int32)) (rg_nlt c39706) (by decide)
          refine lv_aload_n hx hb dX5_step_132 rfl (lv_at hl 0 rfl) ?_
          refine lv_iload_n hx hb dX5_step_133 rfl (lv_at hl 1 rfl) ?_
          refine va_put (D := D) (ci := 5) (v := .int y120_l1) (ty := .int) (C := RX5) (T := TX5) (N := 8) hx hb hts hin5 tyX5 tyX5_ok nmX5 hown hK hP hD hS 23 rfl rfl 6 (by decide) (hts (.fieldLink RX5 51 "MissedPoints$Reader" "value" "I") (by decide +kernel)) (fun _ h9 => h9) rfl (by decide +kernel) rfl rfl (Nat.le_of_ble_eq_true rfl) dX5_step_134 (fun H locs hP hD hS => ?_)
          rw [sxf_23_6] at hP hD
          generalize sU u 23 _ = u at hP hD
          refine lv_aload_n hx hb dX5_step_137 rfl (lv_at hl 0 rfl) ?_
          refine lv_dup hx hb dX5_step_138 rfl ?_
          refine va_get (D := D) (ci := 5) (v := .int (u 23 3)) (C := RX5) (T := TX5) (N := 8) hx hb hts hin5 hown hK hP 23 rfl rfl 3 (by decide) (hts (.fieldLink RX5 23 "MissedPoints$Reader" "at" "I") (by decide +kernel)) (fun _ h9 => h9) rfl dX5_step_139 ?_
          refine wk_any (fun r39709 => ?_)
          refine lv_iconst (v := 1) hx hb dX5_step_142 (by decide) ?_
          refine lv_iadd hx hb dX5_step_143 ?_
          refine wk_topP (P := fun r => r = r39709 + (1 : Int32)) rfl (fun r39710 qr39710 => ?_)
          refine va_put (D := D) (ci := 5) (v := .int r39710) (ty := .int) (C := RX5) (T := TX5) (N := 8) hx hb hts hin5 tyX5 tyX5_ok nmX5 hown hK hP hD hS 23 rfl rfl 3 (by decide) (hts (.fieldLink RX5 23 "MissedPoints$Reader" "at" "I") (by decide +kernel)) (fun _ h9 => h9) rfl (by decide +kernel) rfl rfl (Nat.le_of_ble_eq_true rfl) dX5_step_144 (fun H locs hP hD hS => ?_)
          rw [sxf_23_3] at hP hD
          generalize sU u 23 _ = u at hP hD
          refine lv_aload_n hx hb dX5_step_147 rfl (lv_at hl 0 rfl) ?_
          refine va_get (D := D) (ci := 5) (v := .ref (a 21)) (C := RX5) (T := TX5) (N := 8) hx hb hts hin5 hown hK hP 23 rfl rfl 0 (by decide) (hts (.fieldLink RX5 15 "MissedPoints$Reader" "tape" "LMissedPoints$Tape;") (by decide +kernel)) (fun _ h9 => h9) rfl dX5_step_148 ?_
          refine lv_aload_n hx hb dX5_step_151 rfl (lv_at hl 0 rfl) ?_
          refine va_get (D := D) (ci := 5) (v := .int (u 23 3)) (C := RX5) (T := TX5) (N := 8) hx hb hts hin5 hown hK hP 23 rfl rfl 3 (by decide) (hts (.fieldLink RX5 23 "MissedPoints$Reader" "at" "I") (by decide +kernel)) (fun _ h9 => h9) rfl dX5_step_152 ?_
          refine wk_any (fun r39711 => ?_)
          refine wk_sv 21 (As := [.int r39711]) (rest := []) ⟨hx, hb, hml, hown, hts⟩ (k_X8_byteAt l D cI cS a na nc N L u hL hN r39711) hKK hP (ci := 8) rfl rfl (cwV 1 hts gX5_step_X8_byteAt rfl rfl rfl (by decide +kernel) ⟨Nat.le_of_ble_eq_true rfl, Nat.le_of_ble_eq_true rfl⟩) rfl hl.1 rfl (Nat.le_of_ble_eq_true rfl) dX5_step_155 ⟨Nat.le_of_ble_eq_true rfl, Nat.le_of_ble_eq_true rfl⟩ (fun r39712 hr39712 => ?_)
          refine lv_bipush (v := 48) hx hb dX5_step_158 (by decide) ?_
          refine lv_isub hx hb dX5_step_160 ?_
          refine wk_topP (P := fun r => r = r39712 - (48 : Int32)) rfl (fun r39713 qr39713 => ?_)
          refine lv_istore_n (lv' := [(3, .int r39713), (0, .ref (a 23)), (1, .int y120_l1), (2, .int y120_l2)]) hx hb dX5_step_161 rfl hl (by decide) rfl (fun ls hl => ?_)
          refine lv_iload_n hx hb dX5_step_162 rfl (lv_at hl 0 rfl) ?_
          refine lv_if_lt (tgt := 172) hx hb dX5_step_163 (by decide) (fun c39714 => ?_) (fun c39714 => ?_)
          · have g39715 : Rg (-2147483648) (-1) r39713 := rg_ltl (rg_any r39713) (by decide : Rg 0 0 (0 : Int32)) c39714 (by decide)
            refine lv_bipush (v := 100) hx hb dX5_step_172 (by decide) ?_
            refine lv_goto (tgt := 186) hx hb dX5_step_174 (by decide) ?_
            refine lv_istore_n (lv' := [(1, .int 100), (3, .int r39713), (0, .ref (a 23)), (2, .int y120_l2)]) hx hb dX5_step_186 rfl hl (by decide) rfl (fun ls hl => ?_)
            refine wk_iinc (lv' := fun r => [(2, .int r), (1, .int 100), (3, .int r39713), (0, .ref (a 23))]) (e1 := 1) (f := 120) hx hb dX5_step_187 hl (k := 3) rfl (by decide) g39705 (by decide) (fun _ => rfl) (fun r39716 ls hr39716 er39716 hl => ?_)
            refine lv_goto (tgt := 120) hx hb dX5_step_190 (by decide) ?_
            exact ih120 (100 : Int32) r39716 u _ _ ls (show Rg 0 120 r39716 from rg_w hr39716 (by decide) (by decide)) hP hD hS (lv_sub (l' := [(0, .ref (a 23)), (1, .int 100), (2, .int r39716)]) hl [3, 1, 0] rfl) (me_up hm120 er39716 (by decide))
          · have g39717 : Rg 0 2147483647 r39713 := rg_ler (by decide : Rg 0 0 (0 : Int32)) (rg_any r39713) (rg_nlt c39714) (by decide)
            refine lv_iload_n hx hb dX5_step_166 rfl (lv_at hl 0 rfl) ?_
            refine lv_bipush (v := 9) hx hb dX5_step_167 (by decide) ?_
            refine lv_icmp_le (tgt := 177) hx hb dX5_step_169 (by decide) (fun c39718 => ?_) (fun c39718 => ?_)
            · have g39719 : Rg 0 9 r39713 := rg_lel g39717 (by decide : Rg 9 9 (9 : Int32)) c39718 (by decide)
              refine lv_aload_n hx hb dX5_step_177 rfl (lv_at hl 1 rfl) ?_
              refine va_get (D := D) (ci := 5) (v := .int (u 23 6)) (C := RX5) (T := TX5) (N := 8) hx hb hts hin5 hown hK hP 23 rfl rfl 6 (by decide) (hts (.fieldLink RX5 51 "MissedPoints$Reader" "value" "I") (by decide +kernel)) (fun _ h9 => h9) rfl dX5_step_178 ?_
              refine wk_any (fun r39720 => ?_)
              refine lv_bipush (v := 10) hx hb dX5_step_181 (by decide) ?_
              refine lv_imul hx hb dX5_step_183 ?_
              refine wk_topP (P := fun r => r = r39720 * (10 : Int32)) rfl (fun r39721 qr39721 => ?_)
              refine lv_iload_n hx hb dX5_step_184 rfl (lv_at hl 0 rfl) ?_
              refine lv_iadd hx hb dX5_step_185 ?_
              refine wk_topP (P := fun r => r = r39721 + r39713) rfl (fun r39722 qr39722 => ?_)
              refine lv_istore_n (lv' := [(1, .int r39722), (3, .int r39713), (0, .ref (a 23)), (2, .int y120_l2)]) hx hb dX5_step_186 rfl hl (by decide) rfl (fun ls hl => ?_)
              refine wk_iinc (lv' := fun r => [(2, .int r), (1, .int r39722), (3, .int r39713), (0, .ref (a 23))]) (e1 := 1) (f := 120) hx hb dX5_step_187 hl (k := 3) rfl (by decide) g39705 (by decide) (fun _ => rfl) (fun r39723 ls hr39723 er39723 hl => ?_)
              refine lv_goto (tgt := 120) hx hb dX5_step_190 (by decide) ?_
              exact ih120 r39722 r39723 u _ _ ls (show Rg 0 120 r39723 from rg_w hr39723 (by decide) (by decide)) hP hD hS (lv_sub (l' := [(0, .ref (a 23)), (1, .int r39722), (2, .int r39723)]) hl [3, 1, 0] rfl) (me_up hm120 er39723 (by decide))
            · have g39724 : Rg 10 2147483647 r39713 := rg_ltr (by decide : Rg 9 9 (9 : Int32)) g39717 (rg_nle c39718) (by decide)
              refine lv_bipush (v := 100) hx hb dX5_step_172 (by decide) ?_
              refine lv_goto (tgt := 186) hx hb dX5_step_174 (by decide) ?_
              refine lv_istore_n (lv' := [(1, .int 100), (3, .int r39713), (0, .ref (a 23)), (2, .int y120_l2)]) hx hb dX5_step_186 rfl hl (by decide) rfl (fun ls hl => ?_)
              refine wk_iinc (lv' := fun r => [(2, .int r), (1, .int 100), (3, .int r39713), (0, .ref (a 23))]) (e1 := 1) (f := 120) hx hb dX5_step_187 hl (k := 3) rfl (by decide) g39705 (by decide) (fun _ => rfl) (fun r39725 ls hr39725 er39725 hl => ?_)
              refine lv_goto (tgt := 120) hx hb dX5_step_190 (by decide) ?_
              exact ih120 (100 : Int32) r39725 u _ _ ls (show Rg 0 120 r39725 from rg_w hr39725 (by decide) (by decide)) hP hD hS (lv_sub (l' := [(0, .ref (a 23)), (1, .int 100), (2, .int r39725)]) hl [3, 1, 0] rfl) (me_up hm120 er39725 (by decide))
  have ct40 : ∀ (u : SU) (H : Heap) (locs : List Loc) (ls : Array Slot), va_P D cls (wX cI cS a na nc N L u) H → va_D A (wX cI cS a na nc N L u) → va_S A s.heap H locs → lv_has ls 4 [(0, .ref (a 23))] → W p l e (headSpec wsX5_step ({ frames := 1, cells := 0, slots := 0, locals := 40 })).room s m ([.ref (a 23)]).toArray below meth c H locs 0 0 (MQ below (QE (S := SU) D (wX cI cS a na nc N L u0) (wX cI cS a na nc N L) s.heap.size (fun _ => True)) ([.ref (a 23)]).toArray s 0 0 (va_A (wX cI cS a na nc N L u0) s.heap.size)) (F0 m 40 ls []) := by
    intro u H locs ls hP hD hS hl
    refine lv_aload_n hx hb dX5_step_40 rfl (lv_at hl 0 rfl) ?_
    refine lv_aload_n hx hb dX5_step_41 rfl (lv_at hl 0 rfl) ?_
    refine va_get (D := D) (ci := 5) (v := .int (u 23 3)) (C := RX5) (T := TX5) (N := 8) hx hb hts hin5 hown hK hP 23 rfl rfl 3 (by decide) (hts (.fieldLink RX5 23 "MissedPoints$Reader" "at" "I") (by decide +kernel)) (fun _ h9 => h9) rfl dX5_step_42 ?_
    refine wk_any (fun r39726 => ?_)
    refine va_put (D := D) (ci := 5) (v := .int r39726) (ty := .int) (C := RX5) (T := TX5) (N := 8) hx hb hts hin5 tyX5 tyX5_ok nmX5 hown hK hP hD hS 23 rfl rfl 4 (by decide) (hts (.fieldLink RX5 42 "MissedPoints$Reader" "start" "I") (by decide +kernel)) (fun _ h9 => h9) rfl (by decide +kernel) rfl rfl (Nat.le_of_ble_eq_true rfl) dX5_step_45 (fun H locs hP hD hS => ?_)
    rw [sxf_23_4] at hP hD
    generalize sU u 23 _ = u at hP hD
    refine lv_aload_n hx hb dX5_step_48 rfl (lv_at hl 0 rfl) ?_
    refine lv_iconst (v := 0) hx hb dX5_step_49 (by decide) ?_
    refine va_put (D := D) (ci := 5) (v := .int 0) (ty := .int) (C := RX5) (T := TX5) (N := 8) hx hb hts hin5 tyX5 tyX5_ok nmX5 hown hK hP hD hS 23 rfl rfl 6 (by decide) (hts (.fieldLink RX5 51 "MissedPoints$Reader" "value" "I") (by decide +kernel)) (fun _ h9 => h9) rfl (by decide +kernel) rfl rfl (Nat.le_of_ble_eq_true rfl) dX5_step_50 (fun H locs hP hD hS => ?_)
    rw [sxf_23_6] at hP hD
    generalize sU u 23 _ = u at hP hD
    refine lv_aload_n hx hb dX5_step_53 rfl (lv_at hl 0 rfl) ?_
    refine lv_aload_n hx hb dX5_step_54 rfl (lv_at hl 0 rfl) ?_
    refine va_get (D := D) (ci := 5) (v := .ref (a 21)) (C := RX5) (T := TX5) (N := 8) hx hb hts hin5 hown hK hP 23 rfl rfl 0 (by decide) (hts (.fieldLink RX5 15 "MissedPoints$Reader" "tape" "LMissedPoints$Tape;") (by decide +kernel)) (fun _ h9 => h9) rfl dX5_step_55 ?_
    refine lv_aload_n hx hb dX5_step_58 rfl (lv_at hl 0 rfl) ?_
    refine va_get (D := D) (ci := 5) (v := .int (u 23 3)) (C := RX5) (T := TX5) (N := 8) hx hb hts hin5 hown hK hP 23 rfl rfl 3 (by decide) (hts (.fieldLink RX5 23 "MissedPoints$Reader" "at" "I") (by decide +kernel)) (fun _ h9 => h9) rfl dX5_step_59 ?_
    refine wk_any (fun r39727 => ?_)
    refine wk_sv 21 (As := [.int r39727]) (rest := [.ref (a 23)]) ⟨hx, hb, hml, hown, hts⟩ (k_X8_byteAt l D cI cS a na nc N L u hL hN r39727) hKK hP (ci := 8) rfl rfl (cwV 1 hts gX5_step_X8_byteAt rfl rfl rfl (by decide +kernel) ⟨Nat.le_of_ble_eq_true rfl, Nat.le_of_ble_eq_true rfl⟩) rfl hl.1 rfl (Nat.le_of_ble_eq_true rfl) dX5_step_62 ⟨Nat.le_of_ble_eq_true rfl, Nat.le_of_ble_eq_true rfl⟩ (fun r39728 hr39728 => ?_)
    refine lz_ss (As := [.int r39728]) (rest := [.ref (a 23)]) ⟨hx, hb, hml, hown, hts⟩ (k_X5_tokenOf l D cI cS r39728) hKK (hP.sub (ws' := []) [] rfl) (va_cwS 1 hts gX5_step_X5_tokenOf rfl rfl rfl (by decide +kernel) ⟨Nat.le_of_ble_eq_true rfl, Nat.le_of_ble_eq_true rfl⟩) rfl hl.1 rfl (Nat.le_of_ble_eq_true rfl) dX5_step_65 ⟨Nat.le_of_ble_eq_true rfl, Nat.le_of_ble_eq_true rfl⟩ (fun r39729 hr39729 => ?_)
    refine va_put (D := D) (ci := 5) (v := .int r39729) (ty := .int) (C := RX5) (T := TX5) (N := 8) hx hb hts hin5 tyX5 tyX5_ok nmX5 hown hK hP hD hS 23 rfl rfl 5 (by decide) (hts (.fieldLink RX5 36 "MissedPoints$Reader" "token" "I") (by decide +kernel)) (fun _ h9 => h9) rfl (by decide +kernel) rfl rfl (Nat.le_of_ble_eq_true rfl) dX5_step_68 (fun H locs hP hD hS => ?_)
    rw [sxf_23_5] at hP hD
    generalize sU u 23 _ = u at hP hD
    refine lv_aload_n hx hb dX5_step_71 rfl (lv_at hl 0 rfl) ?_
    refine va_get (D := D) (ci := 5) (v := .int (u 23 5)) (C := RX5) (T := TX5) (N := 8) hx hb hts hin5 hown hK hP 23 rfl rfl 5 (by decide) (hts (.fieldLink RX5 36 "MissedPoints$Reader" "token" "I") (by decide +kernel)) (fun _ h9 => h9) rfl dX5_step_72 ?_
    refine wk_any (fun r39730 => ?_)
    refine lv_bipush (v := (-2)) hx hb dX5_step_75 (by decide) ?_
    refine lv_icmp_eq (tgt := 103) hx hb dX5_step_77 (by decide) (fun c39731 => ?_) (fun c39731 => ?_)
    · have g39732 : Rg (-2) (-2) r39730 := wk_eql (rg_any r39730) (by decide : Rg (-2) (-2) ((-2) : Int32)) c39731 (by decide)
      refine lv_aload_n hx hb dX5_step_103 rfl (lv_at hl 0 rfl) ?_
      refine va_get (D := D) (ci := 5) (v := .ref (a 21)) (C := RX5) (T := TX5) (N := 8) hx hb hts hin5 hown hK hP 23 rfl rfl 0 (by decide) (hts (.fieldLink RX5 15 "MissedPoints$Reader" "tape" "LMissedPoints$Tape;") (by decide +kernel)) (fun _ h9 => h9) rfl dX5_step_104 ?_
      refine lv_aload_n hx hb dX5_step_107 rfl (lv_at hl 0 rfl) ?_
      refine va_get (D := D) (ci := 5) (v := .int (u 23 3)) (C := RX5) (T := TX5) (N := 8) hx hb hts hin5 hown hK hP 23 rfl rfl 3 (by decide) (hts (.fieldLink RX5 23 "MissedPoints$Reader" "at" "I") (by decide +kernel)) (fun _ h9 => h9) rfl dX5_step_108 ?_
      refine wk_any (fun r39733 => ?_)
      refine wk_sv 21 (As := [.int r39733]) (rest := []) ⟨hx, hb, hml, hown, hts⟩ (k_X8_byteAt l D cI cS a na nc N L u hL hN r39733) hKK hP (ci := 8) rfl rfl (cwV 1 hts gX5_step_X8_byteAt rfl rfl rfl (by decide +kernel) ⟨Nat.le_of_ble_eq_true rfl, Nat.le_of_ble_eq_true rfl⟩) rfl hl.1 rfl (Nat.le_of_ble_eq_true rfl) dX5_step_111 ⟨Nat.le_of_ble_eq_true rfl, Nat.le_of_ble_eq_true rfl⟩ (fun r39734 hr39734 => ?_)
      refine lv_bipush (v := 48) hx hb dX5_step_114 (by decide) ?_
      refine lv_isub hx hb dX5_step_116 ?_
      refine wk_topP (P := fun r => r = r39734 - (48 : Int32)) rfl (fun r39735 qr39735 => ?_)
      refine lv_istore_n (lv' := [(1, .int r39735), (0, .ref (a 23))]) hx hb dX5_step_117 rfl hl (by decide) rfl (fun ls hl => ?_)
      refine lv_iconst (v := 0) hx hb dX5_step_118 (by decide) ?_
      refine lv_istore_n (lv' := [(2, .int 0), (1, .int r39735), (0, .ref (a 23))]) hx hb dX5_step_119 rfl hl (by decide) rfl (fun ls hl => ?_)
      exact lp120 121 r39735 (0 : Int32) u _ _ ls (by decide : Rg 0 120 (0 : Int32)) hP hD hS (lv_sub (l' := [(0, .ref (a 23)), (1, .int r39735), (2, .int 0)]) hl [2, 1, 0] rfl) (me_i (by decide : Rg 0 120 (0 : Int32)) (by decide))
    · refine lv_aload_n hx hb dX5_step_80 rfl (lv_at hl 0 rfl) ?_
      refine lv_dup hx hb dX5_step_81 rfl ?_
      refine va_get (D := D) (ci := 5) (v := .int (u 23 3)) (C := RX5) (T := TX5) (N := 8) hx hb hts hin5 hown hK hP 23 rfl rfl 3 (by decide) (hts (.fieldLink RX5 23 "MissedPoints$Reader" "at" "I") (by decide +kernel)) (fun _ h9 => h9) rfl dX5_step_82 ?_
      refine wk_any (fun r39736 => ?_)
      refine lv_aload_n hx hb dX5_step_85 rfl (lv_at hl 0 rfl) ?_
      refine va_get (D := D) (ci := 5) (v := .int (u 23 5)) (C := RX5) (T := TX5) (N := 8) hx hb hts hin5 hown hK hP 23 rfl rfl 5 (by decide) (hts (.fieldLink RX5 36 "MissedPoints$Reader" "token" "I") (by decide +kernel)) (fun _ h9 => h9) rfl dX5_step_86 ?_
      refine wk_any (fun r39737 => ?_)
      refine lv_iconst (v := (-1)) hx hb dX5_step_89 (by decide) ?_
      refine lv_icmp_ne (tgt := 97) hx hb dX5_step_90 (by decide) (fun c39738 => ?_) (fun c39738 => ?_)
      · refine lv_iconst (v := 1) hx hb dX5_step_97 (by decide) ?_
        refine lv_iadd hx hb dX5_step_98 ?_
        refine wk_topP (P := fun r => r = r39736 + (1 : Int32)) rfl (fun r39739 qr39739 => ?_)
        refine va_put (D := D) (ci := 5) (v := .int r39739) (ty := .int) (C := RX5) (T := TX5) (N := 8) hx hb hts hin5 tyX5 tyX5_ok nmX5 hown hK hP hD hS 23 rfl rfl 3 (by decide) (hts (.fieldLink RX5 23 "MissedPoints$Reader" "at" "I") (by decide +kernel)) (fun _ h9 => h9) rfl (by decide +kernel) rfl rfl (Nat.le_of_ble_eq_true rfl) dX5_step_99 (fun H locs hP hD hS => ?_)
        rw [sxf_23_3] at hP hD
        generalize sU u 23 _ = u at hP hD
        subst hAe
        exact W.vret hx hb hr (fun t ht hW => ⟨⟨u, rfl, trivial, by rw [ht]; exact hP, hD⟩, hS.F ht⟩) hS.2.2 dX5_step_102
      · have g39740 : Rg (-1) (-1) r39737 := wk_eql (rg_any r39737) (by decide : Rg (-1) (-1) ((-1) : Int32)) c39738 (by decide)
        refine lv_iconst (v := 0) hx hb dX5_step_93 (by decide) ?_
        refine lv_goto (tgt := 98) hx hb dX5_step_94 (by decide) ?_
        refine wk_iadd (e1 := (-2147483648)) (f := 2147483647) hx hb dX5_step_98 (rg_any r39736) (by decide : Rg 0 0 (0 : Int32)) (by decide) (fun r39741 hr39741 er39741 qr39741 => ?_)
        refine va_put (D := D) (ci := 5) (v := .int r39741) (ty := .int) (C := RX5) (T := TX5) (N := 8) hx hb hts hin5 tyX5 tyX5_ok nmX5 hown hK hP hD hS 23 rfl rfl 3 (by decide) (hts (.fieldLink RX5 23 "MissedPoints$Reader" "at" "I") (by decide +kernel)) (fun _ h9 => h9) rfl (by decide +kernel) rfl rfl (Nat.le_of_ble_eq_true rfl) dX5_step_99 (fun H locs hP hD hS => ?_)
        rw [sxf_23_3] at hP hD
        generalize sU u 23 _ = u at hP hD
        subst hAe
        exact W.vret hx hb hr (fun t ht hW => ⟨⟨u, rfl, trivial, by rw [ht]; exact hP, hD⟩, hS.F ht⟩) hS.2.2 dX5_step_102
  have lp2 : ∀ (n2 : Nat) (y2_l1 : Int32) (u : SU) (H : Heap) (locs : List Loc) (ls : Array Slot), Rg 0 120 y2_l1 → va_P D cls (wX cI cS a na nc N L u) H → va_D A (wX cI cS a na nc N L u) → va_S A s.heap H locs → lv_has ls 4 [(0, .ref (a 23)), (1, .int y2_l1)] → 120 - y2_l1.toInt < (n2 : Int) → W p l e (headSpec wsX5_step ({ frames := 1, cells := 0, slots := 0, locals := 40 })).room s m ([.ref (a 23)]).toArray below meth c H locs 0 0 (MQ below (QE (S := SU) D (wX cI cS a na nc N L u0) (wX cI cS a na nc N L) s.heap.size (fun _ => True)) ([.ref (a 23)]).toArray s 0 0 (va_A (wX cI cS a na nc N L u0) s.heap.size)) (F0 m 2 ls []) := by
    intro n2
    induction n2 with
    | zero =>
      intro y2_l1 u H locs ls g2_l1 hP hD hS hl hm2
      exact absurd rfl (me_z g2_l1 hm2)
    | succ n2 ih2 =>
      intro y2_l1 u H locs ls g2_l1 hP hD hS hl hm2
      refine lv_iload_n hx hb dX5_step_2 rfl (lv_at hl 1 rfl) ?_
      refine lv_bipush (v := 120) hx hb dX5_step_3 (by decide) ?_
      refine lv_icmp_ge (tgt := 40) hx hb dX5_step_5 (by decide) (fun c39742 => ?_) (fun c39742 => ?_)
      · have g39743 : Rg 120 120 y2_l1 := rg_ler (by decide : Rg 120 120 (120 : Int32)) g2_l1 c39742 (by decide)
        exact ct40 u _ _ ls hP hD hS (lv_sub (l' := [(0, .ref (a 23))]) hl [0] rfl)
      · have g39744 : Rg 0 119 y2_l1 := rg_ltl g2_l1 (by decide : Rg 120 120 (120 : Int32)) (rg_nle c39742) (by decide)
        refine lv_aload_n hx hb dX5_step_8 rfl (lv_at hl 0 rfl) ?_
        refine va_get (D := D) (ci := 5) (v := .ref (a 21)) (C := RX5) (T := TX5) (N := 8) hx hb hts hin5 hown hK hP 23 rfl rfl 0 (by decide) (hts (.fieldLink RX5 15 "MissedPoints$Reader" "tape" "LMissedPoints$Tape;") (by decide +kernel)) (fun _ h9 => h9) rfl dX5_step_9 ?_
        refine lv_aload_n hx hb dX5_step_12 rfl (lv_at hl 0 rfl) ?_
        refine va_get (D := D) (ci := 5) (v := .int (u 23 3)) (C := RX5) (T := TX5) (N := 8) hx hb hts hin5 hown hK hP 23 rfl rfl 3 (by decide) (hts (.fieldLink RX5 23 "MissedPoints$Reader" "at" "I") (by decide +kernel)) (fun _ h9 => h9) rfl dX5_step_13 ?_
        refine wk_any (fun r39745 => ?_)
        refine wk_sv 21 (As := [.int r39745]) (rest := []) ⟨hx, hb, hml, hown, hts⟩ (k_X8_byteAt l D cI cS a na nc N L u hL hN r39745) hKK hP (ci := 8) rfl rfl (cwV 1 hts gX5_step_X8_byteAt rfl rfl rfl (by decide +kernel) ⟨Nat.le_of_ble_eq_true rfl, Nat.le_of_ble_eq_true rfl⟩) rfl hl.1 rfl (Nat.le_of_ble_eq_true rfl) dX5_step_16 ⟨Nat.le_of_ble_eq_true rfl, Nat.le_of_ble_eq_true rfl⟩ (fun r39746 hr39746 => ?_)
        refine lv_bipush (v := 32) hx hb dX5_step_19 (by decide) ?_
        refine lv_icmp_ne (tgt := 40) hx hb dX5_step_21 (by decide) (fun c39747 => ?_) (fun c39747 => ?_)
        · exact ct40 u _ _ ls hP hD hS (lv_sub (l' := [(0, .ref (a 23))]) hl [0] rfl)
        · have g39748 : Rg 32 32 r39746 := wk_eql hr39746.1 (by decide : Rg 32 32 (32 : Int32)) c39747 (by decide)
          refine lv_aload_n hx hb dX5_step_24 rfl (lv_at hl 0 rfl) ?_
          refine lv_dup hx hb dX5_step_25 rfl ?_
          refine va_get (D := D) (ci := 5) (v := .int (u 23 3)) (C := RX5) (T := TX5) (N := 8) hx hb hts hin5 hown hK hP 23 rfl rfl 3 (by decide) (hts (.fieldLink RX5 23 "MissedPoints$Reader" "at" "I") (by decide +kernel)) (fun _ h9 => h9) rfl dX5_step_26 ?_
          refine wk_any (fun r39749 => ?_)
          refine lv_iconst (v := 1) hx hb dX5_step_29 (by decide) ?_
          refine lv_iadd hx hb dX5_step_30 ?_
          refine wk_topP (P := fun r => r = r39749 + (1 : Int32)) rfl (fun r39750 qr39750 => ?_)
          refine va_put (D := D) (ci := 5) (v := .int r39750) (ty := .int) (C := RX5) (T := TX5) (N := 8) hx hb hts hin5 tyX5 tyX5_ok nmX5 hown hK hP hD hS 23 rfl rfl 3 (by decide) (hts (.fieldLink RX5 23 "MissedPoints$Reader" "at" "I") (by decide +kernel)) (fun _ h9 => h9) rfl (by decide +kernel) rfl rfl (Nat.le_of_ble_eq_true rfl) dX5_step_31 (fun H locs hP hD hS => ?_)
          rw [sxf_23_3] at hP hD
          generalize sU u 23 _ = u at hP hD
          refine wk_iinc (lv' := fun r => [(1, .int r), (0, .ref (a 23))]) (e1 := 1) (f := 120) hx hb dX5_step_34 hl (k := 1) rfl (by decide) g39744 (by decide) (fun _ => rfl) (fun r39751 ls hr39751 er39751 hl => ?_)
          refine lv_goto (tgt := 2) hx hb dX5_step_37 (by decide) ?_
          exact ih2 r39751 u _ _ ls (show Rg 0 120 r39751 from rg_w hr39751 (by decide) (by decide)) hP hD hS (lv_sub (l' := [(0, .ref (a 23)), (1, .int r39751)]) hl [1, 0] rfl) (me_up hm2 er39751 (by decide))
  refine lv_iconst (v := 0) hx hb dX5_step_0 (by decide) ?_
  refine lv_istore_n (lv' := [(1, .int 0), (0, .ref (a 23))]) hx hb dX5_step_1 rfl hl (by decide) rfl (fun ls hl => ?_)
  exact lp2 121 (0 : Int32) u _ _ ls (by decide : Rg 0 120 (0 : Int32)) hP hD hS (lv_sub (l' := [(0, .ref (a 23)), (1, .int 0)]) hl [1, 0] rfl) (me_i (by decide : Rg 0 120 (0 : Int32)) (by decide))
set_option maxRecDepth 20000 in
theorem ggX5_joinEach_X2_hasPoint : GoodIn wsX5_joinEach wsX2_hasPoint := goodIn_r _ [7, 8, 17, 18, 19] rfl (by decide +kernel)
set_option maxRecDepth 20000 in
theorem gX5_joinEach_X2_hasPoint : GoodIn wsX5_joinEach (wsV RX5 75 RX2 yX2_hasPoint wsX2_hasPoint) := goodIn_app (goodIn_of _ (by decide +kernel)) ggX5_joinEach_X2_hasPoint
theorem dX5_joinEach_0 : decode cX5_joinEach 0 = .ok (.aload_n 0, 1) := by decide +kernel
theorem dX5_joinEach_1 : decode cX5_joinEach 1 = .ok (.getfield 19, 3) := by decide +kernel
theorem dX5_joinEach_11 : decode cX5_joinEach 11 = .ok (.return_, 1) := by decide +kernel
theorem dX5_joinEach_12 : decode cX5_joinEach 12 = .ok (.iconst 0, 1) := by decide +kernel
theorem dX5_joinEach_13 : decode cX5_joinEach 13 = .ok (.istore_n 3, 1) := by decide +kernel
theorem dX5_joinEach_14 : decode cX5_joinEach 14 = .ok (.iload_n 3, 1) := by decide +kernel
theorem dX5_joinEach_15 : decode cX5_joinEach 15 = .ok (.bipush 12, 2) := by decide +kernel
theorem dX5_joinEach_17 : decode cX5_joinEach 17 = .ok (.if_icmp .ge 41, 3) := by decide +kernel
theorem dX5_joinEach_20 : decode cX5_joinEach 20 = .ok (.iload_n 1, 1) := by decide +kernel
theorem dX5_joinEach_21 : decode cX5_joinEach 21 = .ok (.iload_n 3, 1) := by decide +kernel
theorem dX5_joinEach_22 : decode cX5_joinEach 22 = .ok (.ishr, 1) := by decide +kernel
theorem dX5_joinEach_23 : decode cX5_joinEach 23 = .ok (.iconst 1, 1) := by decide +kernel
theorem dX5_joinEach_24 : decode cX5_joinEach 24 = .ok (.iand, 1) := by decide +kernel
theorem dX5_joinEach_25 : decode cX5_joinEach 25 = .ok (.ifCond .eq 27, 3) := by decide +kernel
theorem dX5_joinEach_28 : decode cX5_joinEach 28 = .ok (.aload_n 0, 1) := by decide +kernel
theorem dX5_joinEach_29 : decode cX5_joinEach 29 = .ok (.getfield 9, 3) := by decide +kernel
theorem dX5_joinEach_32 : decode cX5_joinEach 32 = .ok (.iload_n 3, 1) := by decide +kernel
theorem dX5_joinEach_33 : decode cX5_joinEach 33 = .ok (.dup2, 1) := by decide +kernel
theorem dX5_joinEach_34 : decode cX5_joinEach 34 = .ok (.iaload, 1) := by decide +kernel
theorem dX5_joinEach_35 : decode cX5_joinEach 35 = .ok (.iconst 1, 1) := by decide +kernel
theorem dX5_joinEach_36 : decode cX5_joinEach 36 = .ok (.iload_n 2, 1) := by decide +kernel
theorem dX5_joinEach_37 : decode cX5_joinEach 37 = .ok (.ishl, 1) := by decide +kernel
theorem dX5_joinEach_38 : decode cX5_joinEach 38 = .ok (.ior, 1) := by decide +kernel
theorem dX5_joinEach_39 : decode cX5_joinEach 39 = .ok (.iastore, 1) := by decide +kernel
theorem dX5_joinEach_4 : decode cX5_joinEach 4 = .ok (.iload_n 2, 1) := by decide +kernel
theorem dX5_joinEach_40 : decode cX5_joinEach 40 = .ok (.aload_n 0, 1) := by decide +kernel
theorem dX5_joinEach_41 : decode cX5_joinEach 41 = .ok (.getfield 9, 3) := by decide +kernel
theorem dX5_joinEach_44 : decode cX5_joinEach 44 = .ok (.iload_n 2, 1) := by decide +kernel
theorem dX5_joinEach_45 : decode cX5_joinEach 45 = .ok (.dup2, 1) := by decide +kernel
theorem dX5_joinEach_46 : decode cX5_joinEach 46 = .ok (.iaload, 1) := by decide +kernel
theorem dX5_joinEach_47 : decode cX5_joinEach 47 = .ok (.iconst 1, 1) := by decide +kernel
theorem dX5_joinEach_48 : decode cX5_joinEach 48 = .ok (.iload_n 3, 1) := by decide +kernel
theorem dX5_joinEach_49 : decode cX5_joinEach 49 = .ok (.ishl, 1) := by decide +kernel
theorem dX5_joinEach_5 : decode cX5_joinEach 5 = .ok (.invokevirtual 75, 3) := by decide +kernel
theorem dX5_joinEach_50 : decode cX5_joinEach 50 = .ok (.ior, 1) := by decide +kernel
theorem dX5_joinEach_51 : decode cX5_joinEach 51 = .ok (.iastore, 1) := by decide +kernel
theorem dX5_joinEach_52 : decode cX5_joinEach 52 = .ok (.iinc 3 1, 3) := by decide +kernel
theorem dX5_joinEach_55 : decode cX5_joinEach 55 = .ok (.goto (-41), 3) := by decide +kernel
theorem dX5_joinEach_58 : decode cX5_joinEach 58 = .ok (.return_, 1) := by decide +kernel
theorem dX5_joinEach_8 : decode cX5_joinEach 8 = .ok (.ifCond .ne 4, 3) := by decide +kernel
set_option maxHeartbeats 4000000 in
set_option maxRecDepth 100000 in
theorem k_X5_joinEach (l : Launch) (D : va_G) (cI cS : ClassId) (sz : Nat) (a : Nat → Nat) (na nc N : Nat) (L u0 : SU) (hL : TyX L) (hN : N = 0 ∨ N = 24576) (x0 x1 : Int32) : Met l yX5_joinEach wsX5_joinEach ({ frames := 1, cells := 0, slots := 0, locals := 40 }) (PQ D cI cS (wX cI cS a na nc N L u0) sz [.ref (a 23), .int x0, .int x1]) (QE (S := SU) D (wX cI cS a na nc N L u0) (wX cI cS a na nc N L) sz (fun _ => True)) 0 0 (va_A (wX cI cS a na nc N L u0) sz) := by
  refine Met.ofW (cc := cX5_joinEach) (maxL := 4) (ret := none) (by decide) rfl ?_
  intro p e s m args below meth c s₁ B hml hv
  obtain ⟨rfl, hsz, hP, hKK, hD0⟩ := hv
  have hx := B.exec
  have hb := B.bytes
  have hr := B.returns
  have hts := atoms_spec (ws := wsX5_joinEach) B.pre
  have hown : s.vm.findClass RX5 = some m.cls := findClass_of_methodNamed B.named
  have hlocks := B.notSynchronized
  have hK := hKK.1
  have hin5 : ∀ w ∈ wsX50, w ∈ wsX5_joinEach := by decide +kernel
  subst hsz
  have hD := hD0.self (sz := s.heap.size)
  obtain ⟨A, hAe⟩ : ∃ A, A = va_A (wX cI cS a na nc N L u0) s.heap.size := ⟨_, rfl⟩
  rw [← hAe] at hD
  have hA : ∀ q : Nat, s.heap.size ≤ q → A q := fun q h => by rw [hAe]; exact Or.inr h
  have hS : va_S A s.heap s.heap [] := va_S.rf
  have hl := lv_entry ([.ref (a 23), .int x0, .int x1]) (n := 4) (Nat.le_of_ble_eq_true rfl)
  rw [lg_entry_eq]
  generalize (lg_sl ([.ref (a 23), .int x0, .int x1]) ++ List.replicate (4 - (lg_sl ([.ref (a 23), .int x0, .int x1])).length) Slot.unset).toArray = ls at hl ⊢
  have hl : lv_has ls 4 [(0, .ref (a 23)), (1, .int x0), (2, .int x1)] := hl
  obtain ⟨u, hu9⟩ : ∃ u : SU, u = u0 := ⟨_, rfl⟩
  rw [← hu9] at hP hD
  have lp14 : ∀ (n14 : Nat) (y14_l3 : Int32) (u : SU) (H : Heap) (locs : List Loc) (ls : Array Slot), Rg 0 11 x1 → Rg 0 12 y14_l3 → va_P D cls (wX cI cS a na nc N L u) H → va_D A (wX cI cS a na nc N L u) → va_S A s.heap H locs → lv_has ls 4 [(0, .ref (a 23)), (1, .int x0), (2, .int x1), (3, .int y14_l3)] → 12 - y14_l3.toInt < (n14 : Int) → W p l e (headSpec wsX5_joinEach ({ frames := 1, cells := 0, slots := 0, locals := 40 })).room s m ([.ref (a 23), .int x0, .int x1]).toArray below meth c H locs 0 0 (MQ below (QE (S := SU) D (wX cI cS a na nc N L u0) (wX cI cS a na nc N L) s.heap.size (fun _ => True)) ([.ref (a 23), .int x0, .int x1]).toArray s 0 0 (va_A (wX cI cS a na nc N L u0) s.heap.size)) (F0 m 14 ls []) := by
    intro n14
    induction n14 with
    | zero =>
      intro y14_l3 u H locs ls g14_l2 g14_l3 hP hD hS hl hm14
      exact absurd rfl (me_z g14_l3 hm14)
    | succ n14 ih14 =>
      intro y14_l3 u H locs ls g14_l2 g14_l3 hP hD hS hl hm14
      refine lv_iload_n hx hb dX5_joinEach_14 rfl (lv_at hl 3 rfl) ?_
      refine lv_bipush (v := 12) hx hb dX5_joinEach_15 (by decide) ?_
      refine lv_icmp_ge (tgt := 58) hx hb dX5_joinEach_17 (by decide) (fun c39917 => ?_) (fun c39917 => ?_)
      · have g39918 : Rg 12 12 y14_l3 := rg_ler (by decide : Rg 12 12 (12 : Int32)) g14_l3 c39917 (by decide)
        subst hAe
        exact W.vret hx hb hr (fun t ht hW => ⟨⟨u, rfl, trivial, by rw [ht]; exact hP, hD⟩, hS.F ht⟩) hS.2.2 dX5_joinEach_58
      · have g39919 : Rg 0 11 y14_l3 := rg_ltl g14_l3 (by decide : Rg 12 12 (12 : Int32)) (rg_nle c39917) (by decide)
        refine lv_iload_n hx hb dX5_joinEach_20 rfl (lv_at hl 1 rfl) ?_
        refine lv_iload_n hx hb dX5_joinEach_21 rfl (lv_at hl 3 rfl) ?_
        refine lv_ishr hx hb dX5_joinEach_22 ?_
        refine wk_topP (P := fun r => r = x0 >>> (y14_l3 &&& 31)) rfl (fun r39920 qr39920 => ?_)
        refine lv_iconst (v := 1) hx hb dX5_joinEach_23 (by decide) ?_
        refine wk_iandr hx hb dX5_joinEach_24 (by decide : Rg 1 1 (1 : Int32)) (by decide) (fun r39921 hr39921 qr39921 => ?_)
        refine lv_if_eq (tgt := 52) hx hb dX5_joinEach_25 (by decide) (fun c39922 => ?_) (fun c39922 => ?_)
        · have g39923 : Rg 0 0 r39921 := wk_eql hr39921 (by decide : Rg 0 0 (0 : Int32)) c39922 (by decide)
          refine wk_iinc (lv' := fun r => [(3, .int r), (0, .ref (a 23)), (1, .int x0), (2, .int x1)]) (e1 := 1) (f := 12) hx hb dX5_joinEach_52 hl (k := 3) rfl (by decide) g39919 (by decide) (fun _ => rfl) (fun r39924 ls hr39924 er39924 hl => ?_)
          refine lv_goto (tgt := 14) hx hb dX5_joinEach_55 (by decide) ?_
          exact ih14 r39924 u _ _ ls g14_l2 (show Rg 0 12 r39924 from rg_w hr39924 (by decide) (by decide)) hP hD hS (lv_sub (l' := [(0, .ref (a 23)), (1, .int x0), (2, .int x1), (3, .int r39924)]) hl [1, 2, 3, 0] rfl) (me_up hm14 er39924 (by decide))
        · have g39925 : Rg 1 1 r39921 := rg_ne_lo (k := 0) hr39921 (by decide) c39922 (by decide)
          refine lv_aload_n hx hb dX5_joinEach_28 rfl (lv_at hl 0 rfl) ?_
          refine va_get (D := D) (ci := 5) (v := .ref (a 24)) (C := RX5) (T := TX5) (N := 8) hx hb hts hin5 hown hK hP 23 rfl rfl 2 (by decide) (hts (.fieldLink RX5 9 "MissedPoints$Reader" "links" "[I") (by decide +kernel)) (fun _ h9 => h9) rfl dX5_joinEach_29 ?_
          refine lv_iload_n hx hb dX5_joinEach_32 rfl (lv_at hl 3 rfl) ?_
          refine lv_dup2_11 hx hb dX5_joinEach_33 rfl rfl ?_
          refine wk_aldA hx hb hK hP 24 0 rfl rfl (rg_in g39919 (by decide) (by decide)) dX5_joinEach_34 (fun r39926 => ?_)
          refine lv_iconst (v := 1) hx hb dX5_joinEach_35 (by decide) ?_
          refine lv_iload_n hx hb dX5_joinEach_36 rfl (lv_at hl 2 rfl) ?_
          refine wk_ishl1 (f := 2048) hx hb dX5_joinEach_37 g14_l2 (by decide) (fun r39927 hr39927 qr39927 => ?_)
          refine lv_ior hx hb dX5_joinEach_38 ?_
          refine wk_topP (P := fun r => r = r39926 ||| r39927) rfl (fun r39928 qr39928 => ?_)
          refine ks_ast hx hb hK hP hD hS rfl (k := 24) rfl sx_24 (rg_in g39919 (by decide) (by decide)) dX5_joinEach_39 (fun u H locs hP hD hS => ?_)
          refine lv_aload_n hx hb dX5_joinEach_40 rfl (lv_at hl 0 rfl) ?_
          refine va_get (D := D) (ci := 5) (v := .ref (a 24)) (C := RX5) (T := TX5) (N := 8) hx hb hts hin5 hown hK hP 23 rfl rfl 2 (by decide) (hts (.fieldLink RX5 9 "MissedPoints$Reader" "links" "[I") (by decide +kernel)) (fun _ h9 => h9) rfl dX5_joinEach_41 ?_
          refine lv_iload_n hx hb dX5_joinEach_44 rfl (lv_at hl 2 rfl) ?_
          refine lv_dup2_11 hx hb dX5_joinEach_45 rfl rfl ?_
          refine wk_aldA hx hb hK hP 24 0 rfl rfl (rg_in g14_l2 (by decide) (by decide)) dX5_joinEach_46 (fun r39929 => ?_)
          refine lv_iconst (v := 1) hx hb dX5_joinEach_47 (by decide) ?_
          refine lv_iload_n hx hb dX5_joinEach_48 rfl (lv_at hl 3 rfl) ?_
          refine wk_ishl1 (f := 2048) hx hb dX5_joinEach_49 g39919 (by decide) (fun r39930 hr39930 qr39930 => ?_)
          refine lv_ior hx hb dX5_joinEach_50 ?_
          refine wk_topP (P := fun r => r = r39929 ||| r39930) rfl (fun r39931 qr39931 => ?_)
          refine ks_ast hx hb hK hP hD hS rfl (k := 24) rfl sx_24 (rg_in g14_l2 (by decide) (by decide)) dX5_joinEach_51 (fun u H locs hP hD hS => ?_)
          refine wk_iinc (lv' := fun r => [(3, .int r), (0, .ref (a 23)), (1, .int x0), (2, .int x1)]) (e1 := 1) (f := 12) hx hb dX5_joinEach_52 hl (k := 3) rfl (by decide) g39919 (by decide) (fun _ => rfl) (fun r39932 ls hr39932 er39932 hl => ?_)
          refine lv_goto (tgt := 14) hx hb dX5_joinEach_55 (by decide) ?_
          exact ih14 r39932 u _ _ ls g14_l2 (show Rg 0 12 r39932 from rg_w hr39932 (by decide) (by decide)) hP hD hS (lv_sub (l' := [(0, .ref (a 23)), (1, .int x0), (2, .int x1), (3, .int r39932)]) hl [1, 2, 3, 0] rfl) (me_up hm14 er39932 (by decide))
  refine lv_aload_n hx hb dX5_joinEach_0 rfl (lv_at hl 0 rfl) ?_
  refine va_get (D := D) (ci := 5) (v := .ref (a 1)) (C := RX5) (T := TX5) (N := 8) hx hb hts hin5 hown hK hP 23 rfl rfl 1 (by decide) (hts (.fieldLink RX5 19 "MissedPoints$Reader" "net" "LMissedPoints$Net;") (by decide +kernel)) (fun _ h9 => h9) rfl dX5_joinEach_1 ?_
  refine lv_iload_n hx hb dX5_joinEach_4 rfl (lv_at hl 2 rfl) ?_
  refine wk_sv 1 (As := [.int x1]) (rest := []) ⟨hx, hb, hml, hown, hts⟩ (k_X2_hasPoint l D cI cS a na nc N L u hL hN x1) hKK hP (ci := 2) rfl rfl (cwV 1 hts gX5_joinEach_X2_hasPoint rfl rfl rfl (by decide +kernel) ⟨Nat.le_of_ble_eq_true rfl, Nat.le_of_ble_eq_true rfl⟩) rfl hl.1 rfl (Nat.le_of_ble_eq_true rfl) dX5_joinEach_5 ⟨Nat.le_of_ble_eq_true rfl, Nat.le_of_ble_eq_true rfl⟩ (fun r39933 hr39933 => ?_)
  refine lv_if_ne (tgt := 12) hx hb dX5_joinEach_8 (by decide) (fun c39934 => ?_) (fun c39934 => ?_)
  · have g39935 : Rg 0 11 x1 := (hr39933.2 c39934)
    have g39936 : Rg 1 1 r39933 := rg_ne_lo (k := 0) hr39933.1 (by decide) c39934 (by decide)
    refine lv_iconst (v := 0) hx hb dX5_joinEach_12 (by decide) ?_
    refine lv_istore_n (lv' := [(3, .int 0), (0, .ref (a 23)), (1, .int x0), (2, .int x1)]) hx hb dX5_joinEach_13 rfl hl (by decide) rfl (fun ls hl => ?_)
    exact lp14 13 (0 : Int32) u _ _ ls g39935 (by decide : Rg 0 12 (0 : Int32)) hP hD hS (lv_sub (l' := [(0, .ref (a 23)), (1, .int x0), (2, .int x1), (3, .int 0)]) hl [1, 2, 3, 0] rfl) (me_i (by decide : Rg 0 12 (0 : Int32)) (by decide))
  · have g39937 : Rg 0 0 r39933 := wk_eql hr39933.1 (by decide : Rg 0 0 (0 : Int32)) c39934 (by decide)
    subst hAe
    exact W.vret hx hb hr (fun t ht hW => ⟨⟨u, rfl, trivial, by rw [ht]; exact hP, hD⟩, hS.F ht⟩) hS.2.2 dX5_joinEach_11
set_option maxRecDepth 20000 in
theorem ggX5_readPoint_X2_hasPoint : GoodIn wsX5_readPoint wsX2_hasPoint := goodIn_r _ [8, 9, 41, 42, 43] rfl (by decide +kernel)
set_option maxRecDepth 20000 in
theorem gX5_readPoint_X2_hasPoint : GoodIn wsX5_readPoint (wsV RX5 75 RX2 yX2_hasPoint wsX2_hasPoint) := goodIn_app (goodIn_of _ (by decide +kernel)) ggX5_readPoint_X2_hasPoint
set_option maxRecDepth 20000 in
theorem ggX5_readPoint_X5_fail : GoodIn wsX5_readPoint wsX5_fail := goodIn_r _ [14, 15, 16, 33, 34, 35, 36, 37, 38, 39, 40] rfl (by decide +kernel)
set_option maxRecDepth 20000 in
theorem gX5_readPoint_X5_fail : GoodIn wsX5_readPoint (wsV RX5 39 RX5 yX5_fail wsX5_fail) := goodIn_app (goodIn_of _ (by decide +kernel)) ggX5_readPoint_X5_fail
set_option maxRecDepth 20000 in
theorem ggX5_readPoint_X5_step : GoodIn wsX5_readPoint wsX5_step := goodIn_r _ [20, 21, 22, 16, 3, 1, 23, 24, 25, 26, 27, 28, 29, 30, 31, 13, 32, 33, 34, 35, 36, 37, 38, 39, 40, 44, 45] rfl (by decide +kernel)
set_option maxRecDepth 20000 in
theorem gX5_readPoint_X5_step : GoodIn wsX5_readPoint (wsV RX5 30 RX5 yX5_step wsX5_step) := goodIn_app (goodIn_of _ (by decide +kernel)) ggX5_readPoint_X5_step
theorem dX5_readPoint_0 : decode cX5_readPoint 0 = .ok (.aload_n 0, 1) := by decide +kernel
theorem dX5_readPoint_1 : decode cX5_readPoint 1 = .ok (.getfield 36, 3) := by decide +kernel
theorem dX5_readPoint_10 : decode cX5_readPoint 10 = .ok (.getfield 19, 3) := by decide +kernel
theorem dX5_readPoint_13 : decode cX5_readPoint 13 = .ok (.aload_n 0, 1) := by decide +kernel
theorem dX5_readPoint_14 : decode cX5_readPoint 14 = .ok (.getfield 51, 3) := by decide +kernel
theorem dX5_readPoint_17 : decode cX5_readPoint 17 = .ok (.invokevirtual 75, 3) := by decide +kernel
theorem dX5_readPoint_20 : decode cX5_readPoint 20 = .ok (.ifCond .eq 14, 3) := by decide +kernel
theorem dX5_readPoint_23 : decode cX5_readPoint 23 = .ok (.iload_n 1, 1) := by decide +kernel
theorem dX5_readPoint_24 : decode cX5_readPoint 24 = .ok (.aload_n 0, 1) := by decide +kernel
theorem dX5_readPoint_25 : decode cX5_readPoint 25 = .ok (.getfield 51, 3) := by decide +kernel
theorem dX5_readPoint_28 : decode cX5_readPoint 28 = .ok (.ishr, 1) := by decide +kernel
theorem dX5_readPoint_29 : decode cX5_readPoint 29 = .ok (.iconst 1, 1) := by decide +kernel
theorem dX5_readPoint_30 : decode cX5_readPoint 30 = .ok (.iand, 1) := by decide +kernel
theorem dX5_readPoint_31 : decode cX5_readPoint 31 = .ok (.ifCond .eq 9, 3) := by decide +kernel
theorem dX5_readPoint_34 : decode cX5_readPoint 34 = .ok (.aload_n 0, 1) := by decide +kernel
theorem dX5_readPoint_35 : decode cX5_readPoint 35 = .ok (.invokevirtual 39, 3) := by decide +kernel
theorem dX5_readPoint_38 : decode cX5_readPoint 38 = .ok (.iconst (-1), 1) := by decide +kernel
theorem dX5_readPoint_39 : decode cX5_readPoint 39 = .ok (.ireturn, 1) := by decide +kernel
theorem dX5_readPoint_4 : decode cX5_readPoint 4 = .ok (.bipush (-2), 2) := by decide +kernel
theorem dX5_readPoint_40 : decode cX5_readPoint 40 = .ok (.aload_n 0, 1) := by decide +kernel
theorem dX5_readPoint_41 : decode cX5_readPoint 41 = .ok (.getfield 51, 3) := by decide +kernel
theorem dX5_readPoint_44 : decode cX5_readPoint 44 = .ok (.istore_n 2, 1) := by decide +kernel
theorem dX5_readPoint_45 : decode cX5_readPoint 45 = .ok (.aload_n 0, 1) := by decide +kernel
theorem dX5_readPoint_46 : decode cX5_readPoint 46 = .ok (.invokevirtual 30, 3) := by decide +kernel
theorem dX5_readPoint_49 : decode cX5_readPoint 49 = .ok (.iload_n 2, 1) := by decide +kernel
theorem dX5_readPoint_50 : decode cX5_readPoint 50 = .ok (.ireturn, 1) := by decide +kernel
theorem dX5_readPoint_6 : decode cX5_readPoint 6 = .ok (.if_icmp .ne 28, 3) := by decide +kernel
theorem dX5_readPoint_9 : decode cX5_readPoint 9 = .ok (.aload_n 0, 1) := by decide +kernel
set_option maxHeartbeats 4000000 in
set_option maxRecDepth 100000 in
theorem k_X5_readPoint (l : Launch) (D : va_G) (cI cS : ClassId) (sz : Nat) (a : Nat → Nat) (na nc N : Nat) (L u0 : SU) (hL : TyX L) (hN : N = 0 ∨ N = 24576) (x0 : Int32) : Met l yX5_readPoint wsX5_readPoint ({ frames := 2, cells := 0, slots := 0, locals := 80 }) (PQ D cI cS (wX cI cS a na nc N L u0) sz [.ref (a 23), .int x0]) (QF (S := SU) D (wX cI cS a na nc N L u0) (wX cI cS a na nc N L) sz (fun r _ => Rg (-2147483648) 2147483647 r ∧ True)) 0 0 (va_A (wX cI cS a na nc N L u0) sz) := by
  refine Met.ofW (cc := cX5_readPoint) (maxL := 3) (ret := (some .int)) (by decide) rfl ?_
  intro p e s m args below meth c s₁ B hml hv
  obtain ⟨rfl, hsz, hP, hKK, hD0⟩ := hv
  have hx := B.exec
  have hb := B.bytes
  have hr := B.returns
  have hts := atoms_spec (ws := wsX5_readPoint) B.pre
  have hown : s.vm.findClass RX5 = some m.cls := findClass_of_methodNamed B.named
  have hlocks := B.notSynchronized
  have hK := hKK.1
  have hin5 : ∀ w ∈ wsX50, w ∈ wsX5_readPoint := by decide +kernel
  subst hsz
  have hD := hD0.self (sz := s.heap.size)
  obtain ⟨A, hAe⟩ : ∃ A, A = va_A (wX cI cS a na nc N L u0) s.heap.size := ⟨_, rfl⟩
  rw [← hAe] at hD
  have hA : ∀ q : Nat, s.heap.size ≤ q → A q := fun q h => by rw [hAe]; exact Or.inr h
  have hS : va_S A s.heap s.heap [] := va_S.rf
  have hl := lv_entry ([.ref (a 23), .int x0]) (n := 3) (Nat.le_of_ble_eq_true rfl)
  rw [lg_entry_eq]
  generalize (lg_sl ([.ref (a 23), .int x0]) ++ List.replicate (3 - (lg_sl ([.ref (a 23), .int x0])).length) Slot.unset).toArray = ls at hl ⊢
  have hl : lv_has ls 3 [(0, .ref (a 23)), (1, .int x0)] := hl
  obtain ⟨u, hu9⟩ : ∃ u : SU, u = u0 := ⟨_, rfl⟩
  rw [← hu9] at hP hD
  refine lv_aload_n hx hb dX5_readPoint_0 rfl (lv_at hl 0 rfl) ?_
  refine va_get (D := D) (ci := 5) (v := .int (u 23 5)) (C := RX5) (T := TX5) (N := 8) hx hb hts hin5 hown hK hP 23 rfl rfl 5 (by decide) (hts (.fieldLink RX5 36 "MissedPoints$Reader" "token" "I") (by decide +kernel)) (fun _ h9 => h9) rfl dX5_readPoint_1 ?_
  refine wk_any (fun r39957 => ?_)
  refine lv_bipush (v := (-2)) hx hb dX5_readPoint_4 (by decide) ?_
  refine lv_icmp_ne (tgt := 34) hx hb dX5_readPoint_6 (by decide) (fun c39958 => ?_) (fun c39958 => ?_)
  · refine lv_aload_n hx hb dX5_readPoint_34 rfl (lv_at hl 0 rfl) ?_
    refine wk_qv (wX cI cS a na nc N L) u (As := []) (rest := []) ⟨hx, hb, hml, hown, hts⟩ (k_X5_fail l D cI cS _ a na nc N L u hL hN) hKK hP hD hS hA 23 (ci := 5) rfl rfl (cwV 0 hts gX5_readPoint_X5_fail rfl rfl rfl (by decide +kernel) ⟨Nat.le_of_ble_eq_true rfl, Nat.le_of_ble_eq_true rfl⟩) rfl hl.1 rfl (Nat.le_of_ble_eq_true rfl) dX5_readPoint_35 ⟨Nat.le_of_ble_eq_true rfl, Nat.le_of_ble_eq_true rfl⟩ (fun u H locs hr39959 hP hD hS => ?_)
    refine lv_iconst (v := (-1)) hx hb dX5_readPoint_38 (by decide) ?_
    subst hAe
    exact W.iret (v := (-1)) hx hb hr (fun t ht hW => ⟨⟨_, u, rfl, ⟨(by decide : Rg (-2147483648) 2147483647 ((-1) : Int32)), trivial⟩, by rw [ht]; exact hP, hD⟩, hS.F ht⟩) hS.2.2 dX5_readPoint_39
  · have g39960 : Rg (-2) (-2) r39957 := wk_eql (rg_any r39957) (by decide : Rg (-2) (-2) ((-2) : Int32)) c39958 (by decide)
    refine lv_aload_n hx hb dX5_readPoint_9 rfl (lv_at hl 0 rfl) ?_
    refine va_get (D := D) (ci := 5) (v := .ref (a 1)) (C := RX5) (T := TX5) (N := 8) hx hb hts hin5 hown hK hP 23 rfl rfl 1 (by decide) (hts (.fieldLink RX5 19 "MissedPoints$Reader" "net" "LMissedPoints$Net;") (by decide +kernel)) (fun _ h9 => h9) rfl dX5_readPoint_10 ?_
    refine lv_aload_n hx hb dX5_readPoint_13 rfl (lv_at hl 0 rfl) ?_
    refine va_get (D := D) (ci := 5) (v := .int (u 23 6)) (C := RX5) (T := TX5) (N := 8) hx hb hts hin5 hown hK hP 23 rfl rfl 6 (by decide) (hts (.fieldLink RX5 51 "MissedPoints$Reader" "value" "I") (by decide +kernel)) (fun _ h9 => h9) rfl dX5_readPoint_14 ?_
    refine wk_any (fun r39961 => ?_)
    refine wk_sv 1 (As := [.int r39961]) (rest := []) ⟨hx, hb, hml, hown, hts⟩ (k_X2_hasPoint l D cI cS a na nc N L u hL hN r39961) hKK hP (ci := 2) rfl rfl (cwV 1 hts gX5_readPoint_X2_hasPoint rfl rfl rfl (by decide +kernel) ⟨Nat.le_of_ble_eq_true rfl, Nat.le_of_ble_eq_true rfl⟩) rfl hl.1 rfl (Nat.le_of_ble_eq_true rfl) dX5_readPoint_17 ⟨Nat.le_of_ble_eq_true rfl, Nat.le_of_ble_eq_true rfl⟩ (fun r39962 hr39962 => ?_)
    refine lv_if_eq (tgt := 34) hx hb dX5_readPoint_20 (by decide) (fun c39963 => ?_) (fun c39963 => ?_)
    · have g39964 : Rg 0 0 r39962 := wk_eql hr39962.1 (by decide : Rg 0 0 (0 : Int32)) c39963 (by decide)
      refine lv_aload_n hx hb dX5_readPoint_34 rfl (lv_at hl 0 rfl) ?_
      refine wk_qv (wX cI cS a na nc N L) u (As := []) (rest := []) ⟨hx, hb, hml, hown, hts⟩ (k_X5_fail l D cI cS _ a na nc N L u hL hN) hKK hP hD hS hA 23 (ci := 5) rfl rfl (cwV 0 hts gX5_readPoint_X5_fail rfl rfl rfl (by decide +kernel) ⟨Nat.le_of_ble_eq_true rfl, Nat.le_of_ble_eq_true rfl⟩) rfl hl.1 rfl (Nat.le_of_ble_eq_true rfl) dX5_readPoint_35 ⟨Nat.le_of_ble_eq_true rfl, Nat.le_of_ble_eq_true rfl⟩ (fun u H locs hr39965 hP hD hS => ?_)
      refine lv_iconst (v := (-1)) hx hb dX5_readPoint_38 (by decide) ?_
      subst hAe
      exact W.iret (v := (-1)) hx hb hr (fun t ht hW => ⟨⟨_, u, rfl, ⟨(by decide : Rg (-2147483648) 2147483647 ((-1) : Int32)), trivial⟩, by rw [ht]; exact hP, hD⟩, hS.F ht⟩) hS.2.2 dX5_readPoint_39
    · have g39966 : Rg 1 1 r39962 := rg_ne_lo (k := 0) hr39962.1 (by decide) c39963 (by decide)
      refine lv_iload_n hx hb dX5_readPoint_23 rfl (lv_at hl 1 rfl) ?_
      refine lv_aload_n hx hb dX5_readPoint_24 rfl (lv_at hl 0 rfl) ?_
      refine va_get (D := D) (ci := 5) (v := .int (u 23 6)) (C := RX5) (T := TX5) (N := 8) hx hb hts hin5 hown hK hP 23 rfl rfl 6 (by decide) (hts (.fieldLink RX5 51 "MissedPoints$Reader" "value" "I") (by decide +kernel)) (fun _ h9 => h9) rfl dX5_readPoint_25 ?_
      refine wk_any (fun r39967 => ?_)
      refine lv_ishr hx hb dX5_readPoint_28 ?_
      refine wk_topP (P := fun r => r = x0 >>> (r39967 &&& 31)) rfl (fun r39968 qr39968 => ?_)
      refine lv_iconst (v := 1) hx hb dX5_readPoint_29 (by decide) ?_
      refine wk_iandr hx hb dX5_readPoint_30 (by decide : Rg 1 1 (1 : Int32)) (by decide) (fun r39969 hr39969 qr39969 => ?_)
      refine lv_if_eq (tgt := 40) hx hb dX5_readPoint_31 (by decide) (fun c39970 => ?_) (fun c39970 => ?_)
      · have g39971 : Rg 0 0 r39969 := wk_eql hr39969 (by decide : Rg 0 0 (0 : Int32)) c39970 (by decide)
        refine lv_aload_n hx hb dX5_readPoint_40 rfl (lv_at hl 0 rfl) ?_
        refine va_get (D := D) (ci := 5) (v := .int (u 23 6)) (C := RX5) (T := TX5) (N := 8) hx hb hts hin5 hown hK hP 23 rfl rfl 6 (by decide) (hts (.fieldLink RX5 51 "MissedPoints$Reader" "value" "I") (by decide +kernel)) (fun _ h9 => h9) rfl dX5_readPoint_41 ?_
        refine wk_any (fun r39972 => ?_)
        refine lv_istore_n (lv' := [(2, .int r39972), (0, .ref (a 23)), (1, .int x0)]) hx hb dX5_readPoint_44 rfl hl (by decide) rfl (fun ls hl => ?_)
        refine lv_aload_n hx hb dX5_readPoint_45 rfl (lv_at hl 1 rfl) ?_
        refine wk_qv (wX cI cS a na nc N L) u (As := []) (rest := []) ⟨hx, hb, hml, hown, hts⟩ (k_X5_step l D cI cS _ a na nc N L u hL hN) hKK hP hD hS hA 23 (ci := 5) rfl rfl (cwV 0 hts gX5_readPoint_X5_step rfl rfl rfl (by decide +kernel) ⟨Nat.le_of_ble_eq_true rfl, Nat.le_of_ble_eq_true rfl⟩) rfl hl.1 rfl (Nat.le_of_ble_eq_true rfl) dX5_readPoint_46 ⟨Nat.le_of_ble_eq_true rfl, Nat.le_of_ble_eq_true rfl⟩ (fun u H locs hr39973 hP hD hS => ?_)
        refine lv_iload_n hx hb dX5_readPoint_49 rfl (lv_at hl 0 rfl) ?_
        subst hAe
        exact W.iret (v := r39972) hx hb hr (fun t ht hW => ⟨⟨_, u, rfl, ⟨(rg_any r39972), trivial⟩, by rw [ht]; exact hP, hD⟩, hS.F ht⟩) hS.2.2 dX5_readPoint_50
      · have g39974 : Rg 1 1 r39969 := rg_ne_lo (k := 0) hr39969 (by decide) c39970 (by decide)
        refine lv_aload_n hx hb dX5_readPoint_34 rfl (lv_at hl 0 rfl) ?_
        refine wk_qv (wX cI cS a na nc N L) u (As := []) (rest := []) ⟨hx, hb, hml, hown, hts⟩ (k_X5_fail l D cI cS _ a na nc N L u hL hN) hKK hP hD hS hA 23 (ci := 5) rfl rfl (cwV 0 hts gX5_readPoint_X5_fail rfl rfl rfl (by decide +kernel) ⟨Nat.le_of_ble_eq_true rfl, Nat.le_of_ble_eq_true rfl⟩) rfl hl.1 rfl (Nat.le_of_ble_eq_true rfl) dX5_readPoint_35 ⟨Nat.le_of_ble_eq_true rfl, Nat.le_of_ble_eq_true rfl⟩ (fun u H locs hr39975 hP hD hS => ?_)
        refine lv_iconst (v := (-1)) hx hb dX5_readPoint_38 (by decide) ?_
        subst hAe
        exact W.iret (v := (-1)) hx hb hr (fun t ht hW => ⟨⟨_, u, rfl, ⟨(by decide : Rg (-2147483648) 2147483647 ((-1) : Int32)), trivial⟩, by rw [ht]; exact hP, hD⟩, hS.F ht⟩) hS.2.2 dX5_readPoint_39
set_option maxRecDepth 20000 in
theorem ggX5_readRow_X5_joinEach : GoodIn wsX5_readRow wsX5_joinEach := goodIn_r _ [40, 7, 41, 9, 10, 11, 12, 13, 14, 42, 43, 44, 45, 46, 47, 48, 49, 50, 51, 52] rfl (by decide +kernel)
set_option maxRecDepth 20000 in
theorem gX5_readRow_X5_joinEach : GoodIn wsX5_readRow (wsV RX5 67 RX5 yX5_joinEach wsX5_joinEach) := goodIn_app (goodIn_of _ (by decide +kernel)) ggX5_readRow_X5_joinEach
set_option maxRecDepth 20000 in
theorem ggX5_readRow_X5_readPoint : GoodIn wsX5_readRow wsX5_readPoint := goodIn_r _ [6, 1, 7, 8, 9, 10, 11, 12, 13, 14, 15, 16, 17, 5, 18, 19, 20, 21, 22, 23, 24, 25, 26, 27, 28, 29, 30, 31, 32, 33, 34, 35, 36, 42, 43, 44, 45, 46, 47, 48, 49, 50, 51, 52, 53, 54] rfl (by decide +kernel)
set_option maxRecDepth 20000 in
theorem gX5_readRow_X5_readPoint : GoodIn wsX5_readRow (wsV RX5 64 RX5 yX5_readPoint wsX5_readPoint) := goodIn_app (goodIn_of _ (by decide +kernel)) ggX5_readRow_X5_readPoint
set_option maxRecDepth 20000 in
theorem ggX5_readRow_X5_step : GoodIn wsX5_readRow wsX5_step := goodIn_r _ [24, 25, 26, 20, 8, 1, 27, 28, 29, 30, 31, 32, 33, 34, 35, 5, 36, 42, 43, 44, 45, 46, 47, 48, 49, 53, 54] rfl (by decide +kernel)
set_option maxRecDepth 20000 in
theorem gX5_readRow_X5_step : GoodIn wsX5_readRow (wsV RX5 30 RX5 yX5_step wsX5_step) := goodIn_app (goodIn_of _ (by decide +kernel)) ggX5_readRow_X5_step
theorem dX5_readRow_0 : decode cX5_readRow 0 = .ok (.aload_n 0, 1) := by decide +kernel
theorem dX5_readRow_1 : decode cX5_readRow 1 = .ok (.iconst 0, 1) := by decide +kernel
theorem dX5_readRow_11 : decode cX5_readRow 11 = .ok (.if_icmp .ge 44, 3) := by decide +kernel
theorem dX5_readRow_14 : decode cX5_readRow 14 = .ok (.iload_n 1, 1) := by decide +kernel
theorem dX5_readRow_15 : decode cX5_readRow 15 = .ok (.ifCond .lt 40, 3) := by decide +kernel
theorem dX5_readRow_18 : decode cX5_readRow 18 = .ok (.aload_n 0, 1) := by decide +kernel
theorem dX5_readRow_19 : decode cX5_readRow 19 = .ok (.getfield 36, 3) := by decide +kernel
theorem dX5_readRow_2 : decode cX5_readRow 2 = .ok (.invokevirtual 64, 3) := by decide +kernel
theorem dX5_readRow_22 : decode cX5_readRow 22 = .ok (.bipush 45, 2) := by decide +kernel
theorem dX5_readRow_24 : decode cX5_readRow 24 = .ok (.if_icmp .ne 31, 3) := by decide +kernel
theorem dX5_readRow_27 : decode cX5_readRow 27 = .ok (.aload_n 0, 1) := by decide +kernel
theorem dX5_readRow_28 : decode cX5_readRow 28 = .ok (.invokevirtual 30, 3) := by decide +kernel
theorem dX5_readRow_31 : decode cX5_readRow 31 = .ok (.aload_n 0, 1) := by decide +kernel
theorem dX5_readRow_32 : decode cX5_readRow 32 = .ok (.iconst 1, 1) := by decide +kernel
theorem dX5_readRow_33 : decode cX5_readRow 33 = .ok (.iload_n 1, 1) := by decide +kernel
theorem dX5_readRow_34 : decode cX5_readRow 34 = .ok (.ishl, 1) := by decide +kernel
theorem dX5_readRow_35 : decode cX5_readRow 35 = .ok (.invokevirtual 64, 3) := by decide +kernel
theorem dX5_readRow_38 : decode cX5_readRow 38 = .ok (.istore_n 3, 1) := by decide +kernel
theorem dX5_readRow_39 : decode cX5_readRow 39 = .ok (.aload_n 0, 1) := by decide +kernel
theorem dX5_readRow_40 : decode cX5_readRow 40 = .ok (.iconst 1, 1) := by decide +kernel
theorem dX5_readRow_41 : decode cX5_readRow 41 = .ok (.iload_n 1, 1) := by decide +kernel
theorem dX5_readRow_42 : decode cX5_readRow 42 = .ok (.ishl, 1) := by decide +kernel
theorem dX5_readRow_43 : decode cX5_readRow 43 = .ok (.iload_n 3, 1) := by decide +kernel
theorem dX5_readRow_44 : decode cX5_readRow 44 = .ok (.invokevirtual 67, 3) := by decide +kernel
theorem dX5_readRow_47 : decode cX5_readRow 47 = .ok (.iload_n 3, 1) := by decide +kernel
theorem dX5_readRow_48 : decode cX5_readRow 48 = .ok (.istore_n 1, 1) := by decide +kernel
theorem dX5_readRow_49 : decode cX5_readRow 49 = .ok (.iinc 2 1, 3) := by decide +kernel
theorem dX5_readRow_5 : decode cX5_readRow 5 = .ok (.istore_n 1, 1) := by decide +kernel
theorem dX5_readRow_52 : decode cX5_readRow 52 = .ok (.goto (-44), 3) := by decide +kernel
theorem dX5_readRow_55 : decode cX5_readRow 55 = .ok (.return_, 1) := by decide +kernel
theorem dX5_readRow_6 : decode cX5_readRow 6 = .ok (.iconst 0, 1) := by decide +kernel
theorem dX5_readRow_7 : decode cX5_readRow 7 = .ok (.istore_n 2, 1) := by decide +kernel
theorem dX5_readRow_8 : decode cX5_readRow 8 = .ok (.iload_n 2, 1) := by decide +kernel
theorem dX5_readRow_9 : decode cX5_readRow 9 = .ok (.bipush 120, 2) := by decide +kernel
set_option maxHeartbeats 4000000 in
set_option maxRecDepth 100000 in
theorem k_X5_readRow (l : Launch) (D : va_G) (cI cS : ClassId) (sz : Nat) (a : Nat → Nat) (na nc N : Nat) (L u0 : SU) (hL : TyX L) (hN : N = 0 ∨ N = 24576) : Met l yX5_readRow wsX5_readRow ({ frames := 3, cells := 0, slots := 0, locals := 120 }) (PQ D cI cS (wX cI cS a na nc N L u0) sz [.ref (a 23)]) (QE (S := SU) D (wX cI cS a na nc N L u0) (wX cI cS a na nc N L) sz (fun _ => True)) 0 0 (va_A (wX cI cS a na nc N L u0) sz) := by
  refine Met.ofW (cc := cX5_readRow) (maxL := 4) (ret := none) (by decide) rfl ?_
  intro p e s m args below meth c s₁ B hml hv
  obtain ⟨rfl, hsz, hP, hKK, hD0⟩ := hv
  have hx := B.exec
  have hb := B.bytes
  have hr := B.returns
  have hts := atoms_spec (ws := wsX5_readRow) B.pre
  have hown : s.vm.findClass RX5 = some m.cls := findClass_of_methodNamed B.named
  have hlocks := B.notSynchronized
  have hK := hKK.1
  have hin5 : ∀ w ∈ wsX50, w ∈ wsX5_readRow := by decide +kernel
  subst hsz
  have hD := hD0.self (sz := s.heap.size)
  obtain ⟨A, hAe⟩ : ∃ A, A = va_A (wX cI cS a na nc N L u0) s.heap.size := ⟨_, rfl⟩
  rw [← hAe] at hD
  have hA : ∀ q : Nat, s.heap.size ≤ q → A q := fun q h => by rw [hAe]; exact Or.inr h
  have hS : va_S A s.heap s.heap [] := va_S.rf
  have hl := lv_entry ([.ref (a 23)]) (n := 4) (Nat.le_of_ble_eq_true rfl)
  rw [lg_entry_eq]
  generalize (lg_sl ([.ref (a 23)]) ++ List.replicate (4 - (lg_sl ([.ref (a 23)])).length) Slot.unset).toArray = ls at hl ⊢
  have hl : lv_has ls 4 [(0, .ref (a 23))] := hl
  obtain ⟨u, hu9⟩ : ∃ u : SU, u = u0 := ⟨_, rfl⟩
  rw [← hu9] at hP hD
  have lp8 : ∀ (n8 : Nat) (y8_l1 : Int32) (y8_l2 : Int32) (u : SU) (H : Heap) (locs : List Loc) (ls : Array Slot), Rg 0 120 y8_l2 → va_P D cls (wX cI cS a na nc N L u) H → va_D A (wX cI cS a na nc N L u) → va_S A s.heap H locs → lv_has ls 4 [(0, .ref (a 23)), (1, .int y8_l1), (2, .int y8_l2)] → 120 - y8_l2.toInt < (n8 : Int) → W p l e (headSpec wsX5_readRow ({ frames := 3, cells := 0, slots := 0, locals := 120 })).room s m ([.ref (a 23)]).toArray below meth c H locs 0 0 (MQ below (QE (S := SU) D (wX cI cS a na nc N L u0) (wX cI cS a na nc N L) s.heap.size (fun _ => True)) ([.ref (a 23)]).toArray s 0 0 (va_A (wX cI cS a na nc N L u0) s.heap.size)) (F0 m 8 ls []) := by
    intro n8
    induction n8 with
    | zero =>
      intro y8_l1 y8_l2 u H locs ls g8_l2 hP hD hS hl hm8
      exact absurd rfl (me_z g8_l2 hm8)
    | succ n8 ih8 =>
      intro y8_l1 y8_l2 u H locs ls g8_l2 hP hD hS hl hm8
      refine lv_iload_n hx hb dX5_readRow_8 rfl (lv_at hl 2 rfl) ?_
      refine lv_bipush (v := 120) hx hb dX5_readRow_9 (by decide) ?_
      refine lv_icmp_ge (tgt := 55) hx hb dX5_readRow_11 (by decide) (fun c40230 => ?_) (fun c40230 => ?_)
      · have g40231 : Rg 120 120 y8_l2 := rg_ler (by decide : Rg 120 120 (120 : Int32)) g8_l2 c40230 (by decide)
        subst hAe
        exact W.vret hx hb hr (fun t ht hW => ⟨⟨u, rfl, trivial, by rw [ht]; exact hP, hD⟩, hS.F ht⟩) hS.2.2 dX5_readRow_55
      · have g40232 : Rg 0 119 y8_l2 := rg_ltl g8_l2 (by decide : Rg 120 120 (120 : Int32)) (rg_nle c40230) (by decide)
        refine lv_iload_n hx hb dX5_readRow_14 rfl (lv_at hl 1 rfl) ?_
        refine lv_if_lt (tgt := 55) hx hb dX5_readRow_15 (by decide) (fun c40233 => ?_) (fun c40233 => ?_)
        · have g40234 : Rg (-2147483648) (-1) y8_l1 := rg_ltl (rg_any y8_l1) (by decide : Rg 0 0 (0 : Int32)) c40233 (by decide)
          subst hAe
          exact W.vret hx hb hr (fun t ht hW => ⟨⟨u, rfl, trivial, by rw [ht]; exact hP, hD⟩, hS.F ht⟩) hS.2.2 dX5_readRow_55
        · have g40235 : Rg 0 2147483647 y8_l1 := rg_ler (by decide : Rg 0 0 (0 : Int32)) (rg_any y8_l1) (rg_nlt c40233) (by decide)
          refine lv_aload_n hx hb dX5_readRow_18 rfl (lv_at hl 0 rfl) ?_
          refine va_get (D := D) (ci := 5) (v := .int (u 23 5)) (C := RX5) (T := TX5) (N := 8) hx hb hts hin5 hown hK hP 23 rfl rfl 5 (by decide) (hts (.fieldLink RX5 36 "MissedPoints$Reader" "token" "I") (by decide +kernel)) (fun _ h9 => h9) rfl dX5_readRow_19 ?_
          refine wk_any (fun r40236 => ?_)
          refine lv_bipush (v := 45) hx hb dX5_readRow_22 (by decide) ?_
          refine lv_icmp_ne (tgt := 55) hx hb dX5_readRow_24 (by decide) (fun c40237 => ?_) (fun c40237 => ?_)
          · subst hAe
            exact W.vret hx hb hr (fun t ht hW => ⟨⟨u, rfl, trivial, by rw [ht]; exact hP, hD⟩, hS.F ht⟩) hS.2.2 dX5_readRow_55
          · have g40238 : Rg 45 45 r40236 := wk_eql (rg_any r40236) (by decide : Rg 45 45 (45 : Int32)) c40237 (by decide)
            refine lv_aload_n hx hb dX5_readRow_27 rfl (lv_at hl 0 rfl) ?_
            refine wk_qv (wX cI cS a na nc N L) u (As := []) (rest := []) ⟨hx, hb, hml, hown, hts⟩ (k_X5_step l D cI cS _ a na nc N L u hL hN) hKK hP hD hS hA 23 (ci := 5) rfl rfl (cwV 0 hts gX5_readRow_X5_step rfl rfl rfl (by decide +kernel) ⟨Nat.le_of_ble_eq_true rfl, Nat.le_of_ble_eq_true rfl⟩) rfl hl.1 rfl (Nat.le_of_ble_eq_true rfl) dX5_readRow_28 ⟨Nat.le_of_ble_eq_true rfl, Nat.le_of_ble_eq_true rfl⟩ (fun u H locs hr40239 hP hD hS => ?_)
            refine lv_aload_n hx hb dX5_readRow_31 rfl (lv_at hl 0 rfl) ?_
            refine lv_iconst (v := 1) hx hb dX5_readRow_32 (by decide) ?_
            refine lv_iload_n hx hb dX5_readRow_33 rfl (lv_at hl 1 rfl) ?_
            refine lv_ishl hx hb dX5_readRow_34 ?_
            refine wk_topP (P := fun r => r = (1 : Int32) <<< (y8_l1 &&& 31)) rfl (fun r40240 qr40240 => ?_)
            refine wk_qi (wX cI cS a na nc N L) u (As := [.int r40240]) (rest := []) ⟨hx, hb, hml, hown, hts⟩ (k_X5_readPoint l D cI cS _ a na nc N L u hL hN r40240) hKK hP hD hS hA 23 (ci := 5) rfl rfl (cwV 1 hts gX5_readRow_X5_readPoint rfl rfl rfl (by decide +kernel) ⟨Nat.le_of_ble_eq_true rfl, Nat.le_of_ble_eq_true rfl⟩) rfl hl.1 rfl (Nat.le_of_ble_eq_true rfl) dX5_readRow_35 ⟨Nat.le_of_ble_eq_true rfl, Nat.le_of_ble_eq_true rfl⟩ (fun r40241 u H locs hr40241 hP hD hS => ?_)
            refine lv_istore_n (lv' := [(3, .int r40241), (0, .ref (a 23)), (1, .int y8_l1), (2, .int y8_l2)]) hx hb dX5_readRow_38 rfl hl (by decide) rfl (fun ls hl => ?_)
            refine lv_aload_n hx hb dX5_readRow_39 rfl (lv_at hl 1 rfl) ?_
            refine lv_iconst (v := 1) hx hb dX5_readRow_40 (by decide) ?_
            refine lv_iload_n hx hb dX5_readRow_41 rfl (lv_at hl 2 rfl) ?_
            refine lv_ishl hx hb dX5_readRow_42 ?_
            refine wk_topP (P := fun r => r = (1 : Int32) <<< (y8_l1 &&& 31)) rfl (fun r40242 qr40242 => ?_)
            refine lv_iload_n hx hb dX5_readRow_43 rfl (lv_at hl 0 rfl) ?_
            refine wk_qv (wX cI cS a na nc N L) u (As := [.int r40242, .int r40241]) (rest := []) ⟨hx, hb, hml, hown, hts⟩ (k_X5_joinEach l D cI cS _ a na nc N L u hL hN r40242 r40241) hKK hP hD hS hA 23 (ci := 5) rfl rfl (cwV 2 hts gX5_readRow_X5_joinEach rfl rfl rfl (by decide +kernel) ⟨Nat.le_of_ble_eq_true rfl, Nat.le_of_ble_eq_true rfl⟩) rfl hl.1 rfl (Nat.le_of_ble_eq_true rfl) dX5_readRow_44 ⟨Nat.le_of_ble_eq_true rfl, Nat.le_of_ble_eq_true rfl⟩ (fun u H locs hr40243 hP hD hS => ?_)
            refine lv_iload_n hx hb dX5_readRow_47 rfl (lv_at hl 0 rfl) ?_
            refine lv_istore_n (lv' := [(1, .int r40241), (3, .int r40241), (0, .ref (a 23)), (2, .int y8_l2)]) hx hb dX5_readRow_48 rfl hl (by decide) rfl (fun ls hl => ?_)
            refine wk_iinc (lv' := fun r => [(2, .int r), (1, .int r40241), (3, .int r40241), (0, .ref (a 23))]) (e1 := 1) (f := 120) hx hb dX5_readRow_49 hl (k := 3) rfl (by decide) g40232 (by decide) (fun _ => rfl) (fun r40244 ls hr40244 er40244 hl => ?_)
            refine lv_goto (tgt := 8) hx hb dX5_readRow_52 (by decide) ?_
            exact ih8 r40241 r40244 u _ _ ls (show Rg 0 120 r40244 from rg_w hr40244 (by decide) (by decide)) hP hD hS (lv_sub (l' := [(0, .ref (a 23)), (1, .int r40241), (2, .int r40244)]) hl [3, 1, 0] rfl) (me_up hm8 er40244 (by decide))
  refine lv_aload_n hx hb dX5_readRow_0 rfl (lv_at hl 0 rfl) ?_
  refine lv_iconst (v := 0) hx hb dX5_readRow_1 (by decide) ?_
  refine wk_qi (wX cI cS a na nc N L) u (As := [.int 0]) (rest := []) ⟨hx, hb, hml, hown, hts⟩ (k_X5_readPoint l D cI cS _ a na nc N L u hL hN (0 : Int32)) hKK hP hD hS hA 23 (ci := 5) rfl rfl (cwV 1 hts gX5_readRow_X5_readPoint rfl rfl rfl (by decide +kernel) ⟨Nat.le_of_ble_eq_true rfl, Nat.le_of_ble_eq_true rfl⟩) rfl hl.1 rfl (Nat.le_of_ble_eq_true rfl) dX5_readRow_2 ⟨Nat.le_of_ble_eq_true rfl, Nat.le_of_ble_eq_true rfl⟩ (fun r40245 u H locs hr40245 hP hD hS => ?_)
  refine lv_istore_n (lv' := [(1, .int r40245), (0, .ref (a 23))]) hx hb dX5_readRow_5 rfl hl (by decide) rfl (fun ls hl => ?_)
  refine lv_iconst (v := 0) hx hb dX5_readRow_6 (by decide) ?_
  refine lv_istore_n (lv' := [(2, .int 0), (1, .int r40245), (0, .ref (a 23))]) hx hb dX5_readRow_7 rfl hl (by decide) rfl (fun ls hl => ?_)
  exact lp8 121 r40245 (0 : Int32) u _ _ ls (by decide : Rg 0 120 (0 : Int32)) hP hD hS (lv_sub (l' := [(0, .ref (a 23)), (1, .int r40245), (2, .int 0)]) hl [2, 1, 0] rfl) (me_i (by decide : Rg 0 120 (0 : Int32)) (by decide))
