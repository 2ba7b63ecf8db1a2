set_option maxRecDepth 20000 in
theorem ggX5_readBrackets_J6_bitCount_0f7a4 : GoodIn wsX5_readBrackets wsJ6_bitCount_0f7a4 := goodIn_r _ [45, 46, 47, 48] (by decide +kernel) (by decide +kernel)
set_option maxRecDepth 20000 in
theorem gX5_readBrackets_J6_bitCount_0f7a4 : GoodIn wsX5_readBrackets (va_wsS RX5 70 yJ6_bitCount_0f7a4 wsJ6_bitCount_0f7a4) := goodIn_app (goodIn_of _ (by decide +kernel)) ggX5_readBrackets_J6_bitCount_0f7a4
set_option maxRecDepth 20000 in
theorem ggX5_readBrackets_X5_fail : GoodIn wsX5_readBrackets wsX5_fail := goodIn_r _ [36, 1, 10, 49, 50, 51, 52, 53, 54, 55, 56] (by decide +kernel) (by decide +kernel)
set_option maxRecDepth 20000 in
theorem gX5_readBrackets_X5_fail : GoodIn wsX5_readBrackets (wsV RX5 39 RX5 yX5_fail wsX5_fail) := goodIn_app (goodIn_of _ (by decide +kernel)) ggX5_readBrackets_X5_fail
set_option maxRecDepth 20000 in
theorem ggX5_readBrackets_X5_joinEach : GoodIn wsX5_readBrackets wsX5_joinEach := goodIn_r _ [40, 26, 41, 27, 28, 29, 30, 31, 32, 49, 50, 51, 52, 53, 54, 55, 56, 59, 60, 61] (by decide +kernel) (by decide +kernel)
set_option maxRecDepth 20000 in
theorem gX5_readBrackets_X5_joinEach : GoodIn wsX5_readBrackets (wsV RX5 67 RX5 yX5_joinEach wsX5_joinEach) := goodIn_app (goodIn_of _ (by decide +kernel)) ggX5_readBrackets_X5_joinEach
set_option maxRecDepth 20000 in
theorem ggX5_readBrackets_X5_readPoint : GoodIn wsX5_readBrackets wsX5_readPoint := goodIn_r _ [25, 2, 26, 11, 27, 28, 29, 30, 31, 32, 33, 34, 35, 6, 36, 1, 10, 3, 4, 5, 7, 8, 9, 12, 13, 14, 15, 16, 17, 18, 19, 20, 21, 49, 50, 51, 52, 53, 54, 55, 56, 59, 60, 61, 57, 58] (by decide +kernel) (by decide +kernel)
set_option maxRecDepth 20000 in
theorem gX5_readBrackets_X5_readPoint : GoodIn wsX5_readBrackets (wsV RX5 64 RX5 yX5_readPoint wsX5_readPoint) := goodIn_app (goodIn_of _ (by decide +kernel)) ggX5_readBrackets_X5_readPoint
set_option maxRecDepth 20000 in
theorem ggX5_readBrackets_X5_step : GoodIn wsX5_readBrackets wsX5_step := goodIn_r _ [7, 8, 9, 10, 11, 2, 12, 13, 14, 15, 16, 17, 18, 19, 20, 6, 21, 49, 50, 51, 52, 53, 54, 55, 56, 57, 58] (by decide +kernel) (by decide +kernel)
set_option maxRecDepth 20000 in
theorem gX5_readBrackets_X5_step : GoodIn wsX5_readBrackets (wsV RX5 30 RX5 yX5_step wsX5_step) := goodIn_app (goodIn_of _ (by decide +kernel)) ggX5_readBrackets_X5_step
theorem dX5_readBrackets_0 : decode cX5_readBrackets 0 = .ok (.iload_n 2, 1) := by decide +kernel
theorem dX5_readBrackets_1 : decode cX5_readBrackets 1 = .ok (.bipush 41, 2) := by decide +kernel
theorem dX5_readBrackets_10 : decode cX5_readBrackets 10 = .ok (.iconst 0, 1) := by decide +kernel
theorem dX5_readBrackets_101 : decode cX5_readBrackets 101 = .ok (.iload 4, 2) := by decide +kernel
theorem dX5_readBrackets_103 : decode cX5_readBrackets 103 = .ok (.istore 4, 2) := by decide +kernel
theorem dX5_readBrackets_105 : decode cX5_readBrackets 105 = .ok (.iload 6, 2) := by decide +kernel
theorem dX5_readBrackets_107 : decode cX5_readBrackets 107 = .ok (.iload 5, 2) := by decide +kernel
theorem dX5_readBrackets_109 : decode cX5_readBrackets 109 = .ok (.ior, 1) := by decide +kernel
theorem dX5_readBrackets_11 : decode cX5_readBrackets 11 = .ok (.istore_n 3, 1) := by decide +kernel
theorem dX5_readBrackets_110 : decode cX5_readBrackets 110 = .ok (.istore 6, 2) := by decide +kernel
theorem dX5_readBrackets_112 : decode cX5_readBrackets 112 = .ok (.iinc 8 1, 3) := by decide +kernel
theorem dX5_readBrackets_115 : decode cX5_readBrackets 115 = .ok (.goto (-84), 3) := by decide +kernel
theorem dX5_readBrackets_118 : decode cX5_readBrackets 118 = .ok (.iload 6, 2) := by decide +kernel
theorem dX5_readBrackets_12 : decode cX5_readBrackets 12 = .ok (.iconst 0, 1) := by decide +kernel
theorem dX5_readBrackets_120 : decode cX5_readBrackets 120 = .ok (.invokestatic 70, 3) := by decide +kernel
theorem dX5_readBrackets_123 : decode cX5_readBrackets 123 = .ok (.iload_n 1, 1) := by decide +kernel
theorem dX5_readBrackets_124 : decode cX5_readBrackets 124 = .ok (.if_icmp .lt 11, 3) := by decide +kernel
theorem dX5_readBrackets_127 : decode cX5_readBrackets 127 = .ok (.aload_n 0, 1) := by decide +kernel
theorem dX5_readBrackets_128 : decode cX5_readBrackets 128 = .ok (.getfield 36, 3) := by decide +kernel
theorem dX5_readBrackets_13 : decode cX5_readBrackets 13 = .ok (.istore 4, 2) := by decide +kernel
theorem dX5_readBrackets_131 : decode cX5_readBrackets 131 = .ok (.iload_n 2, 1) := by decide +kernel
theorem dX5_readBrackets_132 : decode cX5_readBrackets 132 = .ok (.if_icmp .eq 8, 3) := by decide +kernel
theorem dX5_readBrackets_135 : decode cX5_readBrackets 135 = .ok (.aload_n 0, 1) := by decide +kernel
theorem dX5_readBrackets_136 : decode cX5_readBrackets 136 = .ok (.invokevirtual 39, 3) := by decide +kernel
theorem dX5_readBrackets_139 : decode cX5_readBrackets 139 = .ok (.return_, 1) := by decide +kernel
theorem dX5_readBrackets_140 : decode cX5_readBrackets 140 = .ok (.iload_n 3, 1) := by decide +kernel
theorem dX5_readBrackets_141 : decode cX5_readBrackets 141 = .ok (.ifCond .eq 11, 3) := by decide +kernel
theorem dX5_readBrackets_144 : decode cX5_readBrackets 144 = .ok (.aload_n 0, 1) := by decide +kernel
theorem dX5_readBrackets_145 : decode cX5_readBrackets 145 = .ok (.iload 4, 2) := by decide +kernel
theorem dX5_readBrackets_147 : decode cX5_readBrackets 147 = .ok (.iload 7, 2) := by decide +kernel
theorem dX5_readBrackets_149 : decode cX5_readBrackets 149 = .ok (.invokevirtual 67, 3) := by decide +kernel
theorem dX5_readBrackets_15 : decode cX5_readBrackets 15 = .ok (.iconst 0, 1) := by decide +kernel
theorem dX5_readBrackets_152 : decode cX5_readBrackets 152 = .ok (.aload_n 0, 1) := by decide +kernel
theorem dX5_readBrackets_153 : decode cX5_readBrackets 153 = .ok (.invokevirtual 30, 3) := by decide +kernel
theorem dX5_readBrackets_156 : decode cX5_readBrackets 156 = .ok (.return_, 1) := by decide +kernel
theorem dX5_readBrackets_16 : decode cX5_readBrackets 16 = .ok (.istore 5, 2) := by decide +kernel
theorem dX5_readBrackets_18 : decode cX5_readBrackets 18 = .ok (.iconst 0, 1) := by decide +kernel
theorem dX5_readBrackets_19 : decode cX5_readBrackets 19 = .ok (.istore 6, 2) := by decide +kernel
theorem dX5_readBrackets_21 : decode cX5_readBrackets 21 = .ok (.iconst (-1), 1) := by decide +kernel
theorem dX5_readBrackets_22 : decode cX5_readBrackets 22 = .ok (.istore 7, 2) := by decide +kernel
theorem dX5_readBrackets_24 : decode cX5_readBrackets 24 = .ok (.aload_n 0, 1) := by decide +kernel
theorem dX5_readBrackets_25 : decode cX5_readBrackets 25 = .ok (.invokevirtual 30, 3) := by decide +kernel
theorem dX5_readBrackets_28 : decode cX5_readBrackets 28 = .ok (.iconst 0, 1) := by decide +kernel
theorem dX5_readBrackets_29 : decode cX5_readBrackets 29 = .ok (.istore 8, 2) := by decide +kernel
theorem dX5_readBrackets_3 : decode cX5_readBrackets 3 = .ok (.if_icmp .ne 7, 3) := by decide +kernel
theorem dX5_readBrackets_31 : decode cX5_readBrackets 31 = .ok (.iload 8, 2) := by decide +kernel
theorem dX5_readBrackets_33 : decode cX5_readBrackets 33 = .ok (.bipush 120, 2) := by decide +kernel
theorem dX5_readBrackets_35 : decode cX5_readBrackets 35 = .ok (.if_icmp .ge 83, 3) := by decide +kernel
theorem dX5_readBrackets_38 : decode cX5_readBrackets 38 = .ok (.aload_n 0, 1) := by decide +kernel
theorem dX5_readBrackets_39 : decode cX5_readBrackets 39 = .ok (.getfield 27, 3) := by decide +kernel
theorem dX5_readBrackets_42 : decode cX5_readBrackets 42 = .ok (.ifCond .ge 76, 3) := by decide +kernel
theorem dX5_readBrackets_45 : decode cX5_readBrackets 45 = .ok (.aload_n 0, 1) := by decide +kernel
theorem dX5_readBrackets_46 : decode cX5_readBrackets 46 = .ok (.getfield 36, 3) := by decide +kernel
theorem dX5_readBrackets_49 : decode cX5_readBrackets 49 = .ok (.bipush (-2), 2) := by decide +kernel
theorem dX5_readBrackets_51 : decode cX5_readBrackets 51 = .ok (.if_icmp .ne 67, 3) := by decide +kernel
theorem dX5_readBrackets_54 : decode cX5_readBrackets 54 = .ok (.aload_n 0, 1) := by decide +kernel
theorem dX5_readBrackets_55 : decode cX5_readBrackets 55 = .ok (.iload 6, 2) := by decide +kernel
theorem dX5_readBrackets_57 : decode cX5_readBrackets 57 = .ok (.invokevirtual 64, 3) := by decide +kernel
theorem dX5_readBrackets_6 : decode cX5_readBrackets 6 = .ok (.iconst 1, 1) := by decide +kernel
theorem dX5_readBrackets_60 : decode cX5_readBrackets 60 = .ok (.istore 7, 2) := by decide +kernel
theorem dX5_readBrackets_62 : decode cX5_readBrackets 62 = .ok (.iload 7, 2) := by decide +kernel
theorem dX5_readBrackets_64 : decode cX5_readBrackets 64 = .ok (.ifCond .ge 4, 3) := by decide +kernel
theorem dX5_readBrackets_67 : decode cX5_readBrackets 67 = .ok (.return_, 1) := by decide +kernel
theorem dX5_readBrackets_68 : decode cX5_readBrackets 68 = .ok (.aload_n 0, 1) := by decide +kernel
theorem dX5_readBrackets_69 : decode cX5_readBrackets 69 = .ok (.iload_n 3, 1) := by decide +kernel
theorem dX5_readBrackets_7 : decode cX5_readBrackets 7 = .ok (.goto 4, 3) := by decide +kernel
theorem dX5_readBrackets_70 : decode cX5_readBrackets 70 = .ok (.ifCond .eq 8, 3) := by decide +kernel
theorem dX5_readBrackets_73 : decode cX5_readBrackets 73 = .ok (.iload 5, 2) := by decide +kernel
theorem dX5_readBrackets_75 : decode cX5_readBrackets 75 = .ok (.goto 5, 3) := by decide +kernel
theorem dX5_readBrackets_78 : decode cX5_readBrackets 78 = .ok (.iload 6, 2) := by decide +kernel
theorem dX5_readBrackets_80 : decode cX5_readBrackets 80 = .ok (.iload 7, 2) := by decide +kernel
theorem dX5_readBrackets_82 : decode cX5_readBrackets 82 = .ok (.invokevirtual 67, 3) := by decide +kernel
theorem dX5_readBrackets_85 : decode cX5_readBrackets 85 = .ok (.iconst 1, 1) := by decide +kernel
theorem dX5_readBrackets_86 : decode cX5_readBrackets 86 = .ok (.iload 7, 2) := by decide +kernel
theorem dX5_readBrackets_88 : decode cX5_readBrackets 88 = .ok (.ishl, 1) := by decide +kernel
theorem dX5_readBrackets_89 : decode cX5_readBrackets 89 = .ok (.istore 5, 2) := by decide +kernel
theorem dX5_readBrackets_91 : decode cX5_readBrackets 91 = .ok (.iload 6, 2) := by decide +kernel
theorem dX5_readBrackets_93 : decode cX5_readBrackets 93 = .ok (.ifCond .ne 8, 3) := by decide +kernel
theorem dX5_readBrackets_96 : decode cX5_readBrackets 96 = .ok (.iload 5, 2) := by decide +kernel
theorem dX5_readBrackets_98 : decode cX5_readBrackets 98 = .ok (.goto 5, 3) := by decide +kernel
set_option maxHeartbeats 4000000 in
set_option maxRecDepth 100000 in
theorem k_X5_readBrackets (l : Launch) (D : va_G) (cI cS : ClassId) (sz : Nat) (a : Nat → Nat) (na nc N : Nat) (L u0 : SU) (hL : TyX L) (hN : N = 0 ∨ N = 24576) (x0 x1 : Int32) : Met l yX5_readBrackets wsX5_readBrackets ({ frames := 3, cells := 0, slots := 0, locals := 120 }) (PQ D cI cS (wX cI cS a na nc N L u0) sz [.ref (a 23), .int x0, .int x1]) (QE (S := SU) D (wX cI cS a na nc N L u0) (wX cI cS a na nc N L) sz (fun _ => True)) 0 0 (va_A (wX cI cS a na nc N L u0) sz) := by
  refine Met.ofW (cc := cX5_readBrackets) (maxL := 9) (ret := none) (by decide) rfl ?_
  intro p e s m args below meth c s₁ B hml hv
  obtain ⟨rfl, hsz, hP, hKK, hD0⟩ := hv
  have hx := B.exec
  have hb := B.bytes
  have hr := B.returns
  have hts := atoms_spec (ws := wsX5_readBrackets) B.pre
  have hown : s.vm.findClass RX5 = some m.cls := findClass_of_methodNamed B.named
  have hlocks := B.notSynchronized
  have hK := hKK.1
  have hin5 : ∀ w ∈ wsX50, w ∈ wsX5_readBrackets := by decide +kernel
  subst hsz
  have hD := hD0.self (sz := s.heap.size)
  obtain ⟨A, hAe⟩ : ∃ A, A = va_A (wX cI cS a na nc N L u0) s.heap.size := ⟨_, rfl⟩
  rw [← hAe] at hD
  have hA : ∀ q : Nat, s.heap.size ≤ q → A q := fun q h => by rw [hAe]; exact Or.inr h
  have hS : va_S A s.heap s.heap [] := va_S.rf
  have hl := lv_entry ([.ref (a 23), .int x0, .int x1]) (n := 9) (Nat.le_of_ble_eq_true rfl)
  rw [lg_entry_eq]
  generalize (lg_sl ([.ref (a 23), .int x0, .int x1]) ++ List.replicate (9 - (lg_sl ([.ref (a 23), .int x0, .int x1])).length) Slot.unset).toArray = ls at hl ⊢
  have hl : lv_has ls 9 [(0, .ref (a 23)), (1, .int x0), (2, .int x1)] := hl
  obtain ⟨u, hu9⟩ : ∃ u : SU, u = u0 := ⟨_, rfl⟩
  rw [← hu9] at hP hD
  have ct118 : ∀ (y118_l3 : Int32) (y118_l4 : Int32) (y118_l6 : Int32) (y118_l7 : Int32) (u : SU) (H : Heap) (locs : List Loc) (ls : Array Slot), Rg 0 1 y118_l3 → Rg (-1) 2147483647 y118_l7 → va_P D cls (wX cI cS a na nc N L u) H → va_D A (wX cI cS a na nc N L u) → va_S A s.heap H locs → lv_has ls 9 [(0, .ref (a 23)), (1, .int x0), (2, .int x1), (3, .int y118_l3), (4, .int y118_l4), (6, .int y118_l6), (7, .int y118_l7)] → W p l e (headSpec wsX5_readBrackets ({ frames := 3, cells := 0, slots := 0, locals := 120 })).room s m ([.ref (a 23), .int x0, .int x1]).toArray below meth c H locs 0 0 (MQ below (QE (S := SU) D (wX cI cS a na nc N L u0) (wX cI cS a na nc N L) s.heap.size (fun _ => True)) ([.ref (a 23), .int x0, .int x1]).toArray s 0 0 (va_A (wX cI cS a na nc N L u0) s.heap.size)) (F0 m 118 ls []) := by
    intro y118_l3 y118_l4 y118_l6 y118_l7 u H locs ls g118_l3 g118_l7 hP hD hS hl
    refine lv_iload hx hb dX5_readBrackets_118 (lv_at hl 5 rfl) ?_
    refine lz_ss (As := [.int y118_l6]) (rest := []) ⟨hx, hb, hml, hown, hts⟩ (k_J6_bitCount_0f7a4 l D cI cS y118_l6) hKK (hP.sub (ws' := []) [] rfl) (va_cwS 1 hts gX5_readBrackets_J6_bitCount_0f7a4 rfl rfl rfl (by decide +kernel) ⟨Nat.le_of_ble_eq_true rfl, Nat.le_of_ble_eq_true rfl⟩) rfl hl.1 rfl (Nat.le_of_ble_eq_true rfl) dX5_readBrackets_120 ⟨Nat.le_of_ble_eq_true rfl, Nat.le_of_ble_eq_true rfl⟩ (fun r41149 hr41149 => ?_)
    refine lv_iload_n hx hb dX5_readBrackets_123 rfl (lv_at hl 1 rfl) ?_
    refine lv_icmp_lt (tgt := 135) hx hb dX5_readBrackets_124 (by decide) (fun c41150 => ?_) (fun c41150 => ?_)
    · refine lv_aload_n hx hb dX5_readBrackets_135 rfl (lv_at hl 0 rfl) ?_
      refine wk_qv (wX cI cS a na nc N L) u (As := []) (rest := []) ⟨hx, hb, hml, hown, hts⟩ (k_X5_fail l D cI cS _ a na nc N L u hL hN) hKK hP hD hS hA 23 (ci := 5) rfl rfl (cwV 0 hts gX5_readBrackets_X5_fail rfl rfl rfl (by decide +kernel) ⟨Nat.le_of_ble_eq_true rfl, Nat.le_of_ble_eq_true rfl⟩) rfl hl.1 rfl (Nat.le_of_ble_eq_true rfl) dX5_readBrackets_136 ⟨Nat.le_of_ble_eq_true rfl, Nat.le_of_ble_eq_true rfl⟩ (fun u H locs hr41151 hP hD hS => ?_)
      subst hAe
      exact W.vret hx hb hr (fun t ht hW => ⟨⟨u, rfl, trivial, by rw [ht]; exact hP, hD⟩, hS.F ht⟩) hS.2.2 dX5_readBrackets_139
    · refine lv_aload_n hx hb dX5_readBrackets_127 rfl (lv_at hl 0 rfl) ?_
      refine va_get (D := D) (ci := 5) (v := .int (u 23 5)) (C := RX5) (T := TX5) (N := 8) hx hb hts hin5 hown hK hP 23 rfl rfl 5 (by decide) (hts (.fieldLink RX5 36 "MissedPoints$Reader" "token" "I") (by decide +kernel)) (fun _ h9 => h9) rfl dX5_readBrackets_128 ?_
      refine wk_any (fun r41152 => ?_)
      refine lv_iload_n hx hb dX5_readBrackets_131 rfl (lv_at hl 2 rfl) ?_
      refine lv_icmp_eq (tgt := 140) hx hb dX5_readBrackets_132 (by decide) (fun c41153 => ?_) (fun c41153 => ?_)
      · refine lv_iload_n hx hb dX5_readBrackets_140 rfl (lv_at hl 3 rfl) ?_
        refine lv_if_eq (tgt := 152) hx hb dX5_readBrackets_141 (by decide) (fun c41154 => ?_) (fun c41154 => ?_)
        · have g41155 : Rg 0 0 y118_l3 := wk_eql g118_l3 (by decide : Rg 0 0 (0 : Int32)) c41154 (by decide)
          refine lv_aload_n hx hb dX5_readBrackets_152 rfl (lv_at hl 0 rfl) ?_
          refine wk_qv (wX cI cS a na nc N L) u (As := []) (rest := []) ⟨hx, hb, hml, hown, hts⟩ (k_X5_step l D cI cS _ a na nc N L u hL hN) hKK hP hD hS hA 23 (ci := 5) rfl rfl (cwV 0 hts gX5_readBrackets_X5_step rfl rfl rfl (by decide +kernel) ⟨Nat.le_of_ble_eq_true rfl, Nat.le_of_ble_eq_true rfl⟩) rfl hl.1 rfl (Nat.le_of_ble_eq_true rfl) dX5_readBrackets_153 ⟨Nat.le_of_ble_eq_true rfl, Nat.le_of_ble_eq_true rfl⟩ (fun u H locs hr41156 hP hD hS => ?_)
          subst hAe
          exact W.vret hx hb hr (fun t ht hW => ⟨⟨u, rfl, trivial, by rw [ht]; exact hP, hD⟩, hS.F ht⟩) hS.2.2 dX5_readBrackets_156
        · have g41157 : Rg 1 1 y118_l3 := rg_ne_lo (k := 0) g118_l3 (by decide) c41154 (by decide)
          refine lv_aload_n hx hb dX5_readBrackets_144 rfl (lv_at hl 0 rfl) ?_
          refine lv_iload hx hb dX5_readBrackets_145 (lv_at hl 4 rfl) ?_
          refine lv_iload hx hb dX5_readBrackets_147 (lv_at hl 6 rfl) ?_
          refine wk_qv (wX cI cS a na nc N L) u (As := [.int y118_l4, .int y118_l7]) (rest := []) ⟨hx, hb, hml, hown, hts⟩ (k_X5_joinEach l D cI cS _ a na nc N L u hL hN y118_l4 y118_l7) hKK hP hD hS hA 23 (ci := 5) rfl rfl (cwV 2 hts gX5_readBrackets_X5_joinEach rfl rfl rfl (by decide +kernel) ⟨Nat.le_of_ble_eq_true rfl, Nat.le_of_ble_eq_true rfl⟩) rfl hl.1 rfl (Nat.le_of_ble_eq_true rfl) dX5_readBrackets_149 ⟨Nat.le_of_ble_eq_true rfl, Nat.le_of_ble_eq_true rfl⟩ (fun u H locs hr41158 hP hD hS => ?_)
          refine lv_aload_n hx hb dX5_readBrackets_152 rfl (lv_at hl 0 rfl) ?_
          refine wk_qv (wX cI cS a na nc N L) u (As := []) (rest := []) ⟨hx, hb, hml, hown, hts⟩ (k_X5_step l D cI cS _ a na nc N L u hL hN) hKK hP hD hS hA 23 (ci := 5) rfl rfl (cwV 0 hts gX5_readBrackets_X5_step rfl rfl rfl (by decide +kernel) ⟨Nat.le_of_ble_eq_true rfl, Nat.le_of_ble_eq_true rfl⟩) rfl hl.1 rfl (Nat.le_of_ble_eq_true rfl) dX5_readBrackets_153 ⟨Nat.le_of_ble_eq_true rfl, Nat.le_of_ble_eq_true rfl⟩ (fun u H locs hr41159 hP hD hS => ?_)
          subst hAe
          exact W.vret hx hb hr (fun t ht hW => ⟨⟨u, rfl, trivial, by rw [ht]; exact hP, hD⟩, hS.F ht⟩) hS.2.2 dX5_readBrackets_156
      · refine lv_aload_n hx hb dX5_readBrackets_135 rfl (lv_at hl 0 rfl) ?_
        refine wk_qv (wX cI cS a na nc N L) u (As := []) (rest := []) ⟨hx, hb, hml, hown, hts⟩ (k_X5_fail l D cI cS _ a na nc N L u hL hN) hKK hP hD hS hA 23 (ci := 5) rfl rfl (cwV 0 hts gX5_readBrackets_X5_fail rfl rfl rfl (by decide +kernel) ⟨Nat.le_of_ble_eq_true rfl, Nat.le_of_ble_eq_true rfl⟩) rfl hl.1 rfl (Nat.le_of_ble_eq_true rfl) dX5_readBrackets_136 ⟨Nat.le_of_ble_eq_true rfl, Nat.le_of_ble_eq_true rfl⟩ (fun u H locs hr41160 hP hD hS => ?_)
        subst hAe
        exact W.vret hx hb hr (fun t ht hW => ⟨⟨u, rfl, trivial, by rw [ht]; exact hP, hD⟩, hS.F ht⟩) hS.2.2 dX5_readBrackets_139
  have lp31 : ∀ (n31 : Nat) (y31_l3 : Int32) (y31_l4 : Int32) (y31_l5 : Int32) (y31_l6 : Int32) (y31_l7 : Int32) (y31_l8 : Int32) (u : SU) (H : Heap) (locs : List Loc) (ls : Array Slot), Rg 0 1 y31_l3 → Rg (-1) 2147483647 y31_l7 → Rg 0 120 y31_l8 → va_P D cls (wX cI cS a na nc N L u) H → va_D A (wX cI cS a na nc N L u) → va_S A s.heap H locs → lv_has ls 9 [(0, .ref (a 23)), (1, .int x0), (2, .int x1), (3, .int y31_l3), (4, .int y31_l4), (5, .int y31_l5), (6, .int y31_l6), (7, .int y31_l7), (8, .int y31_l8)] → 120 - y31_l8.toInt < (n31 : Int) → W p l e (headSpec wsX5_readBrackets ({ frames := 3, cells := 0, slots := 0, locals := 120 })).room s m ([.ref (a 23), .int x0, .int x1]).toArray below meth c H locs 0 0 (MQ below (QE (S := SU) D (wX cI cS a na nc N L u0) (wX cI cS a na nc N L) s.heap.size (fun _ => True)) ([.ref (a 23), .int x0, .int x1]).toArray s 0 0 (va_A (wX cI cS a na nc N L u0) s.heap.size)) (F0 m 31 ls []) := by
    intro n31
    induction n31 with
    | zero =>
      intro y31_l3 y31_l4 y31_l5 y31_l6 y31_l7 y31_l8 u H locs ls g31_l3 g31_l7 g31_l8 hP hD hS hl hm31
      exact absurd rfl (me_z g31_l8 hm31)
    | succ n31 ih31 =>
      intro y31_l3 y31_l4 y31_l5 y31_l6 y31_l7 y31_l8 u H locs ls g31_l3 g31_l7 g31_l8 hP hD hS hl hm31
      have ct80 : ∀ (y80_l7 : Int32) (y80_s0 : Int32) (u : SU) (H : Heap) (locs : List Loc) (ls : Array Slot), Rg 0 1 y31_l3 → Rg 0 2147483647 y80_l7 → Rg 0 119 y31_l8 → va_P D cls (wX cI cS a na nc N L u) H → va_D A (wX cI cS a na nc N L u) → va_S A s.heap H locs → lv_has ls 9 [(0, .ref (a 23)), (1, .int x0), (2, .int x1), (3, .int y31_l3), (4, .int y31_l4), (6, .int y31_l6), (7, .int y80_l7), (8, .int y31_l8)] → W p l e (headSpec wsX5_readBrackets ({ frames := 3, cells := 0, slots := 0, locals := 120 })).room s m ([.ref (a 23), .int x0, .int x1]).toArray below meth c H locs 0 0 (MQ below (QE (S := SU) D (wX cI cS a na nc N L u0) (wX cI cS a na nc N L) s.heap.size (fun _ => True)) ([.ref (a 23), .int x0, .int x1]).toArray s 0 0 (va_A (wX cI cS a na nc N L u0) s.heap.size)) (F0 m 80 ls [.int y80_s0, .ref (a 23)]) := by
        intro y80_l7 y80_s0 u H locs ls g80_l3 g80_l7 g80_l8 hP hD hS hl
        refine lv_iload hx hb dX5_readBrackets_80 (lv_at hl 6 rfl) ?_
        refine wk_qv (wX cI cS a na nc N L) u (As := [.int y80_s0, .int y80_l7]) (rest := []) ⟨hx, hb, hml, hown, hts⟩ (k_X5_joinEach l D cI cS _ a na nc N L u hL hN y80_s0 y80_l7) hKK hP hD hS hA 23 (ci := 5) rfl rfl (cwV 2 hts gX5_readBrackets_X5_joinEach rfl rfl rfl (by decide +kernel) ⟨Nat.le_of_ble_eq_true rfl, Nat.le_of_ble_eq_true rfl⟩) rfl hl.1 rfl (Nat.le_of_ble_eq_true rfl) dX5_readBrackets_82 ⟨Nat.le_of_ble_eq_true rfl, Nat.le_of_ble_eq_true rfl⟩ (fun u H locs hr41161 hP hD hS => ?_)
        refine lv_iconst (v := 1) hx hb dX5_readBrackets_85 (by decide) ?_
        refine lv_iload hx hb dX5_readBrackets_86 (lv_at hl 6 rfl) ?_
        refine lv_ishl hx hb dX5_readBrackets_88 ?_
        refine wk_topP (P := fun r => r = (1 : Int32) <<< (y80_l7 &&& 31)) rfl (fun r41162 qr41162 => ?_)
        refine lv_istore (lv' := [(5, .int r41162), (0, .ref (a 23)), (1, .int x0), (2, .int x1), (3, .int y31_l3), (4, .int y31_l4), (6, .int y31_l6), (7, .int y80_l7), (8, .int y31_l8)]) hx hb dX5_readBrackets_89 hl (by decide) rfl (fun ls hl => ?_)
        refine lv_iload hx hb dX5_readBrackets_91 (lv_at hl 6 rfl) ?_
        refine lv_if_ne (tgt := 101) hx hb dX5_readBrackets_93 (by decide) (fun c41163 => ?_) (fun c41163 => ?_)
        · refine lv_iload hx hb dX5_readBrackets_101 (lv_at hl 5 rfl) ?_
          refine lv_istore (lv' := [(4, .int y31_l4), (5, .int r41162), (0, .ref (a 23)), (1, .int x0), (2, .int x1), (3, .int y31_l3), (6, .int y31_l6), (7, .int y80_l7), (8, .int y31_l8)]) hx hb dX5_readBrackets_103 hl (by decide) rfl (fun ls hl => ?_)
          refine lv_iload hx hb dX5_readBrackets_105 (lv_at hl 6 rfl) ?_
          refine lv_iload hx hb dX5_readBrackets_107 (lv_at hl 1 rfl) ?_
          refine lv_ior hx hb dX5_readBrackets_109 ?_
          refine wk_topP (P := fun r => r = y31_l6 ||| r41162) rfl (fun r41164 qr41164 => ?_)
          refine lv_istore (lv' := [(6, .int r41164), (4, .int y31_l4), (5, .int r41162), (0, .ref (a 23)), (1, .int x0), (2, .int x1), (3, .int y31_l3), (7, .int y80_l7), (8, .int y31_l8)]) hx hb dX5_readBrackets_110 hl (by decide) rfl (fun ls hl => ?_)
          refine wk_iinc (lv' := fun r => [(8, .int r), (6, .int r41164), (4, .int y31_l4), (5, .int r41162), (0, .ref (a 23)), (1, .int x0), (2, .int x1), (3, .int y31_l3), (7, .int y80_l7)]) (e1 := 1) (f := 120) hx hb dX5_readBrackets_112 hl (k := 8) rfl (by decide) g80_l8 (by decide) (fun _ => rfl) (fun r41165 ls hr41165 er41165 hl => ?_)
          refine lv_goto (tgt := 31) hx hb dX5_readBrackets_115 (by decide) ?_
          exact ih31 y31_l3 y31_l4 r41162 r41164 y80_l7 r41165 u _ _ ls g80_l3 (show Rg (-1) 2147483647 y80_l7 from rg_w g80_l7 (by decide) (by decide)) (show Rg 0 120 r41165 from rg_w hr41165 (by decide) (by decide)) hP hD hS (lv_sub (l' := [(0, .ref (a 23)), (1, .int x0), (2, .int x1), (3, .int y31_l3), (4, .int y31_l4), (5, .int r41162), (6, .int r41164), (7, .int y80_l7), (8, .int r41165)]) hl [4, 5, 6, 7, 2, 3, 1, 8, 0] rfl) (me_up hm31 er41165 (by decide))
        · have g41166 : Rg 0 0 y31_l6 := wk_eql (rg_any y31_l6) (by decide : Rg 0 0 (0 : Int32)) c41163 (by decide)
          refine lv_iload hx hb dX5_readBrackets_96 (lv_at hl 0 rfl) ?_
          refine lv_goto (tgt := 103) hx hb dX5_readBrackets_98 (by decide) ?_
          refine lv_istore (lv' := [(4, .int r41162), (5, .int r41162), (0, .ref (a 23)), (1, .int x0), (2, .int x1), (3, .int y31_l3), (6, .int y31_l6), (7, .int y80_l7), (8, .int y31_l8)]) hx hb dX5_readBrackets_103 hl (by decide) rfl (fun ls hl => ?_)
          refine lv_iload hx hb dX5_readBrackets_105 (lv_at hl 6 rfl) ?_
          refine lv_iload hx hb dX5_readBrackets_107 (lv_at hl 1 rfl) ?_
          refine lv_ior hx hb dX5_readBrackets_109 ?_
          refine wk_topP (P := fun r => r = y31_l6 ||| r41162) rfl (fun r41167 qr41167 => ?_)
          refine lv_istore (lv' := [(6, .int r41167), (4, .int r41162), (5, .int r41162), (0, .ref (a 23)), (1, .int x0), (2, .int x1), (3, .int y31_l3), (7, .int y80_l7), (8, .int y31_l8)]) hx hb dX5_readBrackets_110 hl (by decide) rfl (fun ls hl => ?_)
          refine wk_iinc (lv' := fun r => [(8, .int r), (6, .int r41167), (4, .int r41162), (5, .int r41162), (0, .ref (a 23)), (1, .int x0), (2, .int x1), (3, .int y31_l3), (7, .int y80_l7)]) (e1 := 1) (f := 120) hx hb dX5_readBrackets_112 hl (k := 8) rfl (by decide) g80_l8 (by decide) (fun _ => rfl) (fun r41168 ls hr41168 er41168 hl => ?_)
          refine lv_goto (tgt := 31) hx hb dX5_readBrackets_115 (by decide) ?_
          exact ih31 y31_l3 r41162 r41162 r41167 y80_l7 r41168 u _ _ ls g80_l3 (show Rg (-1) 2147483647 y80_l7 from rg_w g80_l7 (by decide) (by decide)) (show Rg 0 120 r41168 from rg_w hr41168 (by decide) (by decide)) hP hD hS (lv_sub (l' := [(0, .ref (a 23)), (1, .int x0), (2, .int x1), (3, .int y31_l3), (4, .int r41162), (5, .int r41162), (6, .int r41167), (7, .int y80_l7), (8, .int r41168)]) hl [4, 5, 6, 7, 2, 3, 1, 8, 0] rfl) (me_up hm31 er41168 (by decide))
      refine lv_iload hx hb dX5_readBrackets_31 (lv_at hl 8 rfl) ?_
      refine lv_bipush (v := 120) hx hb dX5_readBrackets_33 (by decide) ?_
      refine lv_icmp_ge (tgt := 118) hx hb dX5_readBrackets_35 (by decide) (fun c41169 => ?_) (fun c41169 => ?_)
      · have g41170 : Rg 120 120 y31_l8 := rg_ler (by decide : Rg 120 120 (120 : Int32)) g31_l8 c41169 (by decide)
        exact ct118 y31_l3 y31_l4 y31_l6 y31_l7 u _ _ ls g31_l3 g31_l7 hP hD hS (lv_sub (l' := [(0, .ref (a 23)), (1, .int x0), (2, .int x1), (3, .int y31_l3), (4, .int y31_l4), (6, .int y31_l6), (7, .int y31_l7)]) hl [0, 1, 2, 3, 4, 6, 7] rfl)
      · have g41171 : Rg 0 119 y31_l8 := rg_ltl g31_l8 (by decide : Rg 120 120 (120 : Int32)) (rg_nle c41169) (by decide)
        refine lv_aload_n hx hb dX5_readBrackets_38 rfl (lv_at hl 0 rfl) ?_
        refine va_get (D := D) (ci := 5) (v := .int (u 23 7)) (C := RX5) (T := TX5) (N := 8) hx hb hts hin5 hown hK hP 23 rfl rfl 7 (by decide) (hts (.fieldLink RX5 27 "MissedPoints$Reader" "fault" "I") (by decide +kernel)) (fun _ h9 => h9) rfl dX5_readBrackets_39 ?_
        refine wk_any (fun r41172 => ?_)
        refine lv_if_ge (tgt := 118) hx hb dX5_readBrackets_42 (by decide) (fun c41173 => ?_) (fun c41173 => ?_)
        · have g41174 : Rg 0 2147483647 r41172 := rg_ler (by decide : Rg 0 0 (0 : Int32)) (rg_any r41172) c41173 (by decide)
          exact ct118 y31_l3 y31_l4 y31_l6 y31_l7 u _ _ ls g31_l3 g31_l7 hP hD hS (lv_sub (l' := [(0, .ref (a 23)), (1, .int x0), (2, .int x1), (3, .int y31_l3), (4, .int y31_l4), (6, .int y31_l6), (7, .int y31_l7)]) hl [0, 1, 2, 3, 4, 6, 7] rfl)
        · have g41175 : Rg (-2147483648) (-1) r41172 := rg_ltl (rg_any r41172) (by decide : Rg 0 0 (0 : Int32)) (rg_nle c41173) (by decide)
          refine lv_aload_n hx hb dX5_readBrackets_45 rfl (lv_at hl 0 rfl) ?_
          refine va_get (D := D) (ci := 5) (v := .int (u 23 5)) (C := RX5) (T := TX5) (N := 8) hx hb hts hin5 hown hK hP 23 rfl rfl 5 (by decide) (hts (.fieldLink RX5 36 "MissedPoints$Reader" "token" "I") (by decide +kernel)) (fun _ h9 => h9) rfl dX5_readBrackets_46 ?_
          refine wk_any (fun r41176 => ?_)
          refine lv_bipush (v := (-2)) hx hb dX5_readBrackets_49 (by decide) ?_
          refine lv_icmp_ne (tgt := 118) hx hb dX5_readBrackets_51 (by decide) (fun c41177 => ?_) (fun c41177 => ?_)
          · exact ct118 y31_l3 y31_l4 y31_l6 y31_l7 u _ _ ls g31_l3 g31_l7 hP hD hS (lv_sub (l' := [(0, .ref (a 23)), (1, .int x0), (2, .int x1), (3, .int y31_l3), (4, .int y31_l4), (6, .int y31_l6), (7, .int y31_l7)]) hl [0, 1, 2, 3, 4, 6, 7] rfl)
          · have g41178 : Rg (-2) (-2) r41176 := wk_eql (rg_any r41176) (by decide : Rg (-2) (-2) ((-2) : Int32)) c41177 (by decide)
            refine lv_aload_n hx hb dX5_readBrackets_54 rfl (lv_at hl 0 rfl) ?_
            refine lv_iload hx hb dX5_readBrackets_55 (lv_at hl 6 rfl) ?_
            refine wk_qi (wX cI cS a na nc N L) u (As := [.int y31_l6]) (rest := []) ⟨hx, hb, hml, hown, hts⟩ (k_X5_readPoint l D cI cS _ a na nc N L u hL hN y31_l6) hKK hP hD hS hA 23 (ci := 5) rfl rfl (cwV 1 hts gX5_readBrackets_X5_readPoint rfl rfl rfl (by decide +kernel) ⟨Nat.le_of_ble_eq_true rfl, Nat.le_of_ble_eq_true rfl⟩) rfl hl.1 rfl (Nat.le_of_ble_eq_true rfl) dX5_readBrackets_57 ⟨Nat.le_of_ble_eq_true rfl, Nat.le_of_ble_eq_true rfl⟩ (fun r41179 u H locs hr41179 hP hD hS => ?_)
            refine lv_istore (lv' := [(7, .int r41179), (0, .ref (a 23)), (1, .int x0), (2, .int x1), (3, .int y31_l3), (4, .int y31_l4), (5, .int y31_l5), (6, .int y31_l6), (8, .int y31_l8)]) hx hb dX5_readBrackets_60 hl (by decide) rfl (fun ls hl => ?_)
            refine lv_iload hx hb dX5_readBrackets_62 (lv_at hl 0 rfl) ?_
            refine lv_if_ge (tgt := 68) hx hb dX5_readBrackets_64 (by decide) (fun c41180 => ?_) (fun c41180 => ?_)
            · have g41181 : Rg 0 2147483647 r41179 := rg_ler (by decide : Rg 0 0 (0 : Int32)) hr41179.1 c41180 (by decide)
              refine lv_aload_n hx hb dX5_readBrackets_68 rfl (lv_at hl 1 rfl) ?_
              refine lv_iload_n hx hb dX5_readBrackets_69 rfl (lv_at hl 4 rfl) ?_
              refine lv_if_eq (tgt := 78) hx hb dX5_readBrackets_70 (by decide) (fun c41182 => ?_) (fun c41182 => ?_)
              · have g41183 : Rg 0 0 y31_l3 := wk_eql g31_l3 (by decide : Rg 0 0 (0 : Int32)) c41182 (by decide)
                refine lv_iload hx hb dX5_readBrackets_78 (lv_at hl 7 rfl) ?_
                exact ct80 r41179 y31_l6 u _ _ ls (show Rg 0 1 y31_l3 from rg_w g41183 (by decide) (by decide)) g41181 g41171 hP hD hS (lv_sub (l' := [(0, .ref (a 23)), (1, .int x0), (2, .int x1), (3, .int y31_l3), (4, .int y31_l4), (6, .int y31_l6), (7, .int r41179), (8, .int y31_l8)]) hl [1, 2, 3, 4, 5, 7, 0, 8] rfl)
              · have g41184 : Rg 1 1 y31_l3 := rg_ne_lo (k := 0) g31_l3 (by decide) c41182 (by decide)
                refine lv_iload hx hb dX5_readBrackets_73 (lv_at hl 6 rfl) ?_
                refine lv_goto (tgt := 80) hx hb dX5_readBrackets_75 (by decide) ?_
                exact ct80 r41179 y31_l5 u _ _ ls (show Rg 0 1 y31_l3 from rg_w g41184 (by decide) (by decide)) g41181 g41171 hP hD hS (lv_sub (l' := [(0, .ref (a 23)), (1, .int x0), (2, .int x1), (3, .int y31_l3), (4, .int y31_l4), (6, .int y31_l6), (7, .int r41179), (8, .int y31_l8)]) hl [1, 2, 3, 4, 5, 7, 0, 8] rfl)
            · have g41185 : Rg (-2147483648) (-1) r41179 := rg_ltl hr41179.1 (by decide : Rg 0 0 (0 : Int32)) (rg_nle c41180) (by decide)
              subst hAe
              exact W.vret hx hb hr (fun t ht hW => ⟨⟨u, rfl, trivial, by rw [ht]; exact hP, hD⟩, hS.F ht⟩) hS.2.2 dX5_readBrackets_67
  refine lv_iload_n hx hb dX5_readBrackets_0 rfl (lv_at hl 2 rfl) ?_
  refine lv_bipush (v := 41) hx hb dX5_readBrackets_1 (by decide) ?_
  refine lv_icmp_ne (tgt := 10) hx hb dX5_readBrackets_3 (by decide) (fun c41186 => ?_) (fun c41186 => ?_)
  · refine lv_iconst (v := 0) hx hb dX5_readBrackets_10 (by decide) ?_
    refine lv_istore_n (lv' := [(3, .int 0), (0, .ref (a 23)), (1, .int x0), (2, .int x1)]) hx hb dX5_readBrackets_11 rfl hl (by decide) rfl (fun ls hl => ?_)
    refine lv_iconst (v := 0) hx hb dX5_readBrackets_12 (by decide) ?_
    refine lv_istore (lv' := [(4, .int 0), (3, .int 0), (0, .ref (a 23)), (1, .int x0), (2, .int x1)]) hx hb dX5_readBrackets_13 hl (by decide) rfl (fun ls hl => ?_)
    refine lv_iconst (v := 0) hx hb dX5_readBrackets_15 (by decide) ?_
    refine lv_istore (lv' := [(5, .int 0), (4, .int 0), (3, .int 0), (0, .ref (a 23)), (1, .int x0), (2, .int x1)]) hx hb dX5_readBrackets_16 hl (by decide) rfl (fun ls hl => ?_)
    refine lv_iconst (v := 0) hx hb dX5_readBrackets_18 (by decide) ?_
    refine lv_istore (lv' := [(6, .int 0), (5, .int 0), (4, .int 0), (3, .int 0), (0, .ref (a 23)), (1, .int x0), (2, .int x1)]) hx hb dX5_readBrackets_19 hl (by decide) rfl (fun ls hl => ?_)
    refine lv_iconst (v := (-1)) hx hb dX5_readBrackets_21 (by decide) ?_
    refine lv_istore (lv' := [(7, .int (-1)), (6, .int 0), (5, .int 0), (4, .int 0), (3, .int 0), (0, .ref (a 23)), (1, .int x0), (2, .int x1)]) hx hb dX5_readBrackets_22 hl (by decide) rfl (fun ls hl => ?_)
    refine lv_aload_n hx hb dX5_readBrackets_24 rfl (lv_at hl 5 rfl) ?_
    refine wk_qv (wX cI cS a na nc N L) u (As := []) (rest := []) ⟨hx, hb, hml, hown, hts⟩ (k_X5_step l D cI cS _ a na nc N L u hL hN) hKK hP hD hS hA 23 (ci := 5) rfl rfl (cwV 0 hts gX5_readBrackets_X5_step rfl rfl rfl (by decide +kernel) ⟨Nat.le_of_ble_eq_true rfl, Nat.le_of_ble_eq_true rfl⟩) rfl hl.1 rfl (Nat.le_of_ble_eq_true rfl) dX5_readBrackets_25 ⟨Nat.le_of_ble_eq_true rfl, Nat.le_of_ble_eq_true rfl⟩ (fun u H locs hr41187 hP hD hS => ?_)
    refine lv_iconst (v := 0) hx hb dX5_readBrackets_28 (by decide) ?_
    refine lv_istore (lv' := [(8, .int 0), (7, .int (-1)), (6, .int 0), (5, .int 0), (4, .int 0), (3, .int 0), (0, .ref (a 23)), (1, .int x0), (2, .int x1)]) hx hb dX5_readBrackets_29 hl (by decide) rfl (fun ls hl => ?_)
    exact lp31 121 (0 : Int32) (0 : Int32) (0 : Int32) (0 : Int32) (((-1) : Int32)) (0 : Int32) u _ _ ls (by decide : Rg 0 1 (0 : Int32)) (by decide : Rg (-1) 2147483647 ((-1) : Int32)) (by decide : Rg 0 120 (0 : Int32)) hP hD hS (lv_sub (l' := [(0, .ref (a 23)), (1, .int x0), (2, .int x1), (3, .int 0), (4, .int 0), (5, .int 0), (6, .int 0), (7, .int (-1)), (8, .int 0)]) hl [6, 7, 8, 5, 4, 3, 2, 1, 0] rfl) (me_i (by decide : Rg 0 120 (0 : Int32)) (by decide))
  · have g41188 : Rg 41 41 x1 := wk_eql (rg_any x1) (by decide : Rg 41 41 (41 : Int32)) c41186 (by decide)
    refine lv_iconst (v := 1) hx hb dX5_readBrackets_6 (by decide) ?_
    refine lv_goto (tgt := 11) hx hb dX5_readBrackets_7 (by decide) ?_
    refine lv_istore_n (lv' := [(3, .int 1), (0, .ref (a 23)), (1, .int x0), (2, .int x1)]) hx hb dX5_readBrackets_11 rfl hl (by decide) rfl (fun ls hl => ?_)
    refine lv_iconst (v := 0) hx hb dX5_readBrackets_12 (by decide) ?_
    refine lv_istore (lv' := [(4, .int 0), (3, .int 1), (0, .ref (a 23)), (1, .int x0), (2, .int x1)]) hx hb dX5_readBrackets_13 hl (by decide) rfl (fun ls hl => ?_)
    refine lv_iconst (v := 0) hx hb dX5_readBrackets_15 (by decide) ?_
    refine lv_istore (lv' := [(5, .int 0), (4, .int 0), (3, .int 1), (0, .ref (a 23)), (1, .int x0), (2, .int x1)]) hx hb dX5_readBrackets_16 hl (by decide) rfl (fun ls hl => ?_)
    refine lv_iconst (v := 0) hx hb dX5_readBrackets_18 (by decide) ?_
    refine lv_istore (lv' := [(6, .int 0), (5, .int 0), (4, .int 0), (3, .int 1), (0, .ref (a 23)), (1, .int x0), (2, .int x1)]) hx hb dX5_readBrackets_19 hl (by decide) rfl (fun ls hl => ?_)
    refine lv_iconst (v := (-1)) hx hb dX5_readBrackets_21 (by decide) ?_
    refine lv_istore (lv' := [(7, .int (-1)), (6, .int 0), (5, .int 0), (4, .int 0), (3, .int 1), (0, .ref (a 23)), (1, .int x0), (2, .int x1)]) hx hb dX5_readBrackets_22 hl (by decide) rfl (fun ls hl => ?_)
    refine lv_aload_n hx hb dX5_readBrackets_24 rfl (lv_at hl 5 rfl) ?_
    refine wk_qv (wX cI cS a na nc N L) u (As := []) (rest := []) ⟨hx, hb, hml, hown, hts⟩ (k_X5_step l D cI cS _ a na nc N L u hL hN) hKK hP hD hS hA 23 (ci := 5) rfl rfl (cwV 0 hts gX5_readBrackets_X5_step rfl rfl rfl (by decide +kernel) ⟨Nat.le_of_ble_eq_true rfl, Nat.le_of_ble_eq_true rfl⟩) rfl hl.1 rfl (Nat.le_of_ble_eq_true rfl) dX5_readBrackets_25 ⟨Nat.le_of_ble_eq_true rfl, Nat.le_of_ble_eq_true rfl⟩ (fun u H locs hr41189 hP hD hS => ?_)
    refine lv_iconst (v := 0) hx hb dX5_readBrackets_28 (by decide) ?_
    refine lv_istore (lv' := [(8, .int 0), (7, .int (-1)), (6, .int 0), (5, .int 0), (4, .int 0), (3, .int 1), (0, .ref (a 23)), (1, .int x0), (2, .int x1)]) hx hb dX5_readBrackets_29 hl (by decide) rfl (fun ls hl => ?_)
    exact lp31 121 (1 : Int32) (0 : Int32) (0 : Int32) (0 : Int32) (((-1) : Int32)) (0 : Int32) u _ _ ls (by decide : Rg 0 1 (1 : Int32)) (by decide : Rg (-1) 2147483647 ((-1) : Int32)) (by decide : Rg 0 120 (0 : Int32)) hP hD hS (lv_sub (l' := [(0, .ref (a 23)), (1, .int x0), (2, .int x1), (3, .int 1), (4, .int 0), (5, .int 0), (6, .int 0), (7, .int (-1)), (8, .int 0)]) hl [6, 7, 8, 5, 4, 3, 2, 1, 0] rfl) (me_i (by decide : Rg 0 120 (0 : Int32)) (by decide))
set_option maxRecDepth 20000 in
theorem ggX5_readItem_X5_readBrackets : GoodIn wsX5_readItem wsX5_readBrackets := goodIn_r _ [49, 23, 1, 25, 26, 27, 5, 28, 29, 30, 24, 12, 31, 32, 33, 34, 35, 36, 37, 38, 39, 40, 7, 8, 9, 10, 11, 13, 14, 15, 16, 17, 18, 19, 20, 21, 22, 41, 42, 43, 44, 45, 50, 51, 52, 53, 54, 55, 56, 57, 58, 59, 60, 61, 62, 63, 64, 68, 69, 65, 66, 67] (by decide +kernel) (by decide +kernel)
set_option maxRecDepth 20000 in
theorem gX5_readItem_X5_readBrackets : GoodIn wsX5_readItem (wsV RX5 60 RX5 yX5_readBrackets wsX5_readBrackets) := goodIn_app (goodIn_of _ (by decide +kernel)) ggX5_readItem_X5_readBrackets
set_option maxRecDepth 20000 in
theorem ggX5_readItem_X5_readRow : GoodIn wsX5_readItem wsX5_readRow := goodIn_r _ [6, 1, 7, 8, 9, 5, 10, 11, 12, 13, 14, 15, 16, 17, 18, 19, 20, 21, 22, 23, 24, 25, 26, 27, 28, 29, 30, 31, 32, 33, 34, 35, 36, 37, 38, 39, 40, 41, 42, 43, 44, 45, 57, 58, 59, 60, 61, 62, 63, 64, 65, 66, 67, 68, 69] (by decide +kernel) (by decide +kernel)
set_option maxRecDepth 20000 in
theorem gX5_readItem_X5_readRow : GoodIn wsX5_readItem (wsV RX5 57 RX5 yX5_readRow wsX5_readRow) := goodIn_app (goodIn_of _ (by decide +kernel)) ggX5_readItem_X5_readRow
theorem dX5_readItem_10 : decode cX5_readItem 10 = .ok (.invokevirtual 57, 3) := by decide +kernel
theorem dX5_readItem_13 : decode cX5_readItem 13 = .ok (.goto 45, 3) := by decide +kernel
theorem dX5_readItem_25 : decode cX5_readItem 25 = .ok (.aload_n 0, 1) := by decide +kernel
theorem dX5_readItem_26 : decode cX5_readItem 26 = .ok (.iconst 3, 1) := by decide +kernel
theorem dX5_readItem_27 : decode cX5_readItem 27 = .ok (.bipush 41, 2) := by decide +kernel
theorem dX5_readItem_29 : decode cX5_readItem 29 = .ok (.invokevirtual 60, 3) := by decide +kernel
theorem dX5_readItem_32 : decode cX5_readItem 32 = .ok (.goto 26, 3) := by decide +kernel
theorem dX5_readItem_44 : decode cX5_readItem 44 = .ok (.aload_n 0, 1) := by decide +kernel
theorem dX5_readItem_45 : decode cX5_readItem 45 = .ok (.iconst 2, 1) := by decide +kernel
theorem dX5_readItem_46 : decode cX5_readItem 46 = .ok (.bipush 93, 2) := by decide +kernel
theorem dX5_readItem_48 : decode cX5_readItem 48 = .ok (.invokevirtual 60, 3) := by decide +kernel
theorem dX5_readItem_51 : decode cX5_readItem 51 = .ok (.goto 7, 3) := by decide +kernel
theorem dX5_readItem_9 : decode cX5_readItem 9 = .ok (.aload_n 0, 1) := by decide +kernel
set_option maxHeartbeats 4000000 in
set_option maxRecDepth 100000 in
theorem k_X5_readItem (l : Launch) (D : va_G) (cI cS : ClassId) (sz : Nat) (a : Nat → Nat) (na nc N : Nat) (L u0 : SU) (hL : TyX L) (hN : N = 0 ∨ N = 24576) : Met l yX5_readItem wsX5_readItem ({ frames := 4, cells := 0, slots := 0, locals := 160 }) (PQ D cI cS (wX cI cS a na nc N L u0) sz [.ref (a 23)]) (QE (S := SU) D (wX cI cS a na nc N L u0) (wX cI cS a na nc N L) sz (fun _ => True)) 0 0 (va_A (wX cI cS a na nc N L u0) sz) := by
  refine Met.ofW (cc := cX5_readItem) (maxL := 1) (ret := none) (by decide) rfl ?_
  intro p e s m args below meth c s₁ B hml hv
  obtain ⟨rfl, hsz, hP, hKK, hD0⟩ := hv
  have hx := B.exec
  have hb := B.bytes
  have hr := B.returns
  have hts := atoms_spec (ws := wsX5_readItem) B.pre
  have hown : s.vm.findClass RX5 = some m.cls := findClass_of_methodNamed B.named
  have hlocks := B.notSynchronized
  have hK := hKK.1
  have hin5 : ∀ w ∈ wsX50, w ∈ wsX5_readItem := by decide +kernel
  subst hsz
  have hD := hD0.self (sz := s.heap.size)
  obtain ⟨A, hAe⟩ : ∃ A, A = va_A (wX cI cS a na nc N L u0) s.heap.size := ⟨_, rfl⟩
  rw [← hAe] at hD
  have hA : ∀ q : Nat, s.heap.size ≤ q → A q := fun q h => by rw [hAe]; exact Or.inr h
  have hS : va_S A s.heap s.heap [] := va_S.rf
  have hl := lv_entry ([.ref (a 23)]) (n := 1) (Nat.le_of_ble_eq_true rfl)
  rw [lg_entry_eq]
  generalize (lg_sl ([.ref (a 23)]) ++ List.replicate (1 - (lg_sl ([.ref (a 23)])).length) Slot.unset).toArray = ls at hl ⊢
  have hl : lv_has ls 1 [(0, .ref (a 23))] := hl
  obtain ⟨u, hu9⟩ : ∃ u : SU, u = u0 := ⟨_, rfl⟩
  rw [← hu9] at hP hD
  refine lv_aload_n hx hb dX5_readItem_0 rfl (lv_at hl 0 rfl) ?_
  refine va_get (D := D) (ci := 5) (v := .int (u 23 5)) (C := RX5) (T := TX5) (N := 8) hx hb hts hin5 hown hK hP 23 rfl rfl 5 (by decide) (hts (.fieldLink RX5 36 "MissedPoints$Reader" "token" "I") (by decide +kernel)) (fun _ h9 => h9) rfl dX5_readItem_1 ?_
  refine wk_any (fun r41203 => ?_)
  refine lv_bipush (v := (-2)) hx hb dX5_readItem_4 (by decide) ?_
  refine lv_icmp_ne (tgt := 16) hx hb dX5_readItem_6 (by decide) (fun c41204 => ?_) (fun c41204 => ?_)
  · refine lv_aload_n hx hb dX5_readItem_16 rfl (lv_at hl 0 rfl) ?_
    refine va_get (D := D) (ci := 5) (v := .int (u 23 5)) (C := RX5) (T := TX5) (N := 8) hx hb hts hin5 hown hK hP 23 rfl rfl 5 (by decide) (hts (.fieldLink RX5 36 "MissedPoints$Reader" "token" "I") (by decide +kernel)) (fun _ h9 => h9) rfl dX5_readItem_17 ?_
    refine wk_any (fun r41205 => ?_)
    refine lv_bipush (v := 40) hx hb dX5_readItem_20 (by decide) ?_
    refine lv_icmp_ne (tgt := 35) hx hb dX5_readItem_22 (by decide) (fun c41206 => ?_) (fun c41206 => ?_)
    · refine lv_aload_n hx hb dX5_readItem_35 rfl (lv_at hl 0 rfl) ?_
      refine va_get (D := D) (ci := 5) (v := .int (u 23 5)) (C := RX5) (T := TX5) (N := 8) hx hb hts hin5 hown hK hP 23 rfl rfl 5 (by decide) (hts (.fieldLink RX5 36 "MissedPoints$Reader" "token" "I") (by decide +kernel)) (fun _ h9 => h9) rfl dX5_readItem_36 ?_
      refine wk_any (fun r41207 => ?_)
      refine lv_bipush (v := 91) hx hb dX5_readItem_39 (by decide) ?_
      refine lv_icmp_ne (tgt := 54) hx hb dX5_readItem_41 (by decide) (fun c41208 => ?_) (fun c41208 => ?_)
      · refine lv_aload_n hx hb dX5_readItem_54 rfl (lv_at hl 0 rfl) ?_
        refine wk_qv (wX cI cS a na nc N L) u (As := []) (rest := []) ⟨hx, hb, hml, hown, hts⟩ (k_X5_fail l D cI cS _ a na nc N L u hL hN) hKK hP hD hS hA 23 (ci := 5) rfl rfl (cwV 0 hts gX5_readItem_X5_fail rfl rfl rfl (by decide +kernel) ⟨Nat.le_of_ble_eq_true rfl, Nat.le_of_ble_eq_true rfl⟩) rfl hl.1 rfl (Nat.le_of_ble_eq_true rfl) dX5_readItem_55 ⟨Nat.le_of_ble_eq_true rfl, Nat.le_of_ble_eq_true rfl⟩ (fun u H locs hr41209 hP hD hS => ?_)
        subst hAe
        exact W.vret hx hb hr (fun t ht hW => ⟨⟨u, rfl, trivial, by rw [ht]; exact hP, hD⟩, hS.F ht⟩) hS.2.2 dX5_readItem_58
      · have g41210 : Rg 91 91 r41207 := wk_eql (rg_any r41207) (by decide : Rg 91 91 (91 : Int32)) c41208 (by decide)
        refine lv_aload_n hx hb dX5_readItem_44 rfl (lv_at hl 0 rfl) ?_
        refine lv_iconst (v := 2) hx hb dX5_readItem_45 (by decide) ?_
        refine lv_bipush (v := 93) hx hb dX5_readItem_46 (by decide) ?_
        refine wk_qv (wX cI cS a na nc N L) u (As := [.int 2, .int 93]) (rest := []) ⟨hx, hb, hml, hown, hts⟩ (k_X5_readBrackets l D cI cS _ a na nc N L u hL hN (2 : Int32) (93 : Int32)) hKK hP hD hS hA 23 (ci := 5) rfl rfl (cwV 2 hts gX5_readItem_X5_readBrackets rfl rfl rfl (by decide +kernel) ⟨Nat.le_of_ble_eq_true rfl, Nat.le_of_ble_eq_true rfl⟩) rfl hl.1 rfl (Nat.le_of_ble_eq_true rfl) dX5_readItem_48 ⟨Nat.le_of_ble_eq_true rfl, Nat.le_of_ble_eq_true rfl⟩ (fun u H locs hr41211 hP hD hS => ?_)
        refine lv_goto (tgt := 58) hx hb dX5_readItem_51 (by decide) ?_
        subst hAe
        exact W.vret hx hb hr (fun t ht hW => ⟨⟨u, rfl, trivial, by rw [ht]; exact hP, hD⟩, hS.F ht⟩) hS.2.2 dX5_readItem_58
    · have g41212 : Rg 40 40 r41205 := wk_eql (rg_any r41205) (by decide : Rg 40 40 (40 : Int32)) c41206 (by decide)
      refine lv_aload_n hx hb dX5_readItem_25 rfl (lv_at hl 0 rfl) ?_
      refine lv_iconst (v := 3) hx hb dX5_readItem_26 (by decide) ?_
      refine lv_bipush (v := 41) hx hb dX5_readItem_27 (by decide) ?_
      refine wk_qv (wX cI cS a na nc N L) u (As := [.int 3, .int 41]) (rest := []) ⟨hx, hb, hml, hown, hts⟩ (k_X5_readBrackets l D cI cS _ a na nc N L u hL hN (3 : Int32) (41 : Int32)) hKK hP hD hS hA 23 (ci := 5) rfl rfl (cwV 2 hts gX5_readItem_X5_readBrackets rfl rfl rfl (by decide +kernel) ⟨Nat.le_of_ble_eq_true rfl, Nat.le_of_ble_eq_true rfl⟩) rfl hl.1 rfl (Nat.le_of_ble_eq_true rfl) dX5_readItem_29 ⟨Nat.le_of_ble_eq_true rfl, Nat.le_of_ble_eq_true rfl⟩ (fun u H locs hr41213 hP hD hS => ?_)
      refine lv_goto (tgt := 58) hx hb dX5_readItem_32 (by decide) ?_
      subst hAe
      exact W.vret hx hb hr (fun t ht hW => ⟨⟨u, rfl, trivial, by rw [ht]; exact hP, hD⟩, hS.F ht⟩) hS.2.2 dX5_readItem_58
  · have g41214 : Rg (-2) (-2) r41203 := wk_eql (rg_any r41203) (by decide : Rg (-2) (-2) ((-2) : Int32)) c41204 (by decide)
    refine lv_aload_n hx hb dX5_readItem_9 rfl (lv_at hl 0 rfl) ?_
    refine wk_qv (wX cI cS a na nc N L) u (As := []) (rest := []) ⟨hx, hb, hml, hown, hts⟩ (k_X5_readRow l D cI cS _ a na nc N L u hL hN) hKK hP hD hS hA 23 (ci := 5) rfl rfl (cwV 0 hts gX5_readItem_X5_readRow rfl rfl rfl (by decide +kernel) ⟨Nat.le_of_ble_eq_true rfl, Nat.le_of_ble_eq_true rfl⟩) rfl hl.1 rfl (Nat.le_of_ble_eq_true rfl) dX5_readItem_10 ⟨Nat.le_of_ble_eq_true rfl, Nat.le_of_ble_eq_true rfl⟩ (fun u H locs hr41215 hP hD hS => ?_)
    refine lv_goto (tgt := 58) hx hb dX5_readItem_13 (by decide) ?_
    subst hAe
    exact W.vret hx hb hr (fun t ht hW => ⟨⟨u, rfl, trivial, by rw [ht]; exact hP, hD⟩, hS.F ht⟩) hS.2.2 dX5_readItem_58
set_option maxRecDepth 20000 in
theorem ggX5_readAll_X5_fail : GoodIn wsX5_readAll wsX5_fail := goodIn_r _ [45, 3, 11, 61, 62, 63, 64, 65, 66, 67, 68] (by decide +kernel) (by decide +kernel)
set_option maxRecDepth 20000 in
theorem gX5_readAll_X5_fail : GoodIn wsX5_readAll (wsV RX5 39 RX5 yX5_fail wsX5_fail) := goodIn_app (goodIn_of _ (by decide +kernel)) ggX5_readAll_X5_fail
theorem dX5_readAll_54 : decode cX5_readAll 54 = .ok (.aload_n 0, 1) := by decide +kernel
theorem dX5_readAll_55 : decode cX5_readAll 55 = .ok (.getfield 36, 3) := by decide +kernel
theorem dX5_readAll_58 : decode cX5_readAll 58 = .ok (.bipush 44, 2) := by decide +kernel
theorem dX5_readAll_60 : decode cX5_readAll 60 = .ok (.if_icmp .ne 17, 3) := by decide +kernel
theorem dX5_readAll_63 : decode cX5_readAll 63 = .ok (.aload_n 0, 1) := by decide +kernel
theorem dX5_readAll_64 : decode cX5_readAll 64 = .ok (.invokevirtual 30, 3) := by decide +kernel
theorem dX5_readAll_67 : decode cX5_readAll 67 = .ok (.aload_n 0, 1) := by decide +kernel
theorem dX5_readAll_68 : decode cX5_readAll 68 = .ok (.invokevirtual 33, 3) := by decide +kernel
theorem dX5_readAll_71 : decode cX5_readAll 71 = .ok (.iinc 1 1, 3) := by decide +kernel
theorem dX5_readAll_74 : decode cX5_readAll 74 = .ok (.goto (-33), 3) := by decide +kernel
theorem dX5_readAll_85 : decode cX5_readAll 85 = .ok (.aload_n 0, 1) := by decide +kernel
theorem dX5_readAll_86 : decode cX5_readAll 86 = .ok (.invokevirtual 39, 3) := by decide +kernel
set_option maxHeartbeats 4000000 in
set_option maxRecDepth 100000 in
theorem k_X5_readAll (l : Launch) (D : va_G) (cI cS : ClassId) (sz : Nat) (a : Nat → Nat) (na nc N : Nat) (L u0 : SU) (hL : TyX L) (hN : N = 0 ∨ N = 24576) : Met l yX5_readAll wsX5_readAll ({ frames := 5, cells := 0, slots := 0, locals := 200 }) (PQ D cI cS (wX cI cS a na nc N L u0) sz [.ref (a 23)]) (QF (S := SU) D (wX cI cS a na nc N L u0) (wX cI cS a na nc N L) sz (fun r _ => Rg (-2147483648) 2147483647 r ∧ True)) 0 0 (va_A (wX cI cS a na nc N L u0) sz) := by
  refine Met.ofW (cc := cX5_readAll) (maxL := 2) (ret := (some .int)) (by decide) rfl ?_
  intro p e s m args below meth c s₁ B hml hv
  obtain ⟨rfl, hsz, hP, hKK, hD0⟩ := hv
  have hx := B.exec
  have hb := B.bytes
  have hr := B.returns
  have hts := atoms_spec (ws := wsX5_readAll) B.pre
  have hown : s.vm.findClass RX5 = some m.cls := findClass_of_methodNamed B.named
  have hlocks := B.notSynchronized
  have hK := hKK.1
  have hin5 : ∀ w ∈ wsX50, w ∈ wsX5_readAll := by decide +kernel
  subst hsz
  have hD := hD0.self (sz := s.heap.size)
  obtain ⟨A, hAe⟩ : ∃ A, A = va_A (wX cI cS a na nc N L u0) s.heap.size := ⟨_, rfl⟩
  rw [← hAe] at hD
  have hA : ∀ q : Nat, s.heap.size ≤ q → A q := fun q h => by rw [hAe]; exact Or.inr h
  have hS : va_S A s.heap s.heap [] := va_S.rf
  have hl := lv_entry ([.ref (a 23)]) (n := 2) (Nat.le_of_ble_eq_true rfl)
  rw [lg_entry_eq]
  generalize (lg_sl ([.ref (a 23)]) ++ List.replicate (2 - (lg_sl ([.ref (a 23)])).length) Slot.unset).toArray = ls at hl ⊢
  have hl : lv_has ls 2 [(0, .ref (a 23))] := hl
  obtain ⟨u, hu9⟩ : ∃ u : SU, u = u0 := ⟨_, rfl⟩
  rw [← hu9] at hP hD
  have lp41 : ∀ (n41 : Nat) (y41_l1 : Int32) (u : SU) (H : Heap) (locs : List Loc) (ls : Array Slot), Rg 0 120 y41_l1 → va_P D cls (wX cI cS a na nc N L u) H → va_D A (wX cI cS a na nc N L u) → va_S A s.heap H locs → lv_has ls 2 [(0, .ref (a 23)), (1, .int y41_l1)] → 120 - y41_l1.toInt < (n41 : Int) → W p l e (headSpec wsX5_readAll ({ frames := 5, cells := 0, slots := 0, locals := 200 })).room s m ([.ref (a 23)]).toArray below meth c H locs 0 0 (MQ below (QF (S := SU) D (wX cI cS a na nc N L u0) (wX cI cS a na nc N L) s.heap.size (fun r _ => Rg (-2147483648) 2147483647 r ∧ True)) ([.ref (a 23)]).toArray s 0 0 (va_A (wX cI cS a na nc N L u0) s.heap.size)) (F0 m 41 ls []) := by
    intro n41
    induction n41 with
    | zero =>
      intro y41_l1 u H locs ls g41_l1 hP hD hS hl hm41
      exact absurd rfl (me_z g41_l1 hm41)
    | succ n41 ih41 =>
      intro y41_l1 u H locs ls g41_l1 hP hD hS hl hm41
      refine lv_iload_n hx hb dX5_readAll_41 rfl (lv_at hl 1 rfl) ?_
      refine lv_bipush (v := 120) hx hb dX5_readAll_42 (by decide) ?_
      refine lv_icmp_ge (tgt := 77) hx hb dX5_readAll_44 (by decide) (fun c41768 => ?_) (fun c41768 => ?_)
      · have g41769 : Rg 120 120 y41_l1 := rg_ler (by decide : Rg 120 120 (120 : Int32)) g41_l1 c41768 (by decide)
        refine lv_aload_n hx hb dX5_readAll_77 rfl (lv_at hl 0 rfl) ?_
        refine va_get (D := D) (ci := 5) (v := .int (u 23 5)) (C := RX5) (T := TX5) (N := 8) hx hb hts hin5 hown hK hP 23 rfl rfl 5 (by decide) (hts (.fieldLink RX5 36 "MissedPoints$Reader" "token" "I") (by decide +kernel)) (fun _ h9 => h9) rfl dX5_readAll_78 ?_
        refine wk_any (fun r41770 => ?_)
        refine lv_iconst (v := (-1)) hx hb dX5_readAll_81 (by decide) ?_
        refine lv_icmp_eq (tgt := 89) hx hb dX5_readAll_82 (by decide) (fun c41771 => ?_) (fun c41771 => ?_)
        · have g41772 : Rg (-1) (-1) r41770 := wk_eql (rg_any r41770) (by decide : Rg (-1) (-1) ((-1) : Int32)) c41771 (by decide)
          refine lv_aload_n hx hb dX5_readAll_89 rfl (lv_at hl 0 rfl) ?_
          refine va_get (D := D) (ci := 5) (v := .int (u 23 7)) (C := RX5) (T := TX5) (N := 8) hx hb hts hin5 hown hK hP 23 rfl rfl 7 (by decide) (hts (.fieldLink RX5 27 "MissedPoints$Reader" "fault" "I") (by decide +kernel)) (fun _ h9 => h9) rfl dX5_readAll_90 ?_
          refine wk_any (fun r41773 => ?_)
          subst hAe
          exact W.iret (v := r41773) hx hb hr (fun t ht hW => ⟨⟨_, u, rfl, ⟨(rg_any r41773), trivial⟩, by rw [ht]; exact hP, hD⟩, hS.F ht⟩) hS.2.2 dX5_readAll_93
        · refine lv_aload_n hx hb dX5_readAll_85 rfl (lv_at hl 0 rfl) ?_
          refine wk_qv (wX cI cS a na nc N L) u (As := []) (rest := []) ⟨hx, hb, hml, hown, hts⟩ (k_X5_fail l D cI cS _ a na nc N L u hL hN) hKK hP hD hS hA 23 (ci := 5) rfl rfl (cwV 0 hts gX5_readAll_X5_fail rfl rfl rfl (by decide +kernel) ⟨Nat.le_of_ble_eq_true rfl, Nat.le_of_ble_eq_true rfl⟩) rfl hl.1 rfl (Nat.le_of_ble_eq_true rfl) dX5_readAll_86 ⟨Nat.le_of_ble_eq_true rfl, Nat.le_of_ble_eq_true rfl⟩ (fun u H locs hr41774 hP hD hS => ?_)
          refine lv_aload_n hx hb dX5_readAll_89 rfl (lv_at hl 0 rfl) ?_
          refine va_get (D := D) (ci := 5) (v := .int (u 23 7)) (C := RX5) (T := TX5) (N := 8) hx hb hts hin5 hown hK hP 23 rfl rfl 7 (by decide) (hts (.fieldLink RX5 27 "MissedPoints$Reader" "fault" "I") (by decide +kernel)) (fun _ h9 => h9) rfl dX5_readAll_90 ?_
          refine wk_any (fun r41775 => ?_)
          subst hAe
          exact W.iret (v := r41775) hx hb hr (fun t ht hW => ⟨⟨_, u, rfl, ⟨(rg_any r41775), trivial⟩, by rw [ht]; exact hP, hD⟩, hS.F ht⟩) hS.2.2 dX5_readAll_93
      · have g41776 : Rg 0 119 y41_l1 := rg_ltl g41_l1 (by decide : Rg 120 120 (120 : Int32)) (rg_nle c41768) (by decide)
        refine lv_aload_n hx hb dX5_readAll_47 rfl (lv_at hl 0 rfl) ?_
        refine va_get (D := D) (ci := 5) (v := .int (u 23 7)) (C := RX5) (T := TX5) (N := 8) hx hb hts hin5 hown hK hP 23 rfl rfl 7 (by decide) (hts (.fieldLink RX5 27 "MissedPoints$Reader" "fault" "I") (by decide +kernel)) (fun _ h9 => h9) rfl dX5_readAll_48 ?_
        refine wk_any (fun r41777 => ?_)
        refine lv_if_ge (tgt := 77) hx hb dX5_readAll_51 (by decide) (fun c41778 => ?_) (fun c41778 => ?_)
        · have g41779 : Rg 0 2147483647 r41777 := rg_ler (by decide : Rg 0 0 (0 : Int32)) (rg_any r41777) c41778 (by decide)
          refine lv_aload_n hx hb dX5_readAll_77 rfl (lv_at hl 0 rfl) ?_
          refine va_get (D := D) (ci := 5) (v := .int (u 23 5)) (C := RX5) (T := TX5) (N := 8) hx hb hts hin5 hown hK hP 23 rfl rfl 5 (by decide) (hts (.fieldLink RX5 36 "MissedPoints$Reader" "token" "I") (by decide +kernel)) (fun _ h9 => h9) rfl dX5_readAll_78 ?_
          refine wk_any (fun r41780 => ?_)
          refine lv_iconst (v := (-1)) hx hb dX5_readAll_81 (by decide) ?_
          refine lv_icmp_eq (tgt := 89) hx hb dX5_readAll_82 (by decide) (fun c41781 => ?_) (fun c41781 => ?_)
          · have g41782 : Rg (-1) (-1) r41780 := wk_eql (rg_any r41780) (by decide : Rg (-1) (-1) ((-1) : Int32)) c41781 (by decide)
            refine lv_aload_n hx hb dX5_readAll_89 rfl (lv_at hl 0 rfl) ?_
            refine va_get (D := D) (ci := 5) (v := .int (u 23 7)) (C := RX5) (T := TX5) (N := 8) hx hb hts hin5 hown hK hP 23 rfl rfl 7 (by decide) (hts (.fieldLink RX5 27 "MissedPoints$Reader" "fault" "I") (by decide +kernel)) (fun _ h9 => h9) rfl dX5_readAll_90 ?_
            refine wk_any (fun r41783 => ?_)
            subst hAe
            exact W.iret (v := r41783) hx hb hr (fun t ht hW => ⟨⟨_, u, rfl, ⟨(rg_any r41783), trivial⟩, by rw [ht]; exact hP, hD⟩, hS.F ht⟩) hS.2.2 dX5_readAll_93
          · refine lv_aload_n hx hb dX5_readAll_85 rfl (lv_at hl 0 rfl) ?_
            refine wk_qv (wX cI cS a na nc N L) u (As := []) (rest := []) ⟨hx, hb, hml, hown, hts⟩ (k_X5_fail l D cI cS _ a na nc N L u hL hN) hKK hP hD hS hA 23 (ci := 5) rfl rfl (cwV 0 hts gX5_readAll_X5_fail rfl rfl rfl (by decide +kernel) ⟨Nat.le_of_ble_eq_true rfl, Nat.le_of_ble_eq_true rfl⟩) rfl hl.1 rfl (Nat.le_of_ble_eq_true rfl) dX5_readAll_86 ⟨Nat.le_of_ble_eq_true rfl, Nat.le_of_ble_eq_true rfl⟩ (fun u H locs hr41784 hP hD hS => ?_)
            refine lv_aload_n hx hb dX5_readAll_89 rfl (lv_at hl 0 rfl) ?_
            refine va_get (D := D) (ci := 5) (v := .int (u 23 7)) (C := RX5) (T := TX5) (N := 8) hx hb hts hin5 hown hK hP 23 rfl rfl 7 (by decide) (hts (.fieldLink RX5 27 "MissedPoints$Reader" "fault" "I") (by decide +kernel)) (fun _ h9 => h9) rfl dX5_readAll_90 ?_
            refine wk_any (fun r41785 => ?_)
            subst hAe
            exact W.iret (v := r41785) hx hb hr (fun t ht hW => ⟨⟨_, u, rfl, ⟨(rg_any r41785), trivial⟩, by rw [ht]; exact hP, hD⟩, hS.F ht⟩) hS.2.2 dX5_readAll_93
        · have g41786 : Rg (-2147483648) (-1) r41777 := rg_ltl (rg_any r41777) (by decide : Rg 0 0 (0 : Int32)) (rg_nle c41778) (by decide)
          refine lv_aload_n hx hb dX5_readAll_54 rfl (lv_at hl 0 rfl) ?_
          refine va_get (D := D) (ci := 5) (v := .int (u 23 5)) (C := RX5) (T := TX5) (N := 8) hx hb hts hin5 hown hK hP 23 rfl rfl 5 (by decide) (hts (.fieldLink RX5 36 "MissedPoints$Reader" "token" "I") (by decide +kernel)) (fun _ h9 => h9) rfl dX5_readAll_55 ?_
          refine wk_any (fun r41787 => ?_)
          refine lv_bipush (v := 44) hx hb dX5_readAll_58 (by decide) ?_
          refine lv_icmp_ne (tgt := 77) hx hb dX5_readAll_60 (by decide) (fun c41788 => ?_) (fun c41788 => ?_)
          · refine lv_aload_n hx hb dX5_readAll_77 rfl (lv_at hl 0 rfl) ?_
            refine va_get (D := D) (ci := 5) (v := .int (u 23 5)) (C := RX5) (T := TX5) (N := 8) hx hb hts hin5 hown hK hP 23 rfl rfl 5 (by decide) (hts (.fieldLink RX5 36 "MissedPoints$Reader" "token" "I") (by decide +kernel)) (fun _ h9 => h9) rfl dX5_readAll_78 ?_
            refine wk_any (fun r41789 => ?_)
            refine lv_iconst (v := (-1)) hx hb dX5_readAll_81 (by decide) ?_
            refine lv_icmp_eq (tgt := 89) hx hb dX5_readAll_82 (by decide) (fun c41790 => ?_) (fun c41790 => ?_)
            · have g41791 : Rg (-1) (-1) r41789 := wk_eql (rg_any r41789) (by decide : Rg (-1) (-1) ((-1) : Int32)) c41790 (by decide)
              refine lv_aload_n hx hb dX5_readAll_89 rfl (lv_at hl 0 rfl) ?_
              refine va_get (D := D) (ci := 5) (v := .int (u 23 7)) (C := RX5) (T := TX5) (N := 8) hx hb hts hin5 hown hK hP 23 rfl rfl 7 (by decide) (hts (.fieldLink RX5 27 "MissedPoints$Reader" "fault" "I") (by decide +kernel)) (fun _ h9 => h9) rfl dX5_readAll_90 ?_
              refine wk_any (fun r41792 => ?_)
              subst hAe
              exact W.iret (v := r41792) hx hb hr (fun t ht hW => ⟨⟨_, u, rfl, ⟨(rg_any r41792), trivial⟩, by rw [ht]; exact hP, hD⟩, hS.F ht⟩) hS.2.2 dX5_readAll_93
            · refine lv_aload_n hx hb dX5_readAll_85 rfl (lv_at hl 0 rfl) ?_
              refine wk_qv (wX cI cS a na nc N L) u (As := []) (rest := []) ⟨hx, hb, hml, hown, hts⟩ (k_X5_fail l D cI cS _ a na nc N L u hL hN) hKK hP hD hS hA 23 (ci := 5) rfl rfl (cwV 0 hts gX5_readAll_X5_fail rfl rfl rfl (by decide +kernel) ⟨Nat.le_of_ble_eq_true rfl, Nat.le_of_ble_eq_true rfl⟩) rfl hl.1 rfl (Nat.le_of_ble_eq_true rfl) dX5_readAll_86 ⟨Nat.le_of_ble_eq_true rfl, Nat.le_of_ble_eq_true rfl⟩ (fun u H locs hr41793 hP hD hS => ?_)
              refine lv_aload_n hx hb dX5_readAll_89 rfl (lv_at hl 0 rfl) ?_
              refine va_get (D := D) (ci := 5) (v := .int (u 23 7)) (C := RX5) (T := TX5) (N := 8) hx hb hts hin5 hown hK hP 23 rfl rfl 7 (by decide) (hts (.fieldLink RX5 27 "MissedPoints$Reader" "fault" "I") (by decide +kernel)) (fun _ h9 => h9) rfl dX5_readAll_90 ?_
              refine wk_any (fun r41794 => ?_)
              subst hAe
              exact W.iret (v := r41794) hx hb hr (fun t ht hW => ⟨⟨_, u, rfl, ⟨(rg_any r41794), trivial⟩, by rw [ht]; exact hP, hD⟩, hS.F ht⟩) hS.2.2 dX5_readAll_93
          · have g41795 : Rg 44 44 r41787 := wk_eql (rg_any r41787) (by decide : Rg 44 44 (44 : Int32)) c41788 (by decide)
            refine lv_aload_n hx hb dX5_readAll_63 rfl (lv_at hl 0 rfl) ?_
            refine wk_qv (wX cI cS a na nc N L) u (As := []) (rest := []) ⟨hx, hb, hml, hown, hts⟩ (k_X5_step l D cI cS _ a na nc N L u hL hN) hKK hP hD hS hA 23 (ci := 5) rfl rfl (cwV 0 hts gX5_readAll_X5_step rfl rfl rfl (by decide +kernel) ⟨Nat.le_of_ble_eq_true rfl, Nat.le_of_ble_eq_true rfl⟩) rfl hl.1 rfl (Nat.le_of_ble_eq_true rfl) dX5_readAll_64 ⟨Nat.le_of_ble_eq_true rfl, Nat.le_of_ble_eq_true rfl⟩ (fun u H locs hr41796 hP hD hS => ?_)
            refine lv_aload_n hx hb dX5_readAll_67 rfl (lv_at hl 0 rfl) ?_
            refine wk_qv (wX cI cS a na nc N L) u (As := []) (rest := []) ⟨hx, hb, hml, hown, hts⟩ (k_X5_readItem l D cI cS _ a na nc N L u hL hN) hKK hP hD hS hA 23 (ci := 5) rfl rfl (cwV 0 hts gX5_readAll_X5_readItem rfl rfl rfl (by decide +kernel) ⟨Nat.le_of_ble_eq_true rfl, Nat.le_of_ble_eq_true rfl⟩) rfl hl.1 rfl (Nat.le_of_ble_eq_true rfl) dX5_readAll_68 ⟨Nat.le_of_ble_eq_true rfl, Nat.le_of_ble_eq_true rfl⟩ (fun u H locs hr41797 hP hD hS => ?_)
            refine wk_iinc (lv' := fun r => [(1, .int r), (0, .ref (a 23))]) (e1 := 1) (f := 120) hx hb dX5_readAll_71 hl (k := 1) rfl (by decide) g41776 (by decide) (fun _ => rfl) (fun r41798 ls hr41798 er41798 hl => ?_)
            refine lv_goto (tgt := 41) hx hb dX5_readAll_74 (by decide) ?_
            exact ih41 r41798 u _ _ ls (show Rg 0 120 r41798 from rg_w hr41798 (by decide) (by decide)) hP hD hS (lv_sub (l' := [(0, .ref (a 23)), (1, .int r41798)]) hl [1, 0] rfl) (me_up hm41 er41798 (by decide))
  have lp2 : ∀ (n2 : Nat) (y2_l1 : Int32) (u : SU) (H : Heap) (locs : List Loc) (ls : Array Slot), Rg 0 12 y2_l1 → va_P D cls (wX cI cS a na nc N L u) H → va_D A (wX cI cS a na nc N L u) → va_S A s.heap H locs → lv_has ls 2 [(0, .ref (a 23)), (1, .int y2_l1)] → 12 - y2_l1.toInt < (n2 : Int) → W p l e (headSpec wsX5_readAll ({ frames := 5, cells := 0, slots := 0, locals := 200 })).room s m ([.ref (a 23)]).toArray below meth c H locs 0 0 (MQ below (QF (S := SU) D (wX cI cS a na nc N L u0) (wX cI cS a na nc N L) s.heap.size (fun r _ => Rg (-2147483648) 2147483647 r ∧ True)) ([.ref (a 23)]).toArray s 0 0 (va_A (wX cI cS a na nc N L u0) s.heap.size)) (F0 m 2 ls []) := by
    intro n2
    induction n2 with
    | zero =>
      intro y2_l1 u H locs ls g2_l1 hP hD hS hl hm2
      exact absurd rfl (me_z g2_l1 hm2)
    | succ n2 ih2 =>
      intro y2_l1 u H locs ls g2_l1 hP hD hS hl hm2
      refine lv_iload_n hx hb dX5_readAll_2 rfl (lv_at hl 1 rfl) ?_
      refine lv_bipush (v := 12) hx hb dX5_readAll_3 (by decide) ?_
      refine lv_icmp_ge (tgt := 21) hx hb dX5_readAll_5 (by decide) (fun c41799 => ?_) (fun c41799 => ?_)
      · have g41800 : Rg 12 12 y2_l1 := rg_ler (by decide : Rg 12 12 (12 : Int32)) g2_l1 c41799 (by decide)
        refine lv_aload_n hx hb dX5_readAll_21 rfl (lv_at hl 0 rfl) ?_
        refine lv_iconst (v := 0) hx hb dX5_readAll_22 (by decide) ?_
        refine va_put (D := D) (ci := 5) (v := .int 0) (ty := .int) (C := RX5) (T := TX5) (N := 8) hx hb hts hin5 tyX5 tyX5_ok nmX5 hown hK hP hD hS 23 rfl rfl 3 (by decide) (hts (.fieldLink RX5 23 "MissedPoints$Reader" "at" "I") (by decide +kernel)) (fun _ h9 => h9) rfl (by decide +kernel) rfl rfl (Nat.le_of_ble_eq_true rfl) dX5_readAll_23 (fun H locs hP hD hS => ?_)
        rw [sxf_23_3] at hP hD
        generalize sU u 23 _ = u at hP hD
        refine lv_aload_n hx hb dX5_readAll_26 rfl (lv_at hl 0 rfl) ?_
        refine lv_iconst (v := (-1)) hx hb dX5_readAll_27 (by decide) ?_
        refine va_put (D := D) (ci := 5) (v := .int (-1)) (ty := .int) (C := RX5) (T := TX5) (N := 8) hx hb hts hin5 tyX5 tyX5_ok nmX5 hown hK hP hD hS 23 rfl rfl 7 (by decide) (hts (.fieldLink RX5 27 "MissedPoints$Reader" "fault" "I") (by decide +kernel)) (fun _ h9 => h9) rfl (by decide +kernel) rfl rfl (Nat.le_of_ble_eq_true rfl) dX5_readAll_28 (fun H locs hP hD hS => ?_)
        rw [sxf_23_7] at hP hD
        generalize sU u 23 _ = u at hP hD
        refine lv_aload_n hx hb dX5_readAll_31 rfl (lv_at hl 0 rfl) ?_
        refine wk_qv (wX cI cS a na nc N L) u (As := []) (rest := []) ⟨hx, hb, hml, hown, hts⟩ (k_X5_step l D cI cS _ a na nc N L u hL hN) hKK hP hD hS hA 23 (ci := 5) rfl rfl (cwV 0 hts gX5_readAll_X5_step rfl rfl rfl (by decide +kernel) ⟨Nat.le_of_ble_eq_true rfl, Nat.le_of_ble_eq_true rfl⟩) rfl hl.1 rfl (Nat.le_of_ble_eq_true rfl) dX5_readAll_32 ⟨Nat.le_of_ble_eq_true rfl, Nat.le_of_ble_eq_true rfl⟩ (fun u H locs hr41801 hP hD hS => ?_)
        refine lv_aload_n hx hb dX5_readAll_35 rfl (lv_at hl 0 rfl) ?_
        refine wk_qv (wX cI cS a na nc N L) u (As := []) (rest := []) ⟨hx, hb, hml, hown, hts⟩ (k_X5_readItem l D cI cS _ a na nc N L u hL hN) hKK hP hD hS hA 23 (ci := 5) rfl rfl (cwV 0 hts gX5_readAll_X5_readItem rfl rfl rfl (by decide +kernel) ⟨Nat.le_of_ble_eq_true rfl, Nat.le_of_ble_eq_true rfl⟩) rfl hl.1 rfl (Nat.le_of_ble_eq_true rfl) dX5_readAll_36 ⟨Nat.le_of_ble_eq_true rfl, Nat.le_of_ble_eq_true rfl⟩ (fun u H locs hr41802 hP hD hS => ?_)
        refine lv_iconst (v := 0) hx hb dX5_readAll_39 (by decide) ?_
        refine lv_istore_n (lv' := [(1, .int 0), (0, .ref (a 23))]) hx hb dX5_readAll_40 rfl hl (by decide) rfl (fun ls hl => ?_)
        exact lp41 121 (0 : Int32) u _ _ ls (by decide : Rg 0 120 (0 : Int32)) hP hD hS (lv_sub (l' := [(0, .ref (a 23)), (1, .int 0)]) hl [1, 0] rfl) (me_i (by decide : Rg 0 120 (0 : Int32)) (by decide))
      · have g41803 : Rg 0 11 y2_l1 := rg_ltl g2_l1 (by decide : Rg 12 12 (12 : Int32)) (rg_nle c41799) (by decide)
        refine lv_aload_n hx hb dX5_readAll_8 rfl (lv_at hl 0 rfl) ?_
        refine va_get (D := D) (ci := 5) (v := .ref (a 24)) (C := RX5) (T := TX5) (N := 8) hx hb hts hin5 hown hK hP 23 rfl rfl 2 (by decide) (hts (.fieldLink RX5 9 "MissedPoints$Reader" "links" "[I") (by decide +kernel)) (fun _ h9 => h9) rfl dX5_readAll_9 ?_
        refine lv_iload_n hx hb dX5_readAll_12 rfl (lv_at hl 1 rfl) ?_
        refine lv_iconst (v := 0) hx hb dX5_readAll_13 (by decide) ?_
        refine ks_ast hx hb hK hP hD hS rfl (k := 24) rfl sx_24 (rg_in g41803 (by decide) (by decide)) dX5_readAll_14 (fun u H locs hP hD hS => ?_)
        refine wk_iinc (lv' := fun r => [(1, .int r), (0, .ref (a 23))]) (e1 := 1) (f := 12) hx hb dX5_readAll_15 hl (k := 1) rfl (by decide) g41803 (by decide) (fun _ => rfl) (fun r41804 ls hr41804 er41804 hl => ?_)
        refine lv_goto (tgt := 2) hx hb dX5_readAll_18 (by decide) ?_
        exact ih2 r41804 u _ _ ls (show Rg 0 12 r41804 from rg_w hr41804 (by decide) (by decide)) hP hD hS (lv_sub (l' := [(0, .ref (a 23)), (1, .int r41804)]) hl [1, 0] rfl) (me_up hm2 er41804 (by decide))
  refine lv_iconst (v := 0) hx hb dX5_readAll_0 (by decide) ?_
  refine lv_istore_n (lv' := [(1, .int 0), (0, .ref (a 23))]) hx hb dX5_readAll_1 rfl hl (by decide) rfl (fun ls hl => ?_)
  exact lp2 13 (0 : Int32) u _ _ ls (by decide : Rg 0 12 (0 : Int32)) hP hD hS (lv_sub (l' := [(0, .ref (a 23)), (1, .int 0)]) hl [1, 0] rfl) (me_i (by decide : Rg 0 12 (0 : Int32)) (by decide))
set_option maxHeartbeats 4000000 in
set_option maxRecDepth 100000 in
theorem k_X9_becomeFirst (l : Launch) (D : va_G) (cI cS : ClassId) (sz : Nat) (a : Nat → Nat) (na nc N : Nat) (L u0 : SU) (hL : TyX L) (hN : N = 0 ∨ N = 24576) : Met l yX9_becomeFirst wsX9_becomeFirst ({ frames := 18, cells := 0, slots := 0, locals := 720 }) (PQ D cI cS (wX cI cS a na nc N L u0) sz [.ref (a 34)]) (QE (S := SU) D (wX cI cS a na nc N L u0) (wX cI cS a na nc N L) sz (fun _ => True)) 0 0 (va_A (wX cI cS a na nc N L u0) sz) := by
  refine Met.ofW (cc := cX9_becomeFirst) (maxL := 1) (ret := none) (by decide) rfl ?_
  intro p e s m args below meth c s₁ B hml hv
  obtain ⟨rfl, hsz, hP, hKK, hD0⟩ := hv
  have hx := B.exec
  have hb := B.bytes
  have hr := B.returns
  have hts := atoms_spec (ws := wsX9_becomeFirst) B.pre
  have hown : s.vm.findClass RX9 = some m.cls := findClass_of_methodNamed B.named
  have hlocks := B.notSynchronized
  have hK := hKK.1
  have hin9 : ∀ w ∈ wsX90, w ∈ wsX9_becomeFirst := by decide +kernel
  subst hsz
  have hD := hD0.self (sz := s.heap.size)
  obtain ⟨A, hAe⟩ : ∃ A, A = va_A (wX cI cS a na nc N L u0) s.heap.size := ⟨_, rfl⟩
  rw [← hAe] at hD
  have hA : ∀ q : Nat, s.heap.size ≤ q → A q := fun q h => by rw [hAe]; exact Or.inr h
  have hS : va_S A s.heap s.heap [] := va_S.rf
  have hl := lv_entry ([.ref (a 34)]) (n := 1) (Nat.le_of_ble_eq_true rfl)
  rw [lg_entry_eq]
  generalize (lg_sl ([.ref (a 34)]) ++ List.replicate (1 - (lg_sl ([.ref (a 34)])).length) Slot.unset).toArray = ls at hl ⊢
  have hl : lv_has ls 1 [(0, .ref (a 34))] := hl
  obtain ⟨u, hu9⟩ : ∃ u : SU, u = u0 := ⟨_, rfl⟩
  rw [← hu9] at hP hD
  refine lv_aload_n hx hb dX9_becomeFirst_0 rfl (lv_at hl 0 rfl) ?_
  refine va_get (D := D) (ci := 9) (v := .ref (a 7)) (C := RX9) (T := TX9) (N := 6) hx hb hts hin9 hown hK hP 34 rfl rfl 1 (by decide) (hts (.fieldLink RX9 25 "MissedPoints$Told" "pairs" "LMissedPoints$Pairs;") (by decide +kernel)) (fun _ h9 => h9) rfl dX9_becomeFirst_1 ?_
  refine lv_aload_n hx hb dX9_becomeFirst_4 rfl (lv_at hl 0 rfl) ?_
  refine va_get (D := D) (ci := 9) (v := .ref (a 35)) (C := RX9) (T := TX9) (N := 6) hx hb hts hin9 hown hK hP 34 rfl rfl 2 (by decide) (hts (.fieldLink RX9 9 "MissedPoints$Told" "mates" "[I") (by decide +kernel)) (fun _ h9 => h9) rfl dX9_becomeFirst_5 ?_
  refine wk_qv (wX cI cS a na nc N L) u (As := [.ref (a 35)]) (rest := []) ⟨hx, hb, hml, hown, hts⟩ (k_X3_layFirst l D cI cS _ a na nc N L u hL hN) hKK hP hD hS hA 7 (ci := 3) rfl rfl (cwV 1 hts gX9_becomeFirst_X3_layFirst rfl rfl rfl (by decide +kernel) ⟨Nat.le_of_ble_eq_true rfl, Nat.le_of_ble_eq_true rfl⟩) rfl hl.1 rfl (Nat.le_of_ble_eq_true rfl) dX9_becomeFirst_8 ⟨Nat.le_of_ble_eq_true rfl, Nat.le_of_ble_eq_true rfl⟩ (fun u H locs hr41806 hP hD hS => ?_)
  subst hAe
  exact W.vret hx hb hr (fun t ht hW => ⟨⟨u, rfl, trivial, by rw [ht]; exact hP, hD⟩, hS.F ht⟩) hS.2.2 dX9_becomeFirst_11
theorem dX9_mateOf_0 : decode cX9_mateOf 0 = .ok (.iload_n 1, 1) := by decide +kernel
theorem dX9_mateOf_1 : decode cX9_mateOf 1 = .ok (.ifCond .lt 18, 3) := by decide +kernel
theorem dX9_mateOf_10 : decode cX9_mateOf 10 = .ok (.aload_n 0, 1) := by decide +kernel
theorem dX9_mateOf_11 : decode cX9_mateOf 11 = .ok (.getfield 9, 3) := by decide +kernel
theorem dX9_mateOf_14 : decode cX9_mateOf 14 = .ok (.iload_n 1, 1) := by decide +kernel
theorem dX9_mateOf_15 : decode cX9_mateOf 15 = .ok (.iaload, 1) := by decide +kernel
theorem dX9_mateOf_16 : decode cX9_mateOf 16 = .ok (.goto 4, 3) := by decide +kernel
theorem dX9_mateOf_19 : decode cX9_mateOf 19 = .ok (.iconst (-1), 1) := by decide +kernel
theorem dX9_mateOf_20 : decode cX9_mateOf 20 = .ok (.ireturn, 1) := by decide +kernel
theorem dX9_mateOf_4 : decode cX9_mateOf 4 = .ok (.iload_n 1, 1) := by decide +kernel
theorem dX9_mateOf_5 : decode cX9_mateOf 5 = .ok (.bipush 12, 2) := by decide +kernel
theorem dX9_mateOf_7 : decode cX9_mateOf 7 = .ok (.if_icmp .ge 12, 3) := by decide +kernel
set_option maxHeartbeats 4000000 in
set_option maxRecDepth 100000 in
theorem k_X9_mateOf (l : Launch) (D : va_G) (cI cS : ClassId) (a : Nat → Nat) (na nc N : Nat) (L u : SU) (hL : TyX L) (hN : N = 0 ∨ N = 24576) (x0 : Int32) : Met l yX9_mateOf wsX9_mateOf ({ frames := 0, cells := 0, slots := 0, locals := 0 }) (PS D cI cS (wX cI cS a na nc N L u) [.ref (a 34), .int x0]) (vp_Si (fun r => Rg (-2147483648) 2147483647 r ∧ True)) 0 0 (fun _ => False) := by
  refine Met.ofW (cc := cX9_mateOf) (maxL := 2) (ret := (some .int)) (by decide) rfl ?_
  intro p e s m args below meth c s₁ B hml hv
  obtain ⟨rfl, hP, hKK⟩ := hv
  have hx := B.exec
  have hb := B.bytes
  have hr := B.returns
  have hts := atoms_spec (ws := wsX9_mateOf) B.pre
  have hown : s.vm.findClass RX9 = some m.cls := findClass_of_methodNamed B.named
  have hlocks := B.notSynchronized
  have hK := hKK.1
  have hin9 : ∀ w ∈ wsX90, w ∈ wsX9_mateOf := by decide +kernel
  have hl := lv_entry ([.ref (a 34), .int x0]) (n := 2) (Nat.le_of_ble_eq_true rfl)
  rw [lg_entry_eq]
  generalize (lg_sl ([.ref (a 34), .int x0]) ++ List.replicate (2 - (lg_sl ([.ref (a 34), .int x0])).length) Slot.unset).toArray = ls at hl ⊢
  have hl : lv_has ls 2 [(0, .ref (a 34)), (1, .int x0)] := hl
  refine lv_iload_n hx hb dX9_mateOf_0 rfl (lv_at hl 1 rfl) ?_
  refine lv_if_lt (tgt := 19) hx hb dX9_mateOf_1 (by decide) (fun c41814 => ?_) (fun c41814 => ?_)
  · have g41815 : Rg (-2147483648) (-1) x0 := rg_ltl (rg_any x0) (by decide : Rg 0 0 (0 : Int32)) c41814 (by decide)
    refine lv_iconst (v := (-1)) hx hb dX9_mateOf_19 (by decide) ?_
    exact W.iret (v := (-1)) hx hb hr (fun t ht hW => ⟨_, rfl, ⟨(by decide : Rg (-2147483648) 2147483647 ((-1) : Int32)), trivial⟩, ht⟩) (fun q hq => absurd hq List.not_mem_nil) dX9_mateOf_20
  · have g41816 : Rg 0 2147483647 x0 := rg_ler (by decide : Rg 0 0 (0 : Int32)) (rg_any x0) (rg_nlt c41814) (by decide)
    refine lv_iload_n hx hb dX9_mateOf_4 rfl (lv_at hl 1 rfl) ?_
    refine lv_bipush (v := 12) hx hb dX9_mateOf_5 (by decide) ?_
    refine lv_icmp_ge (tgt := 19) hx hb dX9_mateOf_7 (by decide) (fun c41817 => ?_) (fun c41817 => ?_)
    · have g41818 : Rg 12 2147483647 x0 := rg_ler (by decide : Rg 12 12 (12 : Int32)) g41816 c41817 (by decide)
      refine lv_iconst (v := (-1)) hx hb dX9_mateOf_19 (by decide) ?_
      exact W.iret (v := (-1)) hx hb hr (fun t ht hW => ⟨_, rfl, ⟨(by decide : Rg (-2147483648) 2147483647 ((-1) : Int32)), trivial⟩, ht⟩) (fun q hq => absurd hq List.not_mem_nil) dX9_mateOf_20
    · have g41819 : Rg 0 11 x0 := rg_ltl g41816 (by decide : Rg 12 12 (12 : Int32)) (rg_nle c41817) (by decide)
      refine lv_aload_n hx hb dX9_mateOf_10 rfl (lv_at hl 0 rfl) ?_
      refine va_get (D := D) (ci := 9) (v := .ref (a 35)) (C := RX9) (T := TX9) (N := 6) hx hb hts hin9 hown hK hP 34 rfl rfl 2 (by decide) (hts (.fieldLink RX9 9 "MissedPoints$Told" "mates" "[I") (by decide +kernel)) (fun _ h9 => h9) rfl dX9_mateOf_11 ?_
      refine lv_iload_n hx hb dX9_mateOf_14 rfl (lv_at hl 1 rfl) ?_
      refine wk_aldA hx hb hK hP 35 0 rfl rfl (rg_in g41819 (by decide) (by decide)) dX9_mateOf_15 (fun r41820 => ?_)
      refine lv_goto (tgt := 20) hx hb dX9_mateOf_16 (by decide) ?_
      exact W.iret (v := r41820) hx hb hr (fun t ht hW => ⟨_, rfl, ⟨(rg_any r41820), trivial⟩, ht⟩) (fun q hq => absurd hq List.not_mem_nil) dX9_mateOf_20
theorem dX9_missed_0 : decode cX9_missed 0 = .ok (.iconst 0, 1) := by decide +kernel
theorem dX9_missed_1 : decode cX9_missed 1 = .ok (.istore_n 1, 1) := by decide +kernel
theorem dX9_missed_12 : decode cX9_missed 12 = .ok (.if_icmp .ge 24, 3) := by decide +kernel
theorem dX9_missed_15 : decode cX9_missed 15 = .ok (.aload_n 0, 1) := by decide +kernel
theorem dX9_missed_16 : decode cX9_missed 16 = .ok (.getfield 9, 3) := by decide +kernel
theorem dX9_missed_19 : decode cX9_missed 19 = .ok (.iload_n 2, 1) := by decide +kernel
theorem dX9_missed_2 : decode cX9_missed 2 = .ok (.iconst 0, 1) := by decide +kernel
theorem dX9_missed_20 : decode cX9_missed 20 = .ok (.iaload, 1) := by decide +kernel
theorem dX9_missed_21 : decode cX9_missed 21 = .ok (.ifCond .ge 9, 3) := by decide +kernel
theorem dX9_missed_24 : decode cX9_missed 24 = .ok (.iload_n 1, 1) := by decide +kernel
theorem dX9_missed_25 : decode cX9_missed 25 = .ok (.iconst 1, 1) := by decide +kernel
theorem dX9_missed_26 : decode cX9_missed 26 = .ok (.iload_n 2, 1) := by decide +kernel
theorem dX9_missed_27 : decode cX9_missed 27 = .ok (.ishl, 1) := by decide +kernel
theorem dX9_missed_28 : decode cX9_missed 28 = .ok (.ior, 1) := by decide +kernel
theorem dX9_missed_29 : decode cX9_missed 29 = .ok (.istore_n 1, 1) := by decide +kernel
theorem dX9_missed_3 : decode cX9_missed 3 = .ok (.istore_n 2, 1) := by decide +kernel
theorem dX9_missed_30 : decode cX9_missed 30 = .ok (.iinc 2 1, 3) := by decide +kernel
theorem dX9_missed_33 : decode cX9_missed 33 = .ok (.goto (-29), 3) := by decide +kernel
theorem dX9_missed_36 : decode cX9_missed 36 = .ok (.iload_n 1, 1) := by decide +kernel
theorem dX9_missed_37 : decode cX9_missed 37 = .ok (.ireturn, 1) := by decide +kernel
theorem dX9_missed_4 : decode cX9_missed 4 = .ok (.iload_n 2, 1) := by decide +kernel
theorem dX9_missed_5 : decode cX9_missed 5 = .ok (.aload_n 0, 1) := by decide +kernel
theorem dX9_missed_6 : decode cX9_missed 6 = .ok (.getfield 21, 3) := by decide +kernel
theorem dX9_missed_9 : decode cX9_missed 9 = .ok (.getfield 41, 3) := by decide +kernel
set_option maxHeartbeats 4000000 in
set_option maxRecDepth 100000 in
theorem k_X9_missed (l : Launch) (D : va_G) (cI cS : ClassId) (a : Nat → Nat) (na nc N : Nat) (L u : SU) (hL : TyX L) (hN : N = 0 ∨ N = 24576) : Met l yX9_missed wsX9_missed ({ frames := 0, cells := 0, slots := 0, locals := 0 }) (PS D cI cS (wX cI cS a na nc N L u) [.ref (a 34)]) (vp_Si (fun r => Rg 0 4095 r ∧ True)) 0 0 (fun _ => False) := by
  refine Met.ofW (cc := cX9_missed) (maxL := 3) (ret := (some .int)) (by decide) rfl ?_
  intro p e s m args below meth c s₁ B hml hv
  obtain ⟨rfl, hP, hKK⟩ := hv
  have hx := B.exec
  have hb := B.bytes
  have hr := B.returns
  have hts := atoms_spec (ws := wsX9_missed) B.pre
  have hown : s.vm.findClass RX9 = some m.cls := findClass_of_methodNamed B.named
  have hlocks := B.notSynchronized
  have hK := hKK.1
  have hin2 : ∀ w ∈ wsX20, w ∈ wsX9_missed := by decide +kernel
  have hin9 : ∀ w ∈ wsX90, w ∈ wsX9_missed := by decide +kernel
  have hl := lv_entry ([.ref (a 34)]) (n := 3) (Nat.le_of_ble_eq_true rfl)
  rw [lg_entry_eq]
  generalize (lg_sl ([.ref (a 34)]) ++ List.replicate (3 - (lg_sl ([.ref (a 34)])).length) Slot.unset).toArray = ls at hl ⊢
  have hl : lv_has ls 3 [(0, .ref (a 34))] := hl
  have lp4 : ∀ (n4 : Nat) (y4_l1 : Int32) (y4_l2 : Int32) (ls : Array Slot), Rg 0 4095 y4_l1 → Rg 0 12 y4_l2 → lv_has ls 3 [(0, .ref (a 34)), (1, .int y4_l1), (2, .int y4_l2)] → 12 - y4_l2.toInt < (n4 : Int) → W p l e (headSpec wsX9_missed ({ frames := 0, cells := 0, slots := 0, locals := 0 })).room s m ([.ref (a 34)]).toArray below meth c s.heap [] 0 0 (MQ below (vp_Si (fun r => Rg 0 4095 r ∧ True)) ([.ref (a 34)]).toArray s 0 0 (fun _ => False)) (F0 m 4 ls []) := by
    intro n4
    induction n4 with
    | zero =>
      intro y4_l1 y4_l2 ls g4_l1 g4_l2 hl hm4
      exact absurd rfl (me_z g4_l2 hm4)
    | succ n4 ih4 =>
      intro y4_l1 y4_l2 ls g4_l1 g4_l2 hl hm4
      refine lv_iload_n hx hb dX9_missed_4 rfl (lv_at hl 2 rfl) ?_
      refine lv_aload_n hx hb dX9_missed_5 rfl (lv_at hl 0 rfl) ?_
      refine va_get (D := D) (ci := 9) (v := .ref (a 1)) (C := RX9) (T := TX9) (N := 6) hx hb hts hin9 hown hK hP 34 rfl rfl 0 (by decide) (hts (.fieldLink RX9 21 "MissedPoints$Told" "net" "LMissedPoints$Net;") (by decide +kernel)) (fun _ h9 => h9) rfl dX9_missed_6 ?_
      refine va_getN (D := D) (ci := 2) (v := .int (L 1 1)) (C := RX2) (T := TX2) (N := 3) hx hb hts hin2 hown hK hP 1 rfl rfl 1 (by decide) (va_Nw.use rfl hKK.2.2.2.2.2.2.2.2.2.2.2.2.2.2.2.2.1) (fun _ h9 => h9) rfl dX9_missed_9 ?_
      refine lv_icmp_ge (tgt := 36) hx hb dX9_missed_12 (by decide) (fun c41916 => ?_) (fun c41916 => ?_)
      · refine lv_iload_n hx hb dX9_missed_36 rfl (lv_at hl 1 rfl) ?_
        exact W.iret (v := y4_l1) hx hb hr (fun t ht hW => ⟨_, rfl, ⟨g4_l1, trivial⟩, ht⟩) (fun q hq => absurd hq List.not_mem_nil) dX9_missed_37
      · have g41917 : Rg 1 12 (L 1 1) := rg_ltr g4_l2 hL.1 (rg_nle c41916) (by decide)
        have g41918 : Rg 0 11 y4_l2 := rg_ltl g4_l2 hL.1 (rg_nle c41916) (by decide)
        refine lv_aload_n hx hb dX9_missed_15 rfl (lv_at hl 0 rfl) ?_
        refine va_get (D := D) (ci := 9) (v := .ref (a 35)) (C := RX9) (T := TX9) (N := 6) hx hb hts hin9 hown hK hP 34 rfl rfl 2 (by decide) (hts (.fieldLink RX9 9 "MissedPoints$Told" "mates" "[I") (by decide +kernel)) (fun _ h9 => h9) rfl dX9_missed_16 ?_
        refine lv_iload_n hx hb dX9_missed_19 rfl (lv_at hl 2 rfl) ?_
        refine wk_aldA hx hb hK hP 35 0 rfl rfl (rg_in g41918 (by decide) (by decide)) dX9_missed_20 (fun r41919 => ?_)
        refine lv_if_ge (tgt := 30) hx hb dX9_missed_21 (by decide) (fun c41920 => ?_) (fun c41920 => ?_)
        · have g41921 : Rg 0 2147483647 r41919 := rg_ler (by decide : Rg 0 0 (0 : Int32)) (rg_any r41919) c41920 (by decide)
          refine wk_iinc (lv' := fun r => [(2, .int r), (0, .ref (a 34)), (1, .int y4_l1)]) (e1 := 1) (f := 12) hx hb dX9_missed_30 hl (k := 2) rfl (by decide) g41918 (by decide) (fun _ => rfl) (fun r41922 ls hr41922 er41922 hl => ?_)
          refine lv_goto (tgt := 4) hx hb dX9_missed_33 (by decide) ?_
          exact ih4 y4_l1 r41922 ls g4_l1 (show Rg 0 12 r41922 from rg_w hr41922 (by decide) (by decide)) (lv_sub (l' := [(0, .ref (a 34)), (1, .int y4_l1), (2, .int r41922)]) hl [1, 2, 0] rfl) (me_up hm4 er41922 (by decide))
        · have g41923 : Rg (-2147483648) (-1) r41919 := rg_ltl (rg_any r41919) (by decide : Rg 0 0 (0 : Int32)) (rg_nle c41920) (by decide)
          refine lv_iload_n hx hb dX9_missed_24 rfl (lv_at hl 1 rfl) ?_
          refine lv_iconst (v := 1) hx hb dX9_missed_25 (by decide) ?_
          refine lv_iload_n hx hb dX9_missed_26 rfl (lv_at hl 2 rfl) ?_
          refine wk_ishl1 (f := 2048) hx hb dX9_missed_27 g41918 (by decide) (fun r41924 hr41924 qr41924 => ?_)
          refine wk_ior 12 (e1 := 1) (f := 4095) hx hb dX9_missed_28 g4_l1 hr41924 (by decide) (fun r41925 hr41925 qr41925 => ?_)
          refine lv_istore_n (lv' := [(1, .int r41925), (0, .ref (a 34)), (2, .int y4_l2)]) hx hb dX9_missed_29 rfl hl (by decide) rfl (fun ls hl => ?_)
          refine wk_iinc (lv' := fun r => [(2, .int r), (1, .int r41925), (0, .ref (a 34))]) (e1 := 1) (f := 12) hx hb dX9_missed_30 hl (k := 2) rfl (by decide) g41918 (by decide) (fun _ => rfl) (fun r41926 ls hr41926 er41926 hl => ?_)
          refine lv_goto (tgt := 4) hx hb dX9_missed_33 (by decide) ?_
          exact ih4 r41925 r41926 ls (show Rg 0 4095 r41925 from rg_w hr41925 (by decide) (by decide)) (show Rg 0 12 r41926 from rg_w hr41926 (by decide) (by decide)) (lv_sub (l' := [(0, .ref (a 34)), (1, .int r41925), (2, .int r41926)]) hl [2, 1, 0] rfl) (me_up hm4 er41926 (by decide))
  refine lv_iconst (v := 0) hx hb dX9_missed_0 (by decide) ?_
  refine lv_istore_n (lv' := [(1, .int 0), (0, .ref (a 34))]) hx hb dX9_missed_1 rfl hl (by decide) rfl (fun ls hl => ?_)
  refine lv_iconst (v := 0) hx hb dX9_missed_2 (by decide) ?_
  refine lv_istore_n (lv' := [(2, .int 0), (1, .int 0), (0, .ref (a 34))]) hx hb dX9_missed_3 rfl hl (by decide) rfl (fun ls hl => ?_)
  exact lp4 13 (0 : Int32) (0 : Int32) ls (by decide : Rg 0 4095 (0 : Int32)) (by decide : Rg 0 12 (0 : Int32)) (lv_sub (l' := [(0, .ref (a 34)), (1, .int 0), (2, .int 0)]) hl [2, 1, 0] rfl) (me_i (by decide : Rg 0 12 (0 : Int32)) (by decide))
set_option maxRecDepth 20000 in
theorem ggX9_lineCount_J6_bitCount_0f7a4 : GoodIn wsX9_lineCount wsJ6_bitCount_0f7a4 := goodIn_r _ [11, 12, 13, 14] (by decide +kernel) (by decide +kernel)
set_option maxRecDepth 20000 in
theorem gX9_lineCount_J6_bitCount_0f7a4 : GoodIn wsX9_lineCount (va_wsS RX9 63 yJ6_bitCount_0f7a4 wsJ6_bitCount_0f7a4) := goodIn_app (goodIn_of _ (by decide +kernel)) ggX9_lineCount_J6_bitCount_0f7a4
set_option maxRecDepth 20000 in
theorem ggX9_lineCount_X9_missed : GoodIn wsX9_lineCount wsX9_missed := goodIn_r _ [6, 1, 7, 15, 16, 17, 18, 19, 20, 21, 22, 23] (by decide +kernel) (by decide +kernel)
set_option maxRecDepth 20000 in
theorem gX9_lineCount_X9_missed : GoodIn wsX9_lineCount (wsV RX9 59 RX9 yX9_missed wsX9_missed) := goodIn_app (goodIn_of _ (by decide +kernel)) ggX9_lineCount_X9_missed
theorem dX9_lineCount_0 : decode cX9_lineCount 0 = .ok (.aload_n 0, 1) := by decide +kernel
theorem dX9_lineCount_1 : decode cX9_lineCount 1 = .ok (.getfield 21, 3) := by decide +kernel
theorem dX9_lineCount_11 : decode cX9_lineCount 11 = .ok (.invokestatic 63, 3) := by decide +kernel
theorem dX9_lineCount_14 : decode cX9_lineCount 14 = .ok (.isub, 1) := by decide +kernel
theorem dX9_lineCount_15 : decode cX9_lineCount 15 = .ok (.iconst 2, 1) := by decide +kernel
theorem dX9_lineCount_16 : decode cX9_lineCount 16 = .ok (.idiv, 1) := by decide +kernel
theorem dX9_lineCount_17 : decode cX9_lineCount 17 = .ok (.ireturn, 1) := by decide +kernel
theorem dX9_lineCount_4 : decode cX9_lineCount 4 = .ok (.getfield 41, 3) := by decide +kernel
theorem dX9_lineCount_7 : decode cX9_lineCount 7 = .ok (.aload_n 0, 1) := by decide +kernel
theorem dX9_lineCount_8 : decode cX9_lineCount 8 = .ok (.invokevirtual 59, 3) := by decide +kernel
set_option maxHeartbeats 4000000 in
set_option maxRecDepth 100000 in
theorem k_X9_lineCount (l : Launch) (D : va_G) (cI cS : ClassId) (a : Nat → Nat) (na nc N : Nat) (L u : SU) (hL : TyX L) (hN : N = 0 ∨ N = 24576) : Met l yX9_lineCount wsX9_lineCount ({ frames := 1, cells := 0, slots := 0, locals := 40 }) (PS D cI cS (wX cI cS a na nc N L u) [.ref (a 34)]) (vp_Si (fun r => Rg (-2147483648) 2147483647 r ∧ True)) 0 0 (fun _ => False) := by
  refine Met.ofW (cc := cX9_lineCount) (maxL := 1) (ret := (some .int)) (by decide) rfl ?_
  intro p e s m args below meth c s₁ B hml hv
  obtain ⟨rfl, hP, hKK⟩ := hv
  have hx := B.exec
  have hb := B.bytes
  have hr := B.returns
  have hts := atoms_spec (ws := wsX9_lineCount) B.pre
  have hown : s.vm.findClass RX9 = some m.cls := findClass_of_methodNamed B.named
  have hlocks := B.notSynchronized
  have hK := hKK.1
  have hin2 : ∀ w ∈ wsX20, w ∈ wsX9_lineCount := by decide +kernel
  have hin9 : ∀ w ∈ wsX90, w ∈ wsX9_lineCount := by decide +kernel
  have hl := lv_entry ([.ref (a 34)]) (n := 1) (Nat.le_of_ble_eq_true rfl)
  rw [lg_entry_eq]
  generalize (lg_sl ([.ref (a 34)]) ++ List.replicate (1 - (lg_sl ([.ref (a 34)])).length) Slot.unset).toArray = ls at hl ⊢
  have hl : lv_has ls 1 [(0, .ref (a 34))] := hl
  refine lv_aload_n hx hb dX9_lineCount_0 rfl (lv_at hl 0 rfl) ?_
  refine va_get (D := D) (ci := 9) (v := .ref (a 1)) (C := RX9) (T := TX9) (N := 6) hx hb hts hin9 hown hK hP 34 rfl rfl 0 (by decide) (hts (.fieldLink RX9 21 "MissedPoints$Told" "net" "LMissedPoints$Net;") (by decide +kernel)) (fun _ h9 => h9) rfl dX9_lineCount_1 ?_
  refine va_getN (D := D) (ci := 2) (v := .int (L 1 1)) (C := RX2) (T := TX2) (N := 3) hx hb hts hin2 hown hK hP 1 rfl rfl 1 (by decide) (va_Nw.use rfl hKK.2.2.2.2.2.2.2.2.2.2.2.2.2.2.2.2.1) (fun _ h9 => h9) rfl dX9_lineCount_4 ?_
  refine lv_aload_n hx hb dX9_lineCount_7 rfl (lv_at hl 0 rfl) ?_
  refine wk_sv 34 (As := []) (rest := [.int (L 1 1)]) ⟨hx, hb, hml, hown, hts⟩ (k_X9_missed l D cI cS a na nc N L u hL hN) hKK hP (ci := 9) rfl rfl (cwV 0 hts gX9_lineCount_X9_missed rfl rfl rfl (by decide +kernel) ⟨Nat.le_of_ble_eq_true rfl, Nat.le_of_ble_eq_true rfl⟩) rfl hl.1 rfl (Nat.le_of_ble_eq_true rfl) dX9_lineCount_8 ⟨Nat.le_of_ble_eq_true rfl, Nat.le_of_ble_eq_true rfl⟩ (fun r41931 hr41931 => ?_)
  refine lz_ss (As := [.int r41931]) (rest := [.int (L 1 1)]) ⟨hx, hb, hml, hown, hts⟩ (k_J6_bitCount_0f7a4 l D cI cS r41931) hKK (hP.sub (ws' := []) [] rfl) (va_cwS 1 hts gX9_lineCount_J6_bitCount_0f7a4 rfl rfl rfl (by decide +kernel) ⟨Nat.le_of_ble_eq_true rfl, Nat.le_of_ble_eq_true rfl⟩) rfl hl.1 rfl (Nat.le_of_ble_eq_true rfl) dX9_lineCount_11 ⟨Nat.le_of_ble_eq_true rfl, Nat.le_of_ble_eq_true rfl⟩ (fun r41932 hr41932 => ?_)
  refine lv_isub hx hb dX9_lineCount_14 ?_
  refine wk_topP (P := fun r => r = (L 1 1) - r41932) rfl (fun r41933 qr41933 => ?_)
  refine lv_iconst (v := 2) hx hb dX9_lineCount_15 (by decide) ?_
  refine lv_idiv hx hb dX9_lineCount_16 (by decide) ?_
  refine wk_any (fun r41934 => ?_)
  exact W.iret (v := r41934) hx hb hr (fun t ht hW => ⟨_, rfl, ⟨(rg_any r41934), trivial⟩, ht⟩) (fun q hq => absurd hq List.not_mem_nil) dX9_lineCount_17
set_option maxRecDepth 20000 in
theorem ggX9_readFrom_X2_joined : GoodIn wsX9_readFrom wsX2_joined := goodIn_r _ [18, 19, 20, 21, 22, 17, 23, 24, 25, 26, 27, 28, 38, 39, 40] (by decide +kernel) (by decide +kernel)
set_option maxRecDepth 20000 in
theorem gX9_readFrom_X2_joined : GoodIn wsX9_readFrom (wsV RX9 48 RX2 yX2_joined wsX2_joined) := goodIn_app (goodIn_of _ (by decide +kernel)) ggX9_readFrom_X2_joined
set_option maxRecDepth 20000 in
theorem ggX9_readFrom_X6_at : GoodIn wsX9_readFrom wsX6_at := goodIn_r _ [7, 8, 9, 10, 11, 6, 12, 13, 29, 30, 31] (by decide +kernel) (by decide +kernel)
set_option maxRecDepth 20000 in
theorem gX9_readFrom_X6_at : GoodIn wsX9_readFrom (wsV RX9 44 RX6 yX6_at wsX6_at) := goodIn_app (goodIn_of _ (by decide +kernel)) ggX9_readFrom_X6_at
theorem dX9_readFrom_0 : decode cX9_readFrom 0 = .ok (.aload_n 1, 1) := by decide +kernel
theorem dX9_readFrom_1 : decode cX9_readFrom 1 = .ok (.getfield 35, 3) := by decide +kernel
theorem dX9_readFrom_101 : decode cX9_readFrom 101 = .ok (.iconst (-1), 1) := by decide +kernel
theorem dX9_readFrom_102 : decode cX9_readFrom 102 = .ok (.iastore, 1) := by decide +kernel
theorem dX9_readFrom_103 : decode cX9_readFrom 103 = .ok (.iinc 2 1, 3) := by decide +kernel
theorem dX9_readFrom_106 : decode cX9_readFrom 106 = .ok (.goto (-35), 3) := by decide +kernel
theorem dX9_readFrom_109 : decode cX9_readFrom 109 = .ok (.iconst 1, 1) := by decide +kernel
theorem dX9_readFrom_11 : decode cX9_readFrom 11 = .ok (.if_icmp .eq 5, 3) := by decide +kernel
theorem dX9_readFrom_110 : decode cX9_readFrom 110 = .ok (.ireturn, 1) := by decide +kernel
theorem dX9_readFrom_14 : decode cX9_readFrom 14 = .ok (.iconst 0, 1) := by decide +kernel
theorem dX9_readFrom_15 : decode cX9_readFrom 15 = .ok (.ireturn, 1) := by decide +kernel
theorem dX9_readFrom_16 : decode cX9_readFrom 16 = .ok (.iconst 0, 1) := by decide +kernel
theorem dX9_readFrom_17 : decode cX9_readFrom 17 = .ok (.istore_n 2, 1) := by decide +kernel
theorem dX9_readFrom_18 : decode cX9_readFrom 18 = .ok (.iload_n 2, 1) := by decide +kernel
theorem dX9_readFrom_19 : decode cX9_readFrom 19 = .ok (.aload_n 0, 1) := by decide +kernel
theorem dX9_readFrom_20 : decode cX9_readFrom 20 = .ok (.getfield 21, 3) := by decide +kernel
theorem dX9_readFrom_23 : decode cX9_readFrom 23 = .ok (.getfield 41, 3) := by decide +kernel
theorem dX9_readFrom_26 : decode cX9_readFrom 26 = .ok (.if_icmp .ge 43, 3) := by decide +kernel
theorem dX9_readFrom_29 : decode cX9_readFrom 29 = .ok (.aload_n 1, 1) := by decide +kernel
theorem dX9_readFrom_30 : decode cX9_readFrom 30 = .ok (.iload_n 2, 1) := by decide +kernel
theorem dX9_readFrom_31 : decode cX9_readFrom 31 = .ok (.invokevirtual 44, 3) := by decide +kernel
theorem dX9_readFrom_34 : decode cX9_readFrom 34 = .ok (.istore_n 3, 1) := by decide +kernel
theorem dX9_readFrom_35 : decode cX9_readFrom 35 = .ok (.iload_n 3, 1) := by decide +kernel
theorem dX9_readFrom_36 : decode cX9_readFrom 36 = .ok (.iconst (-1), 1) := by decide +kernel
theorem dX9_readFrom_37 : decode cX9_readFrom 37 = .ok (.if_icmp .eq 26, 3) := by decide +kernel
theorem dX9_readFrom_4 : decode cX9_readFrom 4 = .ok (.aload_n 0, 1) := by decide +kernel
theorem dX9_readFrom_40 : decode cX9_readFrom 40 = .ok (.aload_n 0, 1) := by decide +kernel
theorem dX9_readFrom_41 : decode cX9_readFrom 41 = .ok (.getfield 21, 3) := by decide +kernel
theorem dX9_readFrom_44 : decode cX9_readFrom 44 = .ok (.iload_n 2, 1) := by decide +kernel
theorem dX9_readFrom_45 : decode cX9_readFrom 45 = .ok (.iload_n 3, 1) := by decide +kernel
theorem dX9_readFrom_46 : decode cX9_readFrom 46 = .ok (.invokevirtual 48, 3) := by decide +kernel
theorem dX9_readFrom_49 : decode cX9_readFrom 49 = .ok (.ifCond .eq 12, 3) := by decide +kernel
theorem dX9_readFrom_5 : decode cX9_readFrom 5 = .ok (.getfield 21, 3) := by decide +kernel
theorem dX9_readFrom_52 : decode cX9_readFrom 52 = .ok (.aload_n 1, 1) := by decide +kernel
theorem dX9_readFrom_53 : decode cX9_readFrom 53 = .ok (.iload_n 3, 1) := by decide +kernel
theorem dX9_readFrom_54 : decode cX9_readFrom 54 = .ok (.invokevirtual 44, 3) := by decide +kernel
theorem dX9_readFrom_57 : decode cX9_readFrom 57 = .ok (.iload_n 2, 1) := by decide +kernel
theorem dX9_readFrom_58 : decode cX9_readFrom 58 = .ok (.if_icmp .eq 5, 3) := by decide +kernel
theorem dX9_readFrom_61 : decode cX9_readFrom 61 = .ok (.iconst 0, 1) := by decide +kernel
theorem dX9_readFrom_62 : decode cX9_readFrom 62 = .ok (.ireturn, 1) := by decide +kernel
theorem dX9_readFrom_63 : decode cX9_readFrom 63 = .ok (.iinc 2 1, 3) := by decide +kernel
theorem dX9_readFrom_66 : decode cX9_readFrom 66 = .ok (.goto (-48), 3) := by decide +kernel
theorem dX9_readFrom_69 : decode cX9_readFrom 69 = .ok (.iconst 0, 1) := by decide +kernel
theorem dX9_readFrom_70 : decode cX9_readFrom 70 = .ok (.istore_n 2, 1) := by decide +kernel
theorem dX9_readFrom_71 : decode cX9_readFrom 71 = .ok (.iload_n 2, 1) := by decide +kernel
theorem dX9_readFrom_72 : decode cX9_readFrom 72 = .ok (.bipush 12, 2) := by decide +kernel
theorem dX9_readFrom_74 : decode cX9_readFrom 74 = .ok (.if_icmp .ge 35, 3) := by decide +kernel
theorem dX9_readFrom_77 : decode cX9_readFrom 77 = .ok (.aload_n 0, 1) := by decide +kernel
theorem dX9_readFrom_78 : decode cX9_readFrom 78 = .ok (.getfield 9, 3) := by decide +kernel
theorem dX9_readFrom_8 : decode cX9_readFrom 8 = .ok (.getfield 41, 3) := by decide +kernel
theorem dX9_readFrom_81 : decode cX9_readFrom 81 = .ok (.iload_n 2, 1) := by decide +kernel
theorem dX9_readFrom_82 : decode cX9_readFrom 82 = .ok (.iload_n 2, 1) := by decide +kernel
theorem dX9_readFrom_83 : decode cX9_readFrom 83 = .ok (.aload_n 0, 1) := by decide +kernel
theorem dX9_readFrom_84 : decode cX9_readFrom 84 = .ok (.getfield 21, 3) := by decide +kernel
theorem dX9_readFrom_87 : decode cX9_readFrom 87 = .ok (.getfield 41, 3) := by decide +kernel
theorem dX9_readFrom_90 : decode cX9_readFrom 90 = .ok (.if_icmp .ge 11, 3) := by decide +kernel
theorem dX9_readFrom_93 : decode cX9_readFrom 93 = .ok (.aload_n 1, 1) := by decide +kernel
theorem dX9_readFrom_94 : decode cX9_readFrom 94 = .ok (.iload_n 2, 1) := by decide +kernel
theorem dX9_readFrom_95 : decode cX9_readFrom 95 = .ok (.invokevirtual 44, 3) := by decide +kernel
theorem dX9_readFrom_98 : decode cX9_readFrom 98 = .ok (.goto 4, 3) := by decide +kernel
set_option maxHeartbeats 4000000 in
set_option maxRecDepth 100000 in
theorem k_X9_readFrom (l : Launch) (D : va_G) (cI cS : ClassId) (sz : Nat) (a : Nat → Nat) (na nc N : Nat) (L u0 : SU) (hL : TyX L) (hN : N = 0 ∨ N = 24576) (q : Nat) (hq : q < 4) : Met l yX9_readFrom wsX9_readFrom ({ frames := 3, cells := 0, slots := 0, locals := 120 }) (PQ D cI cS (wX cI cS a na nc N L u0) sz [.ref (a 34), .ref (a (26 + 2 * q))]) (QF (S := SU) D (wX cI cS a na nc N L u0) (wX cI cS a na nc N L) sz (fun r _ => Rg 0 1 r ∧ True)) 0 0 (va_A (wX cI cS a na nc N L u0) sz) := by
  refine Met.ofW (cc := cX9_readFrom) (maxL := 4) (ret := (some .boolean)) (by decide) rfl ?_
  intro p e s m args below meth c s₁ B hml hv
  obtain ⟨rfl, hsz, hP, hKK, hD0⟩ := hv
  have hx := B.exec
  have hb := B.bytes
  have hr := B.returns
  have hts := atoms_spec (ws := wsX9_readFrom) B.pre
  have hown : s.vm.findClass RX9 = some m.cls := findClass_of_methodNamed B.named
  have hlocks := B.notSynchronized
  have hK := hKK.1
  have hin2 : ∀ w ∈ wsX20, w ∈ wsX9_readFrom := by decide +kernel
  have hin6 : ∀ w ∈ wsX60, w ∈ wsX9_readFrom := by decide +kernel
  have hin9 : ∀ w ∈ wsX90, w ∈ wsX9_readFrom := by decide +kernel
  subst hsz
  have hD := hD0.self (sz := s.heap.size)
  obtain ⟨A, hAe⟩ : ∃ A, A = va_A (wX cI cS a na nc N L u0) s.heap.size := ⟨_, rfl⟩
  rw [← hAe] at hD
  have hA : ∀ q : Nat, s.heap.size ≤ q → A q := fun q h => by rw [hAe]; exact Or.inr h
  have hS : va_S A s.heap s.heap [] := va_S.rf
  have hl := lv_entry ([.ref (a 34), .ref (a (26 + 2 * q))]) (n := 4) (Nat.le_of_ble_eq_true rfl)
  rw [lg_entry_eq]
  generalize (lg_sl ([.ref (a 34), .ref (a (26 + 2 * q))]) ++ List.replicate (4 - (lg_sl ([.ref (a 34), .ref (a (26 + 2 * q))])).length) Slot.unset).toArray = ls at hl ⊢
  have hl : lv_has ls 4 [(0, .ref (a 34)), (1, .ref (a (26 + 2 * q)))] := hl
  obtain ⟨u, hu9⟩ : ∃ u : SU, u = u0 := ⟨_, rfl⟩
  rw [← hu9] at hP hD
  have lp71 : ∀ (n71 : Nat) (y71_l2 : Int32) (u : SU) (H : Heap) (locs : List Loc) (ls : Array Slot), Rg 0 12 y71_l2 → va_P D cls (wX cI cS a na nc N L u) H → va_D A (wX cI cS a na nc N L u) → va_S A s.heap H locs → lv_has ls 4 [(0, .ref (a 34)), (1, .ref (a (26 + 2 * q))), (2, .int y71_l2)] → 12 - y71_l2.toInt < (n71 : Int) → W p l e (headSpec wsX9_readFrom ({ frames := 3, cells := 0, slots := 0, locals := 120 })).room s m ([.ref (a 34), .ref (a (26 + 2 * q))]).toArray below meth c H locs 0 0 (MQ below (QF (S := SU) D (wX cI cS a na nc N L u0) (wX cI cS a na nc N L) s.heap.size (fun r _ => Rg 0 1 r ∧ True)) ([.ref (a 34), .ref (a (26 + 2 * q))]).toArray s 0 0 (va_A (wX cI cS a na nc N L u0) s.heap.size)) (F0 m 71 ls []) := by
    intro n71
    induction n71 with
    | zero =>
      intro y71_l2 u H locs ls g71_l2 hP hD hS hl hm71
      exact absurd rfl (me_z g71_l2 hm71)
    | succ n71 ih71 =>
      intro y71_l2 u H locs ls g71_l2 hP hD hS hl hm71
      refine lv_iload_n hx hb dX9_readFrom_71 rfl (lv_at hl 2 rfl) ?_
      refine lv_bipush (v := 12) hx hb dX9_readFrom_72 (by decide) ?_
      refine lv_icmp_ge (tgt := 109) hx hb dX9_readFrom_74 (by decide) (fun c42168 => ?_) (fun c42168 => ?_)
      · have g42169 : Rg 12 12 y71_l2 := rg_ler (by decide : Rg 12 12 (12 : Int32)) g71_l2 c42168 (by decide)
        refine lv_iconst (v := 1) hx hb dX9_readFrom_109 (by decide) ?_
        subst hAe
        exact W.zret (v := 1) hx hb hr (by decide) (fun t ht hW => ⟨⟨_, u, rfl, ⟨(by decide : Rg 0 1 (1 : Int32)), trivial⟩, by rw [ht]; exact hP, hD⟩, hS.F ht⟩) hS.2.2 dX9_readFrom_110
      · have g42170 : Rg 0 11 y71_l2 := rg_ltl g71_l2 (by decide : Rg 12 12 (12 : Int32)) (rg_nle c42168) (by decide)
        refine lv_aload_n hx hb dX9_readFrom_77 rfl (lv_at hl 0 rfl) ?_
        refine va_get (D := D) (ci := 9) (v := .ref (a 35)) (C := RX9) (T := TX9) (N := 6) hx hb hts hin9 hown hK hP 34 rfl rfl 2 (by decide) (hts (.fieldLink RX9 9 "MissedPoints$Told" "mates" "[I") (by decide +kernel)) (fun _ h9 => h9) rfl dX9_readFrom_78 ?_
        refine lv_iload_n hx hb dX9_readFrom_81 rfl (lv_at hl 2 rfl) ?_
        refine lv_iload_n hx hb dX9_readFrom_82 rfl (lv_at hl 2 rfl) ?_
        refine lv_aload_n hx hb dX9_readFrom_83 rfl (lv_at hl 0 rfl) ?_
        refine va_get (D := D) (ci := 9) (v := .ref (a 1)) (C := RX9) (T := TX9) (N := 6) hx hb hts hin9 hown hK hP 34 rfl rfl 0 (by decide) (hts (.fieldLink RX9 21 "MissedPoints$Told" "net" "LMissedPoints$Net;") (by decide +kernel)) (fun _ h9 => h9) rfl dX9_readFrom_84 ?_
        refine va_getN (D := D) (ci := 2) (v := .int (L 1 1)) (C := RX2) (T := TX2) (N := 3) hx hb hts hin2 hown hK hP 1 rfl rfl 1 (by decide) (va_Nw.use rfl hKK.2.2.2.2.2.2.2.2.2.2.2.2.2.2.2.2.1) (fun _ h9 => h9) rfl dX9_readFrom_87 ?_
        refine lv_icmp_ge (tgt := 101) hx hb dX9_readFrom_90 (by decide) (fun c42171 => ?_) (fun c42171 => ?_)
        · have g42172 : Rg 0 11 (L 1 1) := rg_lel hL.1 g42170 c42171 (by decide)
          refine lv_iconst (v := (-1)) hx hb dX9_readFrom_101 (by decide) ?_
          refine ks_ast hx hb hK hP hD hS rfl (k := 35) rfl sx_35 (rg_in g42170 (by decide) (by decide)) dX9_readFrom_102 (fun u H locs hP hD hS => ?_)
          refine wk_iinc (lv' := fun r => [(2, .int r), (0, .ref (a 34)), (1, .ref (a (26 + 2 * q)))]) (e1 := 1) (f := 12) hx hb dX9_readFrom_103 hl (k := 2) rfl (by decide) g42170 (by decide) (fun _ => rfl) (fun r42173 ls hr42173 er42173 hl => ?_)
          refine lv_goto (tgt := 71) hx hb dX9_readFrom_106 (by decide) ?_
          exact ih71 r42173 u _ _ ls (show Rg 0 12 r42173 from rg_w hr42173 (by decide) (by decide)) hP hD hS (lv_sub (l' := [(0, .ref (a 34)), (1, .ref (a (26 + 2 * q))), (2, .int r42173)]) hl [1, 2, 0] rfl) (me_up hm71 er42173 (by decide))
        · have g42174 : Rg 1 12 (L 1 1) := rg_ltr g42170 hL.1 (rg_nle c42171) (by decide)
          refine lv_aload_n hx hb dX9_readFrom_93 rfl (lv_at hl 1 rfl) ?_
          refine lv_iload_n hx hb dX9_readFrom_94 rfl (lv_at hl 2 rfl) ?_
          refine wk_sv (26 + 2 * q) (As := [.int y71_l2]) (rest := [.int y71_l2, .ref (a 35)]) ⟨hx, hb, hml, hown, hts⟩ (k_X6_at l D cI cS a na nc N L u hL hN q hq y71_l2) hKK hP (ci := 6) rfl (gx_sh hq) (cwV 1 hts gX9_readFrom_X6_at rfl rfl rfl (by decide +kernel) ⟨Nat.le_of_ble_eq_true rfl, Nat.le_of_ble_eq_true rfl⟩) rfl hl.1 rfl (Nat.le_of_ble_eq_true rfl) dX9_readFrom_95 ⟨Nat.le_of_ble_eq_true rfl, Nat.le_of_ble_eq_true rfl⟩ (fun r42175 hr42175 => ?_)
          refine lv_goto (tgt := 102) hx hb dX9_readFrom_98 (by decide) ?_
          refine ks_ast hx hb hK hP hD hS rfl (k := 35) rfl sx_35 (rg_in g42170 (by decide) (by decide)) dX9_readFrom_102 (fun u H locs hP hD hS => ?_)
          refine wk_iinc (lv' := fun r => [(2, .int r), (0, .ref (a 34)), (1, .ref (a (26 + 2 * q)))]) (e1 := 1) (f := 12) hx hb dX9_readFrom_103 hl (k := 2) rfl (by decide) g42170 (by decide) (fun _ => rfl) (fun r42176 ls hr42176 er42176 hl => ?_)
          refine lv_goto (tgt := 71) hx hb dX9_readFrom_106 (by decide) ?_
          exact ih71 r42176 u _ _ ls (show Rg 0 12 r42176 from rg_w hr42176 (by decide) (by decide)) hP hD hS (lv_sub (l' := [(0, .ref (a 34)), (1, .ref (a (26 + 2 * q))), (2, .int r42176)]) hl [1, 2, 0] rfl) (me_up hm71 er42176 (by decide))
  have lp18 : ∀ (n18 : Nat) (y18_l2 : Int32) (u : SU) (H : Heap) (locs : List Loc) (ls : Array Slot), Rg 0 12 y18_l2 → va_P D cls (wX cI cS a na nc N L u) H → va_D A (wX cI cS a na nc N L u) → va_S A s.heap H locs → lv_has ls 4 [(0, .ref (a 34)), (1, .ref (a (26 + 2 * q))), (2, .int y18_l2)] → 12 - y18_l2.toInt < (n18 : Int) → W p l e (headSpec wsX9_readFrom ({ frames := 3, cells := 0, slots := 0, locals := 120 })).room s m ([.ref (a 34), .ref (a (26 + 2 * q))]).toArray below meth c H locs 0 0 (MQ below (QF (S := SU) D (wX cI cS a na nc N L u0) (wX cI cS a na nc N L) s.heap.size (fun r _ => Rg 0 1 r ∧ True)) ([.ref (a 34), .ref (a (26 + 2 * q))]).toArray s 0 0 (va_A (wX cI cS a na nc N L u0) s.heap.size)) (F0 m 18 ls []) := by
    intro n18
    induction n18 with
    | zero =>
      intro y18_l2 u H locs ls g18_l2 hP hD hS hl hm18
      exact absurd rfl (me_z g18_l2 hm18)
    | succ n18 ih18 =>
      intro y18_l2 u H locs ls g18_l2 hP hD hS hl hm18
      refine lv_iload_n hx hb dX9_readFrom_18 rfl (lv_at hl 2 rfl) ?_
      refine lv_aload_n hx hb dX9_readFrom_19 rfl (lv_at hl 0 rfl) ?_
      refine va_get (D := D) (ci := 9) (v := .ref (a 1)) (C := RX9) (T := TX9) (N := 6) hx hb hts hin9 hown hK hP 34 rfl rfl 0 (by decide) (hts (.fieldLink RX9 21 "MissedPoints$Told" "net" "LMissedPoints$Net;") (by decide +kernel)) (fun _ h9 => h9) rfl dX9_readFrom_20 ?_
      refine va_getN (D := D) (ci := 2) (v := .int (L 1 1)) (C := RX2) (T := TX2) (N := 3) hx hb hts hin2 hown hK hP 1 rfl rfl 1 (by decide) (va_Nw.use rfl hKK.2.2.2.2.2.2.2.2.2.2.2.2.2.2.2.2.1) (fun _ h9 => h9) rfl dX9_readFrom_23 ?_
      refine lv_icmp_ge (tgt := 69) hx hb dX9_readFrom_26 (by decide) (fun c42177 => ?_) (fun c42177 => ?_)
      · refine lv_iconst (v := 0) hx hb dX9_readFrom_69 (by decide) ?_
        refine lv_istore_n (lv' := [(2, .int 0), (0, .ref (a 34)), (1, .ref (a (26 + 2 * q)))]) hx hb dX9_readFrom_70 rfl hl (by decide) rfl (fun ls hl => ?_)
        exact lp71 13 (0 : Int32) u _ _ ls (by decide : Rg 0 12 (0 : Int32)) hP hD hS (lv_sub (l' := [(0, .ref (a 34)), (1, .ref (a (26 + 2 * q))), (2, .int 0)]) hl [1, 2, 0] rfl) (me_i (by decide : Rg 0 12 (0 : Int32)) (by decide))
      · have g42178 : Rg 1 12 (L 1 1) := rg_ltr g18_l2 hL.1 (rg_nle c42177) (by decide)
        have g42179 : Rg 0 11 y18_l2 := rg_ltl g18_l2 hL.1 (rg_nle c42177) (by decide)
        refine lv_aload_n hx hb dX9_readFrom_29 rfl (lv_at hl 1 rfl) ?_
        refine lv_iload_n hx hb dX9_readFrom_30 rfl (lv_at hl 2 rfl) ?_
        refine wk_sv (26 + 2 * q) (As := [.int y18_l2]) (rest := []) ⟨hx, hb, hml, hown, hts⟩ (k_X6_at l D cI cS a na nc N L u hL hN q hq y18_l2) hKK hP (ci := 6) rfl (gx_sh hq) (cwV 1 hts gX9_readFrom_X6_at rfl rfl rfl (by decide +kernel) ⟨Nat.le_of_ble_eq_true rfl, Nat.le_of_ble_eq_true rfl⟩) rfl hl.1 rfl (Nat.le_of_ble_eq_true rfl) dX9_readFrom_31 ⟨Nat.le_of_ble_eq_true rfl, Nat.le_of_ble_eq_true rfl⟩ (fun r42180 hr42180 => ?_)
        refine lv_istore_n (lv' := [(3, .int r42180), (0, .ref (a 34)), (1, .ref (a (26 + 2 * q))), (2, .int y18_l2)]) hx hb dX9_readFrom_34 rfl hl (by decide) rfl (fun ls hl => ?_)
        refine lv_iload_n hx hb dX9_readFrom_35 rfl (lv_at hl 0 rfl) ?_
        refine lv_iconst (v := (-1)) hx hb dX9_readFrom_36 (by decide) ?_
        refine lv_icmp_eq (tgt := 63) hx hb dX9_readFrom_37 (by decide) (fun c42181 => ?_) (fun c42181 => ?_)
        · have g42182 : Rg (-1) (-1) r42180 := wk_eql hr42180.1 (by decide : Rg (-1) (-1) ((-1) : Int32)) c42181 (by decide)
          refine wk_iinc (lv' := fun r => [(2, .int r), (3, .int r42180), (0, .ref (a 34)), (1, .ref (a (26 + 2 * q)))]) (e1 := 1) (f := 12) hx hb dX9_readFrom_63 hl (k := 3) rfl (by decide) g42179 (by decide) (fun _ => rfl) (fun r42183 ls hr42183 er42183 hl => ?_)
          refine lv_goto (tgt := 18) hx hb dX9_readFrom_66 (by decide) ?_
          exact ih18 r42183 u _ _ ls (show Rg 0 12 r42183 from rg_w hr42183 (by decide) (by decide)) hP hD hS (lv_sub (l' := [(0, .ref (a 34)), (1, .ref (a (26 + 2 * q))), (2, .int r42183)]) hl [2, 3, 0] rfl) (me_up hm18 er42183 (by decide))
        · refine lv_aload_n hx hb dX9_readFrom_40 rfl (lv_at hl 1 rfl) ?_
          refine va_get (D := D) (ci := 9) (v := .ref (a 1)) (C := RX9) (T := TX9) (N := 6) hx hb hts hin9 hown hK hP 34 rfl rfl 0 (by decide) (hts (.fieldLink RX9 21 "MissedPoints$Told" "net" "LMissedPoints$Net;") (by decide +kernel)) (fun _ h9 => h9) rfl dX9_readFrom_41 ?_
          refine lv_iload_n hx hb dX9_readFrom_44 rfl (lv_at hl 3 rfl) ?_
          refine lv_iload_n hx hb dX9_readFrom_45 rfl (lv_at hl 0 rfl) ?_
          refine wk_sv 1 (As := [.int y18_l2, .int r42180]) (rest := []) ⟨hx, hb, hml, hown, hts⟩ (k_X2_joined l D cI cS a na nc N L u hL hN y18_l2 r42180) hKK hP (ci := 2) rfl rfl (cwV 2 hts gX9_readFrom_X2_joined rfl rfl rfl (by decide +kernel) ⟨Nat.le_of_ble_eq_true rfl, Nat.le_of_ble_eq_true rfl⟩) rfl hl.1 rfl (Nat.le_of_ble_eq_true rfl) dX9_readFrom_46 ⟨Nat.le_of_ble_eq_true rfl, Nat.le_of_ble_eq_true rfl⟩ (fun r42184 hr42184 => ?_)
          refine lv_if_eq (tgt := 61) hx hb dX9_readFrom_49 (by decide) (fun c42185 => ?_) (fun c42185 => ?_)
          · have g42186 : Rg 0 0 r42184 := wk_eql hr42184.1 (by decide : Rg 0 0 (0 : Int32)) c42185 (by decide)
            refine lv_iconst (v := 0) hx hb dX9_readFrom_61 (by decide) ?_
            subst hAe
            exact W.zret (v := 0) hx hb hr (by decide) (fun t ht hW => ⟨⟨_, u, rfl, ⟨(by decide : Rg 0 1 (0 : Int32)), trivial⟩, by rw [ht]; exact hP, hD⟩, hS.F ht⟩) hS.2.2 dX9_readFrom_62
          · have g42187 : Rg 0 11 r42180 := (hr42184.2 c42185).2
            have g42188 : Rg 1 1 r42184 := rg_ne_lo (k := 0) hr42184.1 (by decide) c42185 (by decide)
            refine lv_aload_n hx hb dX9_readFrom_52 rfl (lv_at hl 2 rfl) ?_
            refine lv_iload_n hx hb dX9_readFrom_53 rfl (lv_at hl 0 rfl) ?_
            refine wk_sv (26 + 2 * q) (As := [.int r42180]) (rest := []) ⟨hx, hb, hml, hown, hts⟩ (k_X6_at l D cI cS a na nc N L u hL hN q hq r42180) hKK hP (ci := 6) rfl (gx_sh hq) (cwV 1 hts gX9_readFrom_X6_at rfl rfl rfl (by decide +kernel) ⟨Nat.le_of_ble_eq_true rfl, Nat.le_of_ble_eq_true rfl⟩) rfl hl.1 rfl (Nat.le_of_ble_eq_true rfl) dX9_readFrom_54 ⟨Nat.le_of_ble_eq_true rfl, Nat.le_of_ble_eq_true rfl⟩ (fun r42189 hr42189 => ?_)
            refine lv_iload_n hx hb dX9_readFrom_57 rfl (lv_at hl 3 rfl) ?_
            refine lv_icmp_eq (tgt := 63) hx hb dX9_readFrom_58 (by decide) (fun c42190 => ?_) (fun c42190 => ?_)
            · have g42191 : Rg 0 11 r42189 := wk_eql hr42189.1 g42179 c42190 (by decide)
              refine wk_iinc (lv' := fun r => [(2, .int r), (3, .int r42180), (0, .ref (a 34)), (1, .ref (a (26 + 2 * q)))]) (e1 := 1) (f := 12) hx hb dX9_readFrom_63 hl (k := 3) rfl (by decide) g42179 (by decide) (fun _ => rfl) (fun r42192 ls hr42192 er42192 hl => ?_)
              refine lv_goto (tgt := 18) hx hb dX9_readFrom_66 (by decide) ?_
              exact ih18 r42192 u _ _ ls (show Rg 0 12 r42192 from rg_w hr42192 (by decide) (by decide)) hP hD hS (lv_sub (l' := [(0, .ref (a 34)), (1, .ref (a (26 + 2 * q))), (2, .int r42192)]) hl [2, 3, 0] rfl) (me_up hm18 er42192 (by decide))
            · refine lv_iconst (v := 0) hx hb dX9_readFrom_61 (by decide) ?_
              subst hAe
              exact W.zret (v := 0) hx hb hr (by decide) (fun t ht hW => ⟨⟨_, u, rfl, ⟨(by decide : Rg 0 1 (0 : Int32)), trivial⟩, by rw [ht]; exact hP, hD⟩, hS.F ht⟩) hS.2.2 dX9_readFrom_62
  refine lv_aload_n hx hb dX9_readFrom_0 rfl (lv_at hl 1 rfl) ?_
  refine va_getN (D := D) (ci := 6) (v := .int ((L (26 + 2 * q) 2))) (C := RX6) (T := TX6) (N := 3) hx hb hts hin6 hown hK hP (26 + 2 * q) (gx_sh hq) rfl 2 (by decide) (va_Nw.use rfl hKK.2.2.2.2.2.2.2.2.2.2.2.2.2.2.2.1) (fun _ h9 => h9) rfl dX9_readFrom_1 ?_
  refine lv_aload_n hx hb dX9_readFrom_4 rfl (lv_at hl 0 rfl) ?_
  refine va_get (D := D) (ci := 9) (v := .ref (a 1)) (C := RX9) (T := TX9) (N := 6) hx hb hts hin9 hown hK hP 34 rfl rfl 0 (by decide) (hts (.fieldLink RX9 21 "MissedPoints$Told" "net" "LMissedPoints$Net;") (by decide +kernel)) (fun _ h9 => h9) rfl dX9_readFrom_5 ?_
  refine va_getN (D := D) (ci := 2) (v := .int (L 1 1)) (C := RX2) (T := TX2) (N := 3) hx hb hts hin2 hown hK hP 1 rfl rfl 1 (by decide) (va_Nw.use rfl hKK.2.2.2.2.2.2.2.2.2.2.2.2.2.2.2.2.1) (fun _ h9 => h9) rfl dX9_readFrom_8 ?_
  refine lv_icmp_eq (tgt := 16) hx hb dX9_readFrom_11 (by decide) (fun c42193 => ?_) (fun c42193 => ?_)
  · have g42194 : Rg 0 12 ((L (26 + 2 * q) 2)) := wk_eql (hL.sh hq) hL.1 c42193 (by decide)
    refine lv_iconst (v := 0) hx hb dX9_readFrom_16 (by decide) ?_
    refine lv_istore_n (lv' := [(2, .int 0), (0, .ref (a 34)), (1, .ref (a (26 + 2 * q)))]) hx hb dX9_readFrom_17 rfl hl (by decide) rfl (fun ls hl => ?_)
    exact lp18 13 (0 : Int32) u _ _ ls (by decide : Rg 0 12 (0 : Int32)) hP hD hS (lv_sub (l' := [(0, .ref (a 34)), (1, .ref (a (26 + 2 * q))), (2, .int 0)]) hl [1, 2, 0] rfl) (me_i (by decide : Rg 0 12 (0 : Int32)) (by decide))
  · refine lv_iconst (v := 0) hx hb dX9_readFrom_14 (by decide) ?_
    subst hAe
    exact W.zret (v := 0) hx hb hr (by decide) (fun t ht hW => ⟨⟨_, u, rfl, ⟨(by decide : Rg 0 1 (0 : Int32)), trivial⟩, by rw [ht]; exact hP, hD⟩, hS.F ht⟩) hS.2.2 dX9_readFrom_15
set_option maxHeartbeats 4000000 in
set_option maxRecDepth 100000 in
theorem k_X9_readFrom_38 (l : Launch) (D : va_G) (cI cS : ClassId) (sz : Nat) (a : Nat → Nat) (na nc N : Nat) (L u0 : SU) (hL : TyX L) (hN : N = 0 ∨ N = 24576) (q : Nat) (hq : q < 4) : Met l yX9_readFrom wsX9_readFrom ({ frames := 3, cells := 0, slots := 0, locals := 120 }) (PQ D cI cS (wX cI cS a na nc N L u0) sz [.ref (a 38), .ref (a (26 + 2 * q))]) (QF (S := SU) D (wX cI cS a na nc N L u0) (wX cI cS a na nc N L) sz (fun r _ => Rg 0 1 r ∧ True)) 0 0 (va_A (wX cI cS a na nc N L u0) sz) := by
  refine Met.ofW (cc := cX9_readFrom) (maxL := 4) (ret := (some .boolean)) (by decide) rfl ?_
  intro p e s m args below meth c s₁ B hml hv
  obtain ⟨rfl, hsz, hP, hKK, hD0⟩ := hv
  have hx := B.exec
  have hb := B.bytes
  have hr := B.returns
  have hts := atoms_spec (ws := wsX9_readFrom) B.pre
  have hown : s.vm.findClass RX9 = some m.cls := findClass_of_methodNamed B.named
  have hlocks := B.notSynchronized
  have hK := hKK.1
  have hin2 : ∀ w ∈ wsX20, w ∈ wsX9_readFrom := by decide +kernel
  have hin6 : ∀ w ∈ wsX60, w ∈ wsX9_readFrom := by decide +kernel
  have hin9 : ∀ w ∈ wsX90, w ∈ wsX9_readFrom := by decide +kernel
  subst hsz
  have hD := hD0.self (sz := s.heap.size)
  obtain ⟨A, hAe⟩ : ∃ A, A = va_A (wX cI cS a na nc N L u0) s.heap.size := ⟨_, rfl⟩
  rw [← hAe] at hD
  have hA : ∀ q : Nat, s.heap.size ≤ q → A q := fun q h => by rw [hAe]; exact Or.inr h
  have hS : va_S A s.heap s.heap [] := va_S.rf
  have hl := lv_entry ([.ref (a 38), .ref (a (26 + 2 * q))]) (n := 4) (Nat.le_of_ble_eq_true rfl)
  rw [lg_entry_eq]
  generalize (lg_sl ([.ref (a 38), .ref (a (26 + 2 * q))]) ++ List.replicate (4 - (lg_sl ([.ref (a 38), .ref (a (26 + 2 * q))])).length) Slot.unset).toArray = ls at hl ⊢
  have hl : lv_has ls 4 [(0, .ref (a 38)), (1, .ref (a (26 + 2 * q)))] := hl
  obtain ⟨u, hu9⟩ : ∃ u : SU, u = u0 := ⟨_, rfl⟩
  rw [← hu9] at hP hD
  have lp71 : ∀ (n71 : Nat) (y71_l2 : Int32) (u : SU) (H : Heap) (locs : List Loc) (ls : Array Slot), Rg 0 12 y71_l2 → va_P D cls (wX cI cS a na nc N L u) H → va_D A (wX cI cS a na nc N L u) → va_S A s.heap H locs → lv_has ls 4 [(0, .ref (a 38)), (1, .ref (a (26 + 2 * q))), (2, .int y71_l2)] → 12 - y71_l2.toInt < (n71 : Int) → W p l e (headSpec wsX9_readFrom ({ frames := 3, cells := 0, slots := 0, locals := 120 })).room s m ([.ref (a 38), .ref (a (26 + 2 * q))]).toArray below meth c H locs 0 0 (MQ below (QF (S := SU) D (wX cI cS a na nc N L u0) (wX cI cS a na nc N L) s.heap.size (fun r _ => Rg 0 1 r ∧ True)) ([.ref (a 38), .ref (a (26 + 2 * q))]).toArray s 0 0 (va_A (wX cI cS a na nc N L u0) s.heap.size)) (F0 m 71 ls []) := by
    intro n71
    induction n71 with
    | zero =>
      intro y71_l2 u H locs ls g71_l2 hP hD hS hl hm71
      exact absurd rfl (me_z g71_l2 hm71)
    | succ n71 ih71 =>
      intro y71_l2 u H locs ls g71_l2 hP hD hS hl hm71
      refine lv_iload_n hx hb dX9_readFrom_71 rfl (lv_at hl 2 rfl) ?_
      refine lv_bipush (v := 12) hx hb dX9_readFrom_72 (by decide) ?_
      refine lv_icmp_ge (tgt := 109) hx hb dX9_readFrom_74 (by decide) (fun c42428 => ?_) (fun c42428 => ?_)
      · have g42429 : Rg 12 12 y71_l2 := rg_ler (by decide : Rg 12 12 (12 : Int32)) g71_l2 c42428 (by decide)
        refine lv_iconst (v := 1) hx hb dX9_readFrom_109 (by decide) ?_
        subst hAe
        exact W.zret (v := 1) hx hb hr (by decide) (fun t ht hW => ⟨⟨_, u, rfl, ⟨(by decide : Rg 0 1 (1 : Int32)), trivial⟩, by rw [ht]; exact hP, hD⟩, hS.F ht⟩) hS.2.2 dX9_readFrom_110
      · have g42430 : Rg 0 11 y71_l2 := rg_ltl g71_l2 (by decide : Rg 12 12 (12 : Int32)) (rg_nle c42428) (by decide)
        refine lv_aload_n hx hb dX9_readFrom_77 rfl (lv_at hl 0 rfl) ?_
        refine va_get (D := D) (ci := 9) (v := .ref (a 39)) (C := RX9) (T := TX9) (N := 6) hx hb hts hin9 hown hK hP 38 rfl rfl 2 (by decide) (hts (.fieldLink RX9 9 "MissedPoints$Told" "mates" "[I") (by decide +kernel)) (fun _ h9 => h9) rfl dX9_readFrom_78 ?_
        refine lv_iload_n hx hb dX9_readFrom_81 rfl (lv_at hl 2 rfl) ?_
        refine lv_iload_n hx hb dX9_readFrom_82 rfl (lv_at hl 2 rfl) ?_
        refine lv_aload_n hx hb dX9_readFrom_83 rfl (lv_at hl 0 rfl) ?_
        refine va_get (D := D) (ci := 9) (v := .ref (a 1)) (C := RX9) (T := TX9) (N := 6) hx hb hts hin9 hown hK hP 38 rfl rfl 0 (by decide) (hts (.fieldLink RX9 21 "MissedPoints$Told" "net" "LMissedPoints$Net;") (by decide +kernel)) (fun _ h9 => h9) rfl dX9_readFrom_84 ?_
        refine va_getN (D := D) (ci := 2) (v := .int (L 1 1)) (C := RX2) (T := TX2) (N := 3) hx hb hts hin2 hown hK hP 1 rfl rfl 1 (by decide) (va_Nw.use rfl hKK.2.2.2.2.2.2.2.2.2.2.2.2.2.2.2.2.1) (fun _ h9 => h9) rfl dX9_readFrom_87 ?_
        refine lv_icmp_ge (tgt := 101) hx hb dX9_readFrom_90 (by decide) (fun c42431 => ?_) (fun c42431 => ?_)
        · have g42432 : Rg 0 11 (L 1 1) := rg_lel hL.1 g42430 c42431 (by decide)
          refine lv_iconst (v := (-1)) hx hb dX9_readFrom_101 (by decide) ?_
          refine ks_ast hx hb hK hP hD hS rfl (k := 39) rfl sx_39 (rg_in g42430 (by decide) (by decide)) dX9_readFrom_102 (fun u H locs hP hD hS => ?_)
          refine wk_iinc (lv' := fun r => [(2, .int r), (0, .ref (a 38)), (1, .ref (a (26 + 2 * q)))]) (e1 := 1) (f := 12) hx hb dX9_readFrom_103 hl (k := 2) rfl (by decide) g42430 (by decide) (fun _ => rfl) (fun r42433 ls hr42433 er42433 hl => ?_)
          refine lv_goto (tgt := 71) hx hb dX9_readFrom_106 (by decide) ?_
          exact ih71 r42433 u _ _ ls (show Rg 0 12 r42433 from rg_w hr42433 (by decide) (by decide)) hP hD hS (lv_sub (l' := [(0, .ref (a 38)), (1, .ref (a (26 + 2 * q))), (2, .int r42433)]) hl [1, 2, 0] rfl) (me_up hm71 er42433 (by decide))
        · have g42434 : Rg 1 12 (L 1 1) := rg_ltr g42430 hL.1 (rg_nle c42431) (by decide)
          refine lv_aload_n hx hb dX9_readFrom_93 rfl (lv_at hl 1 rfl) ?_
          refine lv_iload_n hx hb dX9_readFrom_94 rfl (lv_at hl 2 rfl) ?_
          refine wk_sv (26 + 2 * q) (As := [.int y71_l2]) (rest := [.int y71_l2, .ref (a 39)]) ⟨hx, hb, hml, hown, hts⟩ (k_X6_at l D cI cS a na nc N L u hL hN q hq y71_l2) hKK hP (ci := 6) rfl (gx_sh hq) (cwV 1 hts gX9_readFrom_X6_at rfl rfl rfl (by decide +kernel) ⟨Nat.le_of_ble_eq_true rfl, Nat.le_of_ble_eq_true rfl⟩) rfl hl.1 rfl (Nat.le_of_ble_eq_true rfl) dX9_readFrom_95 ⟨Nat.le_of_ble_eq_true rfl, Nat.le_of_ble_eq_true rfl⟩ (fun r42435 hr42435 => ?_)
          refine lv_goto (tgt := 102) hx hb dX9_readFrom_98 (by decide) ?_
          refine ks_ast hx hb hK hP hD hS rfl (k := 39) rfl sx_39 (rg_in g42430 (by decide) (by decide)) dX9_readFrom_102 (fun u H locs hP hD hS => ?_)
          refine wk_iinc (lv' := fun r => [(2, .int r), (0, .ref (a 38)), (1, .ref (a (26 + 2 * q)))]) (e1 := 1) (f := 12) hx hb dX9_readFrom_103 hl (k := 2) rfl (by decide) g42430 (by decide) (fun _ => rfl) (fun r42436 ls hr42436 er42436 hl => ?_)
          refine lv_goto (tgt := 71) hx hb dX9_readFrom_106 (by decide) ?_
          exact ih71 r42436 u _ _ ls (show Rg 0 12 r42436 from rg_w hr42436 (by decide) (by decide)) hP hD hS (lv_sub (l' := [(0, .ref (a 38)), (1, .ref (a (26 + 2 * q))), (2, .int r42436)]) hl [1, 2, 0] rfl) (me_up hm71 er42436 (by decide))
  have lp18 : ∀ (n18 : Nat) (y18_l2 : Int32) (u : SU) (H : Heap) (locs : List Loc) (ls : Array Slot), Rg 0 12 y18_l2 → va_P D cls (wX cI cS a na nc N L u) H → va_D A (wX cI cS a na nc N L u) → va_S A s.heap H locs → lv_has ls 4 [(0, .ref (a 38)), (1, .ref (a (26 + 2 * q))), (2, .int y18_l2)] → 12 - y18_l2.toInt < (n18 : Int) → W p l e (headSpec wsX9_readFrom ({ frames := 3, cells := 0, slots := 0, locals := 120 })).room s m ([.ref (a 38), .ref (a (26 + 2 * q))]).toArray below meth c H locs 0 0 (MQ below (QF (S := SU) D (wX cI cS a na nc N L u0) (wX cI cS a na nc N L) s.heap.size (fun r _ => Rg 0 1 r ∧ True)) ([.ref (a 38), .ref (a (26 + 2 * q))]).toArray s 0 0 (va_A (wX cI cS a na nc N L u0) s.heap.size)) (F0 m 18 ls []) := by
    intro n18
    induction n18 with
    | zero =>
      intro y18_l2 u H locs ls g18_l2 hP hD hS hl hm18
      exact absurd rfl (me_z g18_l2 hm18)
    | succ n18 ih18 =>
      intro y18_l2 u H locs ls g18_l2 hP hD hS hl hm18
      refine lv_iload_n hx hb dX9_readFrom_18 rfl (lv_at hl 2 rfl) ?_
      refine lv_aload_n hx hb dX9_readFrom_19 rfl (lv_at hl 0 rfl) ?_
      refine va_get (D := D) (ci := 9) (v := .ref (a 1)) (C := RX9) (T := TX9) (N := 6) hx hb hts hin9 hown hK hP 38 rfl rfl 0 (by decide) (hts (.fieldLink RX9 21 "MissedPoints$Told" "net" "LMissedPoints$Net;") (by decide +kernel)) (fun _ h9 => h9) rfl dX9_readFrom_20 ?_
      refine va_getN (D := D) (ci := 2) (v := .int (L 1 1)) (C := RX2) (T := TX2) (N := 3) hx hb hts hin2 hown hK hP 1 rfl rfl 1 (by decide) (va_Nw.use rfl hKK.2.2.2.2.2.2.2.2.2.2.2.2.2.2.2.2.1) (fun _ h9 => h9) rfl dX9_readFrom_23 ?_
      refine lv_icmp_ge (tgt := 69) hx hb dX9_readFrom_26 (by decide) (fun c42437 => ?_) (fun c42437 => ?_)
      · refine lv_iconst (v := 0) hx hb dX9_readFrom_69 (by decide) ?_
        refine lv_istore_n (lv' := [(2, .int 0), (0, .ref (a 38)), (1, .ref (a (26 + 2 * q)))]) hx hb dX9_readFrom_70 rfl hl (by decide) rfl (fun ls hl => ?_)
        exact lp71 13 (0 : Int32) u _ _ ls (by decide : Rg 0 12 (0 : Int32)) hP hD hS (lv_sub (l' := [(0, .ref (a 38)), (1, .ref (a (26 + 2 * q))), (2, .int 0)]) hl [1, 2, 0] rfl) (me_i (by decide : Rg 0 12 (0 : Int32)) (by decide))
      · have g42438 : Rg 1 12 (L 1 1) := rg_ltr g18_l2 hL.1 (rg_nle c42437) (by decide)
        have g42439 : Rg 0 11 y18_l2 := rg_ltl g18_l2 hL.1 (rg_nle c42437) (by decide)
        refine lv_aload_n hx hb dX9_readFrom_29 rfl (lv_at hl 1 rfl) ?_
        refine lv_iload_n hx hb dX9_readFrom_30 rfl (lv_at hl 2 rfl) ?_
        refine wk_sv (26 + 2 * q) (As := [.int y18_l2]) (rest := []) ⟨hx, hb, hml, hown, hts⟩ (k_X6_at l D cI cS a na nc N L u hL hN q hq y18_l2) hKK hP (ci := 6) rfl (gx_sh hq) (cwV 1 hts gX9_readFrom_X6_at rfl rfl rfl (by decide +kernel) ⟨Nat.le_of_ble_eq_true rfl, Nat.le_of_ble_eq_true rfl⟩) rfl hl.1 rfl (Nat.le_of_ble_eq_true rfl) dX9_readFrom_31 ⟨Nat.le_of_ble_eq_true rfl, Nat.le_of_ble_eq_true rfl⟩ (fun r42440 hr42440 => ?_)
        refine lv_istore_n (lv' := [(3, .int r42440), (0, .ref (a 38)), (1, .ref (a (26 + 2 * q))), (2, .int y18_l2)]) hx hb dX9_readFrom_34 rfl hl (by decide) rfl (fun ls hl => ?_)
        refine lv_iload_n hx hb dX9_readFrom_35 rfl (lv_at hl 0 rfl) ?_
        refine lv_iconst (v := (-1)) hx hb dX9_readFrom_36 (by decide) ?_
        refine lv_icmp_eq (tgt := 63) hx hb dX9_readFrom_37 (by decide) (fun c42441 => ?_) (fun c42441 => ?_)
        · have g42442 : Rg (-1) (-1) r42440 := wk_eql hr42440.1 (by decide : Rg (-1) (-1) ((-1) : Int32)) c42441 (by decide)
          refine wk_iinc (lv' := fun r => [(2, .int r), (3, .int r42440), (0, .ref (a 38)), (1, .ref (a (26 + 2 * q)))]) (e1 := 1) (f := 12) hx hb dX9_readFrom_63 hl (k := 3) rfl (by decide) g42439 (by decide) (fun _ => rfl) (fun r42443 ls hr42443 er42443 hl => ?_)
          refine lv_goto (tgt := 18) hx hb dX9_readFrom_66 (by decide) ?_
          exact ih18 r42443 u _ _ ls (show Rg 0 12 r42443 from rg_w hr42443 (by decide) (by decide)) hP hD hS (lv_sub (l' := [(0, .ref (a 38)), (1, .ref (a (26 + 2 * q))), (2, .int r42443)]) hl [2, 3, 0] rfl) (me_up hm18 er42443 (by decide))
        · refine lv_aload_n hx hb dX9_readFrom_40 rfl (lv_at hl 1 rfl) ?_
          refine va_get (D := D) (ci := 9) (v := .ref (a 1)) (C := RX9) (T := TX9) (N := 6) hx hb hts hin9 hown hK hP 38 rfl rfl 0 (by decide) (hts (.fieldLink RX9 21 "MissedPoints$Told" "net" "LMissedPoints$Net;") (by decide +kernel)) (fun _ h9 => h9) rfl dX9_readFrom_41 ?_
          refine lv_iload_n hx hb dX9_readFrom_44 rfl (lv_at hl 3 rfl) ?_
          refine lv_iload_n hx hb dX9_readFrom_45 rfl (lv_at hl 0 rfl) ?_
          refine wk_sv 1 (As := [.int y18_l2, .int r42440]) (rest := []) ⟨hx, hb, hml, hown, hts⟩ (k_X2_joined l D cI cS a na nc N L u hL hN y18_l2 r42440) hKK hP (ci := 2) rfl rfl (cwV 2 hts gX9_readFrom_X2_joined rfl rfl rfl (by decide +kernel) ⟨Nat.le_of_ble_eq_true rfl, Nat.le_of_ble_eq_true rfl⟩) rfl hl.1 rfl (Nat.le_of_ble_eq_true rfl) dX9_readFrom_46 ⟨Nat.le_of_ble_eq_true rfl, Nat.le_of_ble_eq_true rfl⟩ (fun r42444 hr42444 => ?_)
          refine lv_if_eq (tgt := 61) hx hb dX9_readFrom_49 (by decide) (fun c42445 => ?_) (fun c42445 => ?_)
          · have g42446 : Rg 0 0 r42444 := wk_eql hr42444.1 (by decide : Rg 0 0 (0 : Int32)) c42445 (by decide)
            refine lv_iconst (v := 0) hx hb dX9_readFrom_61 (by decide) ?_
            subst hAe
            exact W.zret (v := 0) hx hb hr (by decide) (fun t ht hW => ⟨⟨_, u, rfl, ⟨(by decide : Rg 0 1 (0 : Int32)), trivial⟩, by rw [ht]; exact hP, hD⟩, hS.F ht⟩) hS.2.2 dX9_readFrom_62
          · have g42447 : Rg 0 11 r42440 := (hr42444.2 c42445).2
            have g42448 : Rg 1 1 r42444 := rg_ne_lo (k := 0) hr42444.1 (by decide) c42445 (by decide)
            refine lv_aload_n hx hb dX9_readFrom_52 rfl (lv_at hl 2 rfl) ?_
            refine lv_iload_n hx hb dX9_readFrom_53 rfl (lv_at hl 0 rfl) ?_
            refine wk_sv (26 + 2 * q) (As := [.int r42440]) (rest := []) ⟨hx, hb, hml, hown, hts⟩ (k_X6_at l D cI cS a na nc N L u hL hN q hq r42440) hKK hP (ci := 6) rfl (gx_sh hq) (cwV 1 hts gX9_readFrom_X6_at rfl rfl rfl (by decide +kernel) ⟨Nat.le_of_ble_eq_true rfl, Nat.le_of_ble_eq_true rfl⟩) rfl hl.1 rfl (Nat.le_of_ble_eq_true rfl) dX9_readFrom_54 ⟨Nat.le_of_ble_eq_true rfl, Nat.le_of_ble_eq_true rfl⟩ (fun r42449 hr42449 => ?_)
            refine lv_iload_n hx hb dX9_readFrom_57 rfl (lv_at hl 3 rfl) ?_
            refine lv_icmp_eq (tgt := 63) hx hb dX9_readFrom_58 (by decide) (fun c42450 => ?_) (fun c42450 => ?_)
            · have g42451 : Rg 0 11 r42449 := wk_eql hr42449.1 g42439 c42450 (by decide)
              refine wk_iinc (lv' := fun r => [(2, .int r), (3, .int r42440), (0, .ref (a 38)), (1, .ref (a (26 + 2 * q)))]) (e1 := 1) (f := 12) hx hb dX9_readFrom_63 hl (k := 3) rfl (by decide) g42439 (by decide) (fun _ => rfl) (fun r42452 ls hr42452 er42452 hl => ?_)
              refine lv_goto (tgt := 18) hx hb dX9_readFrom_66 (by decide) ?_
              exact ih18 r42452 u _ _ ls (show Rg 0 12 r42452 from rg_w hr42452 (by decide) (by decide)) hP hD hS (lv_sub (l' := [(0, .ref (a 38)), (1, .ref (a (26 + 2 * q))), (2, .int r42452)]) hl [2, 3, 0] rfl) (me_up hm18 er42452 (by decide))
            · refine lv_iconst (v := 0) hx hb dX9_readFrom_61 (by decide) ?_
              subst hAe
              exact W.zret (v := 0) hx hb hr (by decide) (fun t ht hW => ⟨⟨_, u, rfl, ⟨(by decide : Rg 0 1 (0 : Int32)), trivial⟩, by rw [ht]; exact hP, hD⟩, hS.F ht⟩) hS.2.2 dX9_readFrom_62
  refine lv_aload_n hx hb dX9_readFrom_0 rfl (lv_at hl 1 rfl) ?_
  refine va_getN (D := D) (ci := 6) (v := .int ((L (26 + 2 * q) 2))) (C := RX6) (T := TX6) (N := 3) hx hb hts hin6 hown hK hP (26 + 2 * q) (gx_sh hq) rfl 2 (by decide) (va_Nw.use rfl hKK.2.2.2.2.2.2.2.2.2.2.2.2.2.2.2.1) (fun _ h9 => h9) rfl dX9_readFrom_1 ?_
  refine lv_aload_n hx hb dX9_readFrom_4 rfl (lv_at hl 0 rfl) ?_
  refine va_get (D := D) (ci := 9) (v := .ref (a 1)) (C := RX9) (T := TX9) (N := 6) hx hb hts hin9 hown hK hP 38 rfl rfl 0 (by decide) (hts (.fieldLink RX9 21 "MissedPoints$Told" "net" "LMissedPoints$Net;") (by decide +kernel)) (fun _ h9 => h9) rfl dX9_readFrom_5 ?_
  refine va_getN (D := D) (ci := 2) (v := .int (L 1 1)) (C := RX2) (T := TX2) (N := 3) hx hb hts hin2 hown hK hP 1 rfl rfl 1 (by decide) (va_Nw.use rfl hKK.2.2.2.2.2.2.2.2.2.2.2.2.2.2.2.2.1) (fun _ h9 => h9) rfl dX9_readFrom_8 ?_
  refine lv_icmp_eq (tgt := 16) hx hb dX9_readFrom_11 (by decide) (fun c42453 => ?_) (fun c42453 => ?_)
  · have g42454 : Rg 0 12 ((L (26 + 2 * q) 2)) := wk_eql (hL.sh hq) hL.1 c42453 (by decide)
    refine lv_iconst (v := 0) hx hb dX9_readFrom_16 (by decide) ?_
    refine lv_istore_n (lv' := [(2, .int 0), (0, .ref (a 38)), (1, .ref (a (26 + 2 * q)))]) hx hb dX9_readFrom_17 rfl hl (by decide) rfl (fun ls hl => ?_)
    exact lp18 13 (0 : Int32) u _ _ ls (by decide : Rg 0 12 (0 : Int32)) hP hD hS (lv_sub (l' := [(0, .ref (a 38)), (1, .ref (a (26 + 2 * q))), (2, .int 0)]) hl [1, 2, 0] rfl) (me_i (by decide : Rg 0 12 (0 : Int32)) (by decide))
  · refine lv_iconst (v := 0) hx hb dX9_readFrom_14 (by decide) ?_
    subst hAe
    exact W.zret (v := 0) hx hb hr (by decide) (fun t ht hW => ⟨⟨_, u, rfl, ⟨(by decide : Rg 0 1 (0 : Int32)), trivial⟩, by rw [ht]; exact hP, hD⟩, hS.F ht⟩) hS.2.2 dX9_readFrom_15
set_option maxRecDepth 20000 in
theorem ggX9_hasWayOf_X9_goOn : GoodIn wsX9_hasWayOf wsX9_goOn := goodIn_r _ [8, 1, 3, 2, 9, 10, 11, 12, 13, 14, 15, 16, 17, 18, 19, 4, 5, 6, 7, 20, 21, 22, 23, 24, 25, 26, 27, 28] (by decide +kernel) (by decide +kernel)
set_option maxRecDepth 20000 in
theorem gX9_hasWayOf_X9_goOn : GoodIn wsX9_hasWayOf (wsV RX9 84 RX9 yX9_goOn wsX9_goOn) := goodIn_app (goodIn_of _ (by decide +kernel)) ggX9_hasWayOf_X9_goOn
theorem dX9_hasWayOf_0 : decode cX9_hasWayOf 0 = .ok (.iconst 0, 1) := by decide +kernel
theorem dX9_hasWayOf_1 : decode cX9_hasWayOf 1 = .ok (.istore_n 2, 1) := by decide +kernel
theorem dX9_hasWayOf_10 : decode cX9_hasWayOf 10 = .ok (.if_icmp .ge 39, 3) := by decide +kernel
theorem dX9_hasWayOf_13 : decode cX9_hasWayOf 13 = .ok (.aload_n 0, 1) := by decide +kernel
theorem dX9_hasWayOf_14 : decode cX9_hasWayOf 14 = .ok (.getfield 9, 3) := by decide +kernel
theorem dX9_hasWayOf_17 : decode cX9_hasWayOf 17 = .ok (.iload_n 2, 1) := by decide +kernel
theorem dX9_hasWayOf_18 : decode cX9_hasWayOf 18 = .ok (.iaload, 1) := by decide +kernel
theorem dX9_hasWayOf_19 : decode cX9_hasWayOf 19 = .ok (.ifCond .ge 24, 3) := by decide +kernel
theorem dX9_hasWayOf_2 : decode cX9_hasWayOf 2 = .ok (.iload_n 2, 1) := by decide +kernel
theorem dX9_hasWayOf_22 : decode cX9_hasWayOf 22 = .ok (.aload_n 0, 1) := by decide +kernel
theorem dX9_hasWayOf_23 : decode cX9_hasWayOf 23 = .ok (.getfield 15, 3) := by decide +kernel
theorem dX9_hasWayOf_26 : decode cX9_hasWayOf 26 = .ok (.iconst 0, 1) := by decide +kernel
theorem dX9_hasWayOf_27 : decode cX9_hasWayOf 27 = .ok (.iload_n 2, 1) := by decide +kernel
theorem dX9_hasWayOf_28 : decode cX9_hasWayOf 28 = .ok (.iastore, 1) := by decide +kernel
theorem dX9_hasWayOf_29 : decode cX9_hasWayOf 29 = .ok (.aload_n 0, 1) := by decide +kernel
theorem dX9_hasWayOf_3 : decode cX9_hasWayOf 3 = .ok (.aload_n 0, 1) := by decide +kernel
theorem dX9_hasWayOf_30 : decode cX9_hasWayOf 30 = .ok (.iconst 1, 1) := by decide +kernel
theorem dX9_hasWayOf_31 : decode cX9_hasWayOf 31 = .ok (.iload_n 1, 1) := by decide +kernel
theorem dX9_hasWayOf_32 : decode cX9_hasWayOf 32 = .ok (.iconst 1, 1) := by decide +kernel
theorem dX9_hasWayOf_33 : decode cX9_hasWayOf 33 = .ok (.iload_n 2, 1) := by decide +kernel
theorem dX9_hasWayOf_34 : decode cX9_hasWayOf 34 = .ok (.ishl, 1) := by decide +kernel
theorem dX9_hasWayOf_35 : decode cX9_hasWayOf 35 = .ok (.invokevirtual 84, 3) := by decide +kernel
theorem dX9_hasWayOf_38 : decode cX9_hasWayOf 38 = .ok (.ifCond .eq 5, 3) := by decide +kernel
theorem dX9_hasWayOf_4 : decode cX9_hasWayOf 4 = .ok (.getfield 21, 3) := by decide +kernel
theorem dX9_hasWayOf_41 : decode cX9_hasWayOf 41 = .ok (.iconst 1, 1) := by decide +kernel
theorem dX9_hasWayOf_42 : decode cX9_hasWayOf 42 = .ok (.ireturn, 1) := by decide +kernel
theorem dX9_hasWayOf_43 : decode cX9_hasWayOf 43 = .ok (.iinc 2 1, 3) := by decide +kernel
theorem dX9_hasWayOf_46 : decode cX9_hasWayOf 46 = .ok (.goto (-44), 3) := by decide +kernel
theorem dX9_hasWayOf_49 : decode cX9_hasWayOf 49 = .ok (.iconst 0, 1) := by decide +kernel
theorem dX9_hasWayOf_50 : decode cX9_hasWayOf 50 = .ok (.ireturn, 1) := by decide +kernel
theorem dX9_hasWayOf_7 : decode cX9_hasWayOf 7 = .ok (.getfield 41, 3) := by decide +kernel
set_option maxHeartbeats 4000000 in
set_option maxRecDepth 100000 in
theorem k_X9_hasWayOf (l : Launch) (D : va_G) (cI cS : ClassId) (sz : Nat) (a : Nat → Nat) (na nc N : Nat) (L u0 : SU) (hL : TyX L) (hN : N = 0 ∨ N = 24576) (x0 : Int32) : Met l yX9_hasWayOf wsX9_hasWayOf ({ frames := 15, cells := 0, slots := 0, locals := 600 }) (PQ D cI cS (wX cI cS a na nc N L u0) sz [.ref (a 34), .int x0]) (QF (S := SU) D (wX cI cS a na nc N L u0) (wX cI cS a na nc N L) sz (fun r _ => Rg 0 1 r ∧ True)) 0 0 (va_A (wX cI cS a na nc N L u0) sz) := by
  refine Met.ofW (cc := cX9_hasWayOf) (maxL := 3) (ret := (some .boolean)) (by decide) rfl ?_
  intro p e s m args below meth c s₁ B hml hv
  obtain ⟨rfl, hsz, hP, hKK, hD0⟩ := hv
  have hx := B.exec
  have hb := B.bytes
  have hr := B.returns
  have hts := atoms_spec (ws := wsX9_hasWayOf) B.pre
  have hown : s.vm.findClass RX9 = some m.cls := findClass_of_methodNamed B.named
  have hlocks := B.notSynchronized
  have hK := hKK.1
  have hin2 : ∀ w ∈ wsX20, w ∈ wsX9_hasWayOf := by decide +kernel
  have hin9 : ∀ w ∈ wsX90, w ∈ wsX9_hasWayOf := by decide +kernel
  subst hsz
  have hD := hD0.self (sz := s.heap.size)
  obtain ⟨A, hAe⟩ : ∃ A, A = va_A (wX cI cS a na nc N L u0) s.heap.size := ⟨_, rfl⟩
  rw [← hAe] at hD
  have hA : ∀ q : Nat, s.heap.size ≤ q → A q := fun q h => by rw [hAe]; exact Or.inr h
  have hS : va_S A s.heap s.heap [] := va_S.rf
  have hl := lv_entry ([.ref (a 34), .int x0]) (n := 3) (Nat.le_of_ble_eq_true rfl)
  rw [lg_entry_eq]
  generalize (lg_sl ([.ref (a 34), .int x0]) ++ List.replicate (3 - (lg_sl ([.ref (a 34), .int x0])).length) Slot.unset).toArray = ls at hl ⊢
  have hl : lv_has ls 3 [(0, .ref (a 34)), (1, .int x0)] := hl
  obtain ⟨u, hu9⟩ : ∃ u : SU, u = u0 := ⟨_, rfl⟩
  rw [← hu9] at hP hD
  have lp2 : ∀ (n2 : Nat) (y2_l2 : Int32) (u : SU) (H : Heap) (locs : List Loc) (ls : Array Slot), Rg 0 12 y2_l2 → va_P D cls (wX cI cS a na nc N L u) H → va_D A (wX cI cS a na nc N L u) → va_S A s.heap H locs → lv_has ls 3 [(0, .ref (a 34)), (1, .int x0), (2, .int y2_l2)] → 12 - y2_l2.toInt < (n2 : Int) → W p l e (headSpec wsX9_hasWayOf ({ frames := 15, cells := 0, slots := 0, locals := 600 })).room s m ([.ref (a 34), .int x0]).toArray below meth c H locs 0 0 (MQ below (QF (S := SU) D (wX cI cS a na nc N L u0) (wX cI cS a na nc N L) s.heap.size (fun r _ => Rg 0 1 r ∧ True)) ([.ref (a 34), .int x0]).toArray s 0 0 (va_A (wX cI cS a na nc N L u0) s.heap.size)) (F0 m 2 ls []) := by
    intro n2
    induction n2 with
    | zero =>
      intro y2_l2 u H locs ls g2_l2 hP hD hS hl hm2
      exact absurd rfl (me_z g2_l2 hm2)
    | succ n2 ih2 =>
      intro y2_l2 u H locs ls g2_l2 hP hD hS hl hm2
      refine lv_iload_n hx hb dX9_hasWayOf_2 rfl (lv_at hl 2 rfl) ?_
      refine lv_aload_n hx hb dX9_hasWayOf_3 rfl (lv_at hl 0 rfl) ?_
      refine va_get (D := D) (ci := 9) (v := .ref (a 1)) (C := RX9) (T := TX9) (N := 6) hx hb hts hin9 hown hK hP 34 rfl rfl 0 (by decide) (hts (.fieldLink RX9 21 "MissedPoints$Told" "net" "LMissedPoints$Net;") (by decide +kernel)) (fun _ h9 => h9) rfl dX9_hasWayOf_4 ?_
      refine va_getN (D := D) (ci := 2) (v := .int (L 1 1)) (C := RX2) (T := TX2) (N := 3) hx hb hts hin2 hown hK hP 1 rfl rfl 1 (by decide) (va_Nw.use rfl hKK.2.2.2.2.2.2.2.2.2.2.2.2.2.2.2.2.1) (fun _ h9 => h9) rfl dX9_hasWayOf_7 ?_
      refine lv_icmp_ge (tgt := 49) hx hb dX9_hasWayOf_10 (by decide) (fun c42574 => ?_) (fun c42574 => ?_)
      · refine lv_iconst (v := 0) hx hb dX9_hasWayOf_49 (by decide) ?_
        subst hAe
        exact W.zret (v := 0) hx hb hr (by decide) (fun t ht hW => ⟨⟨_, u, rfl, ⟨(by decide : Rg 0 1 (0 : Int32)), trivial⟩, by rw [ht]; exact hP, hD⟩, hS.F ht⟩) hS.2.2 dX9_hasWayOf_50
      · have g42575 : Rg 1 12 (L 1 1) := rg_ltr g2_l2 hL.1 (rg_nle c42574) (by decide)
        have g42576 : Rg 0 11 y2_l2 := rg_ltl g2_l2 hL.1 (rg_nle c42574) (by decide)
        refine lv_aload_n hx hb dX9_hasWayOf_13 rfl (lv_at hl 0 rfl) ?_
        refine va_get (D := D) (ci := 9) (v := .ref (a 35)) (C := RX9) (T := TX9) (N := 6) hx hb hts hin9 hown hK hP 34 rfl rfl 2 (by decide) (hts (.fieldLink RX9 9 "MissedPoints$Told" "mates" "[I") (by decide +kernel)) (fun _ h9 => h9) rfl dX9_hasWayOf_14 ?_
        refine lv_iload_n hx hb dX9_hasWayOf_17 rfl (lv_at hl 2 rfl) ?_
        refine wk_aldA hx hb hK hP 35 0 rfl rfl (rg_in g42576 (by decide) (by decide)) dX9_hasWayOf_18 (fun r42577 => ?_)
        refine lv_if_ge (tgt := 43) hx hb dX9_hasWayOf_19 (by decide) (fun c42578 => ?_) (fun c42578 => ?_)
        · have g42579 : Rg 0 2147483647 r42577 := rg_ler (by decide : Rg 0 0 (0 : Int32)) (rg_any r42577) c42578 (by decide)
          refine wk_iinc (lv' := fun r => [(2, .int r), (0, .ref (a 34)), (1, .int x0)]) (e1 := 1) (f := 12) hx hb dX9_hasWayOf_43 hl (k := 2) rfl (by decide) g42576 (by decide) (fun _ => rfl) (fun r42580 ls hr42580 er42580 hl => ?_)
          refine lv_goto (tgt := 2) hx hb dX9_hasWayOf_46 (by decide) ?_
          exact ih2 r42580 u _ _ ls (show Rg 0 12 r42580 from rg_w hr42580 (by decide) (by decide)) hP hD hS (lv_sub (l' := [(0, .ref (a 34)), (1, .int x0), (2, .int r42580)]) hl [1, 2, 0] rfl) (me_up hm2 er42580 (by decide))
        · have g42581 : Rg (-2147483648) (-1) r42577 := rg_ltl (rg_any r42577) (by decide : Rg 0 0 (0 : Int32)) (rg_nle c42578) (by decide)
          refine lv_aload_n hx hb dX9_hasWayOf_22 rfl (lv_at hl 0 rfl) ?_
          refine va_get (D := D) (ci := 9) (v := .ref (a 36)) (C := RX9) (T := TX9) (N := 6) hx hb hts hin9 hown hK hP 34 rfl rfl 3 (by decide) (hts (.fieldLink RX9 15 "MissedPoints$Told" "row" "[I") (by decide +kernel)) (fun _ h9 => h9) rfl dX9_hasWayOf_23 ?_
          refine lv_iconst (v := 0) hx hb dX9_hasWayOf_26 (by decide) ?_
          refine lv_iload_n hx hb dX9_hasWayOf_27 rfl (lv_at hl 2 rfl) ?_
          refine ks_ast hx hb hK hP hD hS rfl (k := 36) rfl sx_36 (rg_in (by decide : Rg 0 0 (0 : Int32)) (by decide) (by decide)) dX9_hasWayOf_28 (fun u H locs hP hD hS => ?_)
          refine lv_aload_n hx hb dX9_hasWayOf_29 rfl (lv_at hl 0 rfl) ?_
          refine lv_iconst (v := 1) hx hb dX9_hasWayOf_30 (by decide) ?_
          refine lv_iload_n hx hb dX9_hasWayOf_31 rfl (lv_at hl 1 rfl) ?_
          refine lv_iconst (v := 1) hx hb dX9_hasWayOf_32 (by decide) ?_
          refine lv_iload_n hx hb dX9_hasWayOf_33 rfl (lv_at hl 2 rfl) ?_
          refine wk_ishl1 (f := 2048) hx hb dX9_hasWayOf_34 g42576 (by decide) (fun r42582 hr42582 qr42582 => ?_)
          refine wk_qi (wX cI cS a na nc N L) u (As := [.int 1, .int x0, .int r42582]) (rest := []) ⟨hx, hb, hml, hown, hts⟩ (k_X9_goOn l D cI cS _ a na nc N L u hL hN (1 : Int32) x0 r42582 (by decide : Rg 1 1 (1 : Int32))) hKK hP hD hS hA 34 (ci := 9) rfl rfl (cwV 3 hts gX9_hasWayOf_X9_goOn rfl rfl rfl (by decide +kernel) ⟨Nat.le_of_ble_eq_true rfl, Nat.le_of_ble_eq_true rfl⟩) rfl hl.1 rfl (Nat.le_of_ble_eq_true rfl) dX9_hasWayOf_35 ⟨Nat.le_of_ble_eq_true rfl, Nat.le_of_ble_eq_true rfl⟩ (fun r42583 u H locs hr42583 hP hD hS => ?_)
          refine lv_if_eq (tgt := 43) hx hb dX9_hasWayOf_38 (by decide) (fun c42584 => ?_) (fun c42584 => ?_)
          · have g42585 : Rg 0 0 r42583 := wk_eql hr42583.1 (by decide : Rg 0 0 (0 : Int32)) c42584 (by decide)
            refine wk_iinc (lv' := fun r => [(2, .int r), (0, .ref (a 34)), (1, .int x0)]) (e1 := 1) (f := 12) hx hb dX9_hasWayOf_43 hl (k := 2) rfl (by decide) g42576 (by decide) (fun _ => rfl) (fun r42586 ls hr42586 er42586 hl => ?_)
            refine lv_goto (tgt := 2) hx hb dX9_hasWayOf_46 (by decide) ?_
            exact ih2 r42586 u _ _ ls (show Rg 0 12 r42586 from rg_w hr42586 (by decide) (by decide)) hP hD hS (lv_sub (l' := [(0, .ref (a 34)), (1, .int x0), (2, .int r42586)]) hl [1, 2, 0] rfl) (me_up hm2 er42586 (by decide))
          · have g42587 : Rg 1 1 r42583 := rg_ne_lo (k := 0) hr42583.1 (by decide) c42584 (by decide)
            refine lv_iconst (v := 1) hx hb dX9_hasWayOf_41 (by decide) ?_
            subst hAe
            exact W.zret (v := 1) hx hb hr (by decide) (fun t ht hW => ⟨⟨_, u, rfl, ⟨(by decide : Rg 0 1 (1 : Int32)), trivial⟩, by rw [ht]; exact hP, hD⟩, hS.F ht⟩) hS.2.2 dX9_hasWayOf_42
  refine lv_iconst (v := 0) hx hb dX9_hasWayOf_0 (by decide) ?_
  refine lv_istore_n (lv' := [(2, .int 0), (0, .ref (a 34)), (1, .int x0)]) hx hb dX9_hasWayOf_1 rfl hl (by decide) rfl (fun ls hl => ?_)
  exact lp2 13 (0 : Int32) u _ _ ls (by decide : Rg 0 12 (0 : Int32)) hP hD hS (lv_sub (l' := [(0, .ref (a 34)), (1, .int x0), (2, .int 0)]) hl [1, 2, 0] rfl) (me_i (by decide : Rg 0 12 (0 : Int32)) (by decide))
set_option maxRecDepth 20000 in
theorem ggX9_seekWay_X2_all : GoodIn wsX9_seekWay wsX2_all := goodIn_r _ [25, 26, 89, 90, 91] (by decide +kernel) (by decide +kernel)
set_option maxRecDepth 20000 in
theorem gX9_seekWay_X2_all : GoodIn wsX9_seekWay (wsV RX9 74 RX2 yX2_all wsX2_all) := goodIn_app (goodIn_of _ (by decide +kernel)) ggX9_seekWay_X2_all
set_option maxRecDepth 20000 in
theorem ggX9_seekWay_X3_best : GoodIn wsX9_seekWay wsX3_best := goodIn_r _ [31, 32, 33, 34, 30, 35, 36, 37, 38, 39, 40, 41, 42, 43, 44, 45, 46, 47, 48, 49, 50, 51, 52, 16, 53, 54, 55, 56, 57, 58, 59, 60, 15, 17, 18, 19, 20, 61, 62, 63, 64, 92, 93, 94, 95, 89, 90, 91, 96, 97] (by decide +kernel) (by decide +kernel)
set_option maxRecDepth 20000 in
theorem gX9_seekWay_X3_best : GoodIn wsX9_seekWay (wsV RX9 77 RX3 yX3_best wsX3_best) := goodIn_app (goodIn_of _ (by decide +kernel)) ggX9_seekWay_X3_best
set_option maxRecDepth 20000 in
theorem ggX9_seekWay_X9_hasWayOf : GoodIn wsX9_seekWay wsX9_hasWayOf := goodIn_r _ [68, 3, 13, 69, 70, 71, 72, 7, 73, 74, 75, 76, 24, 77, 78, 79, 80, 81, 82, 26, 83, 84, 85, 86, 87, 88, 89, 90, 91] (by decide +kernel) (by decide +kernel)
set_option maxRecDepth 20000 in
theorem gX9_seekWay_X9_hasWayOf : GoodIn wsX9_seekWay (wsV RX9 80 RX9 yX9_hasWayOf wsX9_hasWayOf) := goodIn_app (goodIn_of _ (by decide +kernel)) ggX9_seekWay_X9_hasWayOf
set_option maxRecDepth 20000 in
theorem ggX9_seekWay_X9_lineCount : GoodIn wsX9_seekWay wsX9_lineCount := goodIn_r _ [8, 3, 9, 10, 11, 7, 12, 13, 14, 15, 16, 17, 18, 19, 20, 83, 84, 85, 86, 87, 88, 89, 90, 91] (by decide +kernel) (by decide +kernel)
set_option maxRecDepth 20000 in
theorem gX9_seekWay_X9_lineCount : GoodIn wsX9_seekWay (wsV RX9 71 RX9 yX9_lineCount wsX9_lineCount) := goodIn_app (goodIn_of _ (by decide +kernel)) ggX9_seekWay_X9_lineCount
theorem dX9_seekWay_0 : decode cX9_seekWay 0 = .ok (.aload_n 0, 1) := by decide +kernel
theorem dX9_seekWay_1 : decode cX9_seekWay 1 = .ok (.iconst 0, 1) := by decide +kernel
theorem dX9_seekWay_10 : decode cX9_seekWay 10 = .ok (.getfield 25, 3) := by decide +kernel
theorem dX9_seekWay_13 : decode cX9_seekWay 13 = .ok (.aload_n 0, 1) := by decide +kernel
theorem dX9_seekWay_14 : decode cX9_seekWay 14 = .ok (.getfield 21, 3) := by decide +kernel
theorem dX9_seekWay_17 : decode cX9_seekWay 17 = .ok (.invokevirtual 74, 3) := by decide +kernel
theorem dX9_seekWay_2 : decode cX9_seekWay 2 = .ok (.putfield 68, 3) := by decide +kernel
theorem dX9_seekWay_20 : decode cX9_seekWay 20 = .ok (.invokevirtual 77, 3) := by decide +kernel
theorem dX9_seekWay_23 : decode cX9_seekWay 23 = .ok (.if_icmp .lt 5, 3) := by decide +kernel
theorem dX9_seekWay_26 : decode cX9_seekWay 26 = .ok (.iconst 0, 1) := by decide +kernel
theorem dX9_seekWay_27 : decode cX9_seekWay 27 = .ok (.ireturn, 1) := by decide +kernel
theorem dX9_seekWay_28 : decode cX9_seekWay 28 = .ok (.iconst 2, 1) := by decide +kernel
theorem dX9_seekWay_29 : decode cX9_seekWay 29 = .ok (.istore_n 1, 1) := by decide +kernel
theorem dX9_seekWay_30 : decode cX9_seekWay 30 = .ok (.iload_n 1, 1) := by decide +kernel
theorem dX9_seekWay_31 : decode cX9_seekWay 31 = .ok (.aload_n 0, 1) := by decide +kernel
theorem dX9_seekWay_32 : decode cX9_seekWay 32 = .ok (.getfield 21, 3) := by decide +kernel
theorem dX9_seekWay_35 : decode cX9_seekWay 35 = .ok (.getfield 41, 3) := by decide +kernel
theorem dX9_seekWay_38 : decode cX9_seekWay 38 = .ok (.if_icmp .gt 29, 3) := by decide +kernel
theorem dX9_seekWay_41 : decode cX9_seekWay 41 = .ok (.aload_n 0, 1) := by decide +kernel
theorem dX9_seekWay_42 : decode cX9_seekWay 42 = .ok (.getfield 68, 3) := by decide +kernel
theorem dX9_seekWay_45 : decode cX9_seekWay 45 = .ok (.ifCond .ne 22, 3) := by decide +kernel
theorem dX9_seekWay_48 : decode cX9_seekWay 48 = .ok (.aload_n 0, 1) := by decide +kernel
theorem dX9_seekWay_49 : decode cX9_seekWay 49 = .ok (.iload_n 1, 1) := by decide +kernel
theorem dX9_seekWay_5 : decode cX9_seekWay 5 = .ok (.aload_n 0, 1) := by decide +kernel
theorem dX9_seekWay_50 : decode cX9_seekWay 50 = .ok (.invokevirtual 80, 3) := by decide +kernel
theorem dX9_seekWay_53 : decode cX9_seekWay 53 = .ok (.ifCond .eq 8, 3) := by decide +kernel
theorem dX9_seekWay_56 : decode cX9_seekWay 56 = .ok (.aload_n 0, 1) := by decide +kernel
theorem dX9_seekWay_57 : decode cX9_seekWay 57 = .ok (.iload_n 1, 1) := by decide +kernel
theorem dX9_seekWay_58 : decode cX9_seekWay 58 = .ok (.putfield 68, 3) := by decide +kernel
theorem dX9_seekWay_6 : decode cX9_seekWay 6 = .ok (.invokevirtual 71, 3) := by decide +kernel
theorem dX9_seekWay_61 : decode cX9_seekWay 61 = .ok (.iinc 1 2, 3) := by decide +kernel
theorem dX9_seekWay_64 : decode cX9_seekWay 64 = .ok (.goto (-34), 3) := by decide +kernel
theorem dX9_seekWay_67 : decode cX9_seekWay 67 = .ok (.aload_n 0, 1) := by decide +kernel
theorem dX9_seekWay_68 : decode cX9_seekWay 68 = .ok (.getfield 68, 3) := by decide +kernel
theorem dX9_seekWay_71 : decode cX9_seekWay 71 = .ok (.ireturn, 1) := by decide +kernel
theorem dX9_seekWay_9 : decode cX9_seekWay 9 = .ok (.aload_n 0, 1) := by decide +kernel
set_option maxHeartbeats 4000000 in
set_option maxRecDepth 100000 in
theorem k_X9_seekWay (l : Launch) (D : va_G) (cI cS : ClassId) (sz : Nat) (a : Nat → Nat) (na nc N : Nat) (L u0 : SU) (hL : TyX L) (hN : N = 0 ∨ N = 24576) : Met l yX9_seekWay wsX9_seekWay ({ frames := 16, cells := 0, slots := 0, locals := 640 }) (PQ D cI cS (wX cI cS a na nc N L u0) sz [.ref (a 34)]) (QF (S := SU) D (wX cI cS a na nc N L u0) (wX cI cS a na nc N L) sz (fun r _ => Rg (-2147483648) 2147483647 r ∧ True)) 0 0 (va_A (wX cI cS a na nc N L u0) sz) := by
  refine Met.ofW (cc := cX9_seekWay) (maxL := 2) (ret := (some .int)) (by decide) rfl ?_
  intro p e s m args below meth c s₁ B hml hv
  obtain ⟨rfl, hsz, hP, hKK, hD0⟩ := hv
  have hx := B.exec
  have hb := B.bytes
  have hr := B.returns
  have hts := atoms_spec (ws := wsX9_seekWay) B.pre
  have hown : s.vm.findClass RX9 = some m.cls := findClass_of_methodNamed B.named
  have hlocks := B.notSynchronized
  have hK := hKK.1
  have hin2 : ∀ w ∈ wsX20, w ∈ wsX9_seekWay := by decide +kernel
  have hin9 : ∀ w ∈ wsX90, w ∈ wsX9_seekWay := by decide +kernel
  subst hsz
  have hD := hD0.self (sz := s.heap.size)
  obtain ⟨A, hAe⟩ : ∃ A, A = va_A (wX cI cS a na nc N L u0) s.heap.size := ⟨_, rfl⟩
  rw [← hAe] at hD
  have hA : ∀ q : Nat, s.heap.size ≤ q → A q := fun q h => by rw [hAe]; exact Or.inr h
  have hS : va_S A s.heap s.heap [] := va_S.rf
  have hl := lv_entry ([.ref (a 34)]) (n := 2) (Nat.le_of_ble_eq_true rfl)
  rw [lg_entry_eq]
  generalize (lg_sl ([.ref (a 34)]) ++ List.replicate (2 - (lg_sl ([.ref (a 34)])).length) Slot.unset).toArray = ls at hl ⊢
  have hl : lv_has ls 2 [(0, .ref (a 34))] := hl
  obtain ⟨u, hu9⟩ : ∃ u : SU, u = u0 := ⟨_, rfl⟩
  rw [← hu9] at hP hD
  have lp30 : ∀ (n30 : Nat) (y30_l1 : Int32) (u : SU) (H : Heap) (locs : List Loc) (ls : Array Slot), Rg 2 20 y30_l1 → va_P D cls (wX cI cS a na nc N L u) H → va_D A (wX cI cS a na nc N L u) → va_S A s.heap H locs → lv_has ls 2 [(0, .ref (a 34)), (1, .int y30_l1)] → 20 - y30_l1.toInt < (n30 : Int) → W p l e (headSpec wsX9_seekWay ({ frames := 16, cells := 0, slots := 0, locals := 640 })).room s m ([.ref (a 34)]).toArray below meth c H locs 0 0 (MQ below (QF (S := SU) D (wX cI cS a na nc N L u0) (wX cI cS a na nc N L) s.heap.size (fun r _ => Rg (-2147483648) 2147483647 r ∧ True)) ([.ref (a 34)]).toArray s 0 0 (va_A (wX cI cS a na nc N L u0) s.heap.size)) (F0 m 30 ls []) := by
    intro n30
    induction n30 with
    | zero =>
      intro y30_l1 u H locs ls g30_l1 hP hD hS hl hm30
      exact absurd rfl (me_z g30_l1 hm30)
    | succ n30 ih30 =>
      intro y30_l1 u H locs ls g30_l1 hP hD hS hl hm30
      refine lv_iload_n hx hb dX9_seekWay_30 rfl (lv_at hl 1 rfl) ?_
      refine lv_aload_n hx hb dX9_seekWay_31 rfl (lv_at hl 0 rfl) ?_
      refine va_get (D := D) (ci := 9) (v := .ref (a 1)) (C := RX9) (T := TX9) (N := 6) hx hb hts hin9 hown hK hP 34 rfl rfl 0 (by decide) (hts (.fieldLink RX9 21 "MissedPoints$Told" "net" "LMissedPoints$Net;") (by decide +kernel)) (fun _ h9 => h9) rfl dX9_seekWay_32 ?_
      refine va_getN (D := D) (ci := 2) (v := .int (L 1 1)) (C := RX2) (T := TX2) (N := 3) hx hb hts hin2 hown hK hP 1 rfl rfl 1 (by decide) (va_Nw.use rfl hKK.2.2.2.2.2.2.2.2.2.2.2.2.2.2.2.2.1) (fun _ h9 => h9) rfl dX9_seekWay_35 ?_
      refine lv_icmp_gt (tgt := 67) hx hb dX9_seekWay_38 (by decide) (fun c42726 => ?_) (fun c42726 => ?_)
      · refine lv_aload_n hx hb dX9_seekWay_67 rfl (lv_at hl 0 rfl) ?_
        refine va_get (D := D) (ci := 9) (v := .int (u 34 5)) (C := RX9) (T := TX9) (N := 6) hx hb hts hin9 hown hK hP 34 rfl rfl 5 (by decide) (hts (.fieldLink RX9 68 "MissedPoints$Told" "rowLength" "I") (by decide +kernel)) (fun _ h9 => h9) rfl dX9_seekWay_68 ?_
        refine wk_any (fun r42727 => ?_)
        subst hAe
        exact W.iret (v := r42727) hx hb hr (fun t ht hW => ⟨⟨_, u, rfl, ⟨(rg_any r42727), trivial⟩, by rw [ht]; exact hP, hD⟩, hS.F ht⟩) hS.2.2 dX9_seekWay_71
      · have g42728 : Rg 2 12 (L 1 1) := rg_ler g30_l1 hL.1 (rg_nlt c42726) (by decide)
        have g42729 : Rg 2 12 y30_l1 := rg_lel g30_l1 hL.1 (rg_nlt c42726) (by decide)
        refine lv_aload_n hx hb dX9_seekWay_41 rfl (lv_at hl 0 rfl) ?_
        refine va_get (D := D) (ci := 9) (v := .int (u 34 5)) (C := RX9) (T := TX9) (N := 6) hx hb hts hin9 hown hK hP 34 rfl rfl 5 (by decide) (hts (.fieldLink RX9 68 "MissedPoints$Told" "rowLength" "I") (by decide +kernel)) (fun _ h9 => h9) rfl dX9_seekWay_42 ?_
        refine wk_any (fun r42730 => ?_)
        refine lv_if_ne (tgt := 67) hx hb dX9_seekWay_45 (by decide) (fun c42731 => ?_) (fun c42731 => ?_)
        · refine lv_aload_n hx hb dX9_seekWay_67 rfl (lv_at hl 0 rfl) ?_
          refine va_get (D := D) (ci := 9) (v := .int (u 34 5)) (C := RX9) (T := TX9) (N := 6) hx hb hts hin9 hown hK hP 34 rfl rfl 5 (by decide) (hts (.fieldLink RX9 68 "MissedPoints$Told" "rowLength" "I") (by decide +kernel)) (fun _ h9 => h9) rfl dX9_seekWay_68 ?_
          refine wk_any (fun r42732 => ?_)
          subst hAe
          exact W.iret (v := r42732) hx hb hr (fun t ht hW => ⟨⟨_, u, rfl, ⟨(rg_any r42732), trivial⟩, by rw [ht]; exact hP, hD⟩, hS.F ht⟩) hS.2.2 dX9_seekWay_71
        · have g42733 : Rg 0 0 r42730 := wk_eql (rg_any r42730) (by decide : Rg 0 0 (0 : Int32)) c42731 (by decide)
          refine lv_aload_n hx hb dX9_seekWay_48 rfl (lv_at hl 0 rfl) ?_
          refine lv_iload_n hx hb dX9_seekWay_49 rfl (lv_at hl 1 rfl) ?_
          refine wk_qi (wX cI cS a na nc N L) u (As := [.int y30_l1]) (rest := []) ⟨hx, hb, hml, hown, hts⟩ (k_X9_hasWayOf l D cI cS _ a na nc N L u hL hN y30_l1) hKK hP hD hS hA 34 (ci := 9) rfl rfl (cwV 1 hts gX9_seekWay_X9_hasWayOf rfl rfl rfl (by decide +kernel) ⟨Nat.le_of_ble_eq_true rfl, Nat.le_of_ble_eq_true rfl⟩) rfl hl.1 rfl (Nat.le_of_ble_eq_true rfl) dX9_seekWay_50 ⟨Nat.le_of_ble_eq_true rfl, Nat.le_of_ble_eq_true rfl⟩ (fun r42734 u H locs hr42734 hP hD hS => ?_)
          refine lv_if_eq (tgt := 61) hx hb dX9_seekWay_53 (by decide) (fun c42735 => ?_) (fun c42735 => ?_)
          · have g42736 : Rg 0 0 r42734 := wk_eql hr42734.1 (by decide : Rg 0 0 (0 : Int32)) c42735 (by decide)
            refine wk_iinc (lv' := fun r => [(1, .int r), (0, .ref (a 34))]) (e1 := 4) (f := 14) hx hb dX9_seekWay_61 hl (k := 1) rfl (by decide) g42729 (by decide) (fun _ => rfl) (fun r42737 ls hr42737 er42737 hl => ?_)
            refine lv_goto (tgt := 30) hx hb dX9_seekWay_64 (by decide) ?_
            exact ih30 r42737 u _ _ ls (show Rg 2 20 r42737 from rg_w hr42737 (by decide) (by decide)) hP hD hS (lv_sub (l' := [(0, .ref (a 34)), (1, .int r42737)]) hl [1, 0] rfl) (me_up hm30 er42737 (by decide))
          · have g42738 : Rg 1 1 r42734 := rg_ne_lo (k := 0) hr42734.1 (by decide) c42735 (by decide)
            refine lv_aload_n hx hb dX9_seekWay_56 rfl (lv_at hl 0 rfl) ?_
            refine lv_iload_n hx hb dX9_seekWay_57 rfl (lv_at hl 1 rfl) ?_
            refine va_put (D := D) (ci := 9) (v := .int y30_l1) (ty := .int) (C := RX9) (T := TX9) (N := 6) hx hb hts hin9 tyX9 tyX9_ok nmX9 hown hK hP hD hS 34 rfl rfl 5 (by decide) (hts (.fieldLink RX9 68 "MissedPoints$Told" "rowLength" "I") (by decide +kernel)) (fun _ h9 => h9) rfl (by decide +kernel) rfl rfl (Nat.le_of_ble_eq_true rfl) dX9_seekWay_58 (fun H locs hP hD hS => ?_)
            rw [sxf_34_5] at hP hD
            generalize sU u 34 _ = u at hP hD
            refine wk_iinc (lv' := fun r => [(1, .int r), (0, .ref (a 34))]) (e1 := 4) (f := 14) hx hb dX9_seekWay_61 hl (k := 1) rfl (by decide) g42729 (by decide) (fun _ => rfl) (fun r42739 ls hr42739 er42739 hl => ?_)
            refine lv_goto (tgt := 30) hx hb dX9_seekWay_64 (by decide) ?_
            exact ih30 r42739 u _ _ ls (show Rg 2 20 r42739 from rg_w hr42739 (by decide) (by decide)) hP hD hS (lv_sub (l' := [(0, .ref (a 34)), (1, .int r42739)]) hl [1, 0] rfl) (me_up hm30 er42739 (by decide))
  refine lv_aload_n hx hb dX9_seekWay_0 rfl (lv_at hl 0 rfl) ?_
  refine lv_iconst (v := 0) hx hb dX9_seekWay_1 (by decide) ?_
  refine va_put (D := D) (ci := 9) (v := .int 0) (ty := .int) (C := RX9) (T := TX9) (N := 6) hx hb hts hin9 tyX9 tyX9_ok nmX9 hown hK hP hD hS 34 rfl rfl 5 (by decide) (hts (.fieldLink RX9 68 "MissedPoints$Told" "rowLength" "I") (by decide +kernel)) (fun _ h9 => h9) rfl (by decide +kernel) rfl rfl (Nat.le_of_ble_eq_true rfl) dX9_seekWay_2 (fun H locs hP hD hS => ?_)
  rw [sxf_34_5] at hP hD
  generalize sU u 34 _ = u at hP hD
  refine lv_aload_n hx hb dX9_seekWay_5 rfl (lv_at hl 0 rfl) ?_
  refine wk_sv 34 (As := []) (rest := []) ⟨hx, hb, hml, hown, hts⟩ (k_X9_lineCount l D cI cS a na nc N L u hL hN) hKK hP (ci := 9) rfl rfl (cwV 0 hts gX9_seekWay_X9_lineCount rfl rfl rfl (by decide +kernel) ⟨Nat.le_of_ble_eq_true rfl, Nat.le_of_ble_eq_true rfl⟩) rfl hl.1 rfl (Nat.le_of_ble_eq_true rfl) dX9_seekWay_6 ⟨Nat.le_of_ble_eq_true rfl, Nat.le_of_ble_eq_true rfl⟩ (fun r42740 hr42740 => ?_)
  refine lv_aload_n hx hb dX9_seekWay_9 rfl (lv_at hl 0 rfl) ?_
  refine va_get (D := D) (ci := 9) (v := .ref (a 7)) (C := RX9) (T := TX9) (N := 6) hx hb hts hin9 hown hK hP 34 rfl rfl 1 (by decide) (hts (.fieldLink RX9 25 "MissedPoints$Told" "pairs" "LMissedPoints$Pairs;") (by decide +kernel)) (fun _ h9 => h9) rfl dX9_seekWay_10 ?_
  refine lv_aload_n hx hb dX9_seekWay_13 rfl (lv_at hl 0 rfl) ?_
  refine va_get (D := D) (ci := 9) (v := .ref (a 1)) (C := RX9) (T := TX9) (N := 6) hx hb hts hin9 hown hK hP 34 rfl rfl 0 (by decide) (hts (.fieldLink RX9 21 "MissedPoints$Told" "net" "LMissedPoints$Net;") (by decide +kernel)) (fun _ h9 => h9) rfl dX9_seekWay_14 ?_
  refine wk_sv 1 (As := []) (rest := [.ref (a 7), .int r42740]) ⟨hx, hb, hml, hown, hts⟩ (k_X2_all l D cI cS a na nc N L u hL hN) hKK hP (ci := 2) rfl rfl (cwV 0 hts gX9_seekWay_X2_all rfl rfl rfl (by decide +kernel) ⟨Nat.le_of_ble_eq_true rfl, Nat.le_of_ble_eq_true rfl⟩) rfl hl.1 rfl (Nat.le_of_ble_eq_true rfl) dX9_seekWay_17 ⟨Nat.le_of_ble_eq_true rfl, Nat.le_of_ble_eq_true rfl⟩ (fun r42741 hr42741 => ?_)
  refine wk_qi (wX cI cS a na nc N L) u (As := [.int r42741]) (rest := [.int r42740]) ⟨hx, hb, hml, hown, hts⟩ (k_X3_best l D cI cS _ a na nc N L u hL hN r42741) hKK hP hD hS hA 7 (ci := 3) rfl rfl (cwV 1 hts gX9_seekWay_X3_best rfl rfl rfl (by decide +kernel) ⟨Nat.le_of_ble_eq_true rfl, Nat.le_of_ble_eq_true rfl⟩) rfl hl.1 rfl (Nat.le_of_ble_eq_true rfl) dX9_seekWay_20 ⟨Nat.le_of_ble_eq_true rfl, Nat.le_of_ble_eq_true rfl⟩ (fun r42742 u H locs hr42742 hP hD hS => ?_)
  refine lv_icmp_lt (tgt := 28) hx hb dX9_seekWay_23 (by decide) (fun c42743 => ?_) (fun c42743 => ?_)
  · have g42744 : Rg (-2147483648) 65548 r42740 := rg_ltl hr42740.1 hr42742.1 c42743 (by decide)
    refine lv_iconst (v := 2) hx hb dX9_seekWay_28 (by decide) ?_
    refine lv_istore_n (lv' := [(1, .int 2), (0, .ref (a 34))]) hx hb dX9_seekWay_29 rfl hl (by decide) rfl (fun ls hl => ?_)
    exact lp30 19 (2 : Int32) u _ _ ls (by decide : Rg 2 20 (2 : Int32)) hP hD hS (lv_sub (l' := [(0, .ref (a 34)), (1, .int 2)]) hl [1, 0] rfl) (me_i (by decide : Rg 2 20 (2 : Int32)) (by decide))
  · have g42745 : Rg 0 2147483647 r42740 := rg_ler hr42742.1 hr42740.1 (rg_nlt c42743) (by decide)
    refine lv_iconst (v := 0) hx hb dX9_seekWay_26 (by decide) ?_
    subst hAe
    exact W.iret (v := 0) hx hb hr (fun t ht hW => ⟨⟨_, u, rfl, ⟨(by decide : Rg (-2147483648) 2147483647 (0 : Int32)), trivial⟩, by rw [ht]; exact hP, hD⟩, hS.F ht⟩) hS.2.2 dX9_seekWay_27
theorem dX9_wayAt_0 : decode cX9_wayAt 0 = .ok (.iload_n 1, 1) := by decide +kernel
theorem dX9_wayAt_1 : decode cX9_wayAt 1 = .ok (.ifCond .lt 26, 3) := by decide +kernel
theorem dX9_wayAt_12 : decode cX9_wayAt 12 = .ok (.iload_n 1, 1) := by decide +kernel
theorem dX9_wayAt_13 : decode cX9_wayAt 13 = .ok (.bipush 12, 2) := by decide +kernel
theorem dX9_wayAt_15 : decode cX9_wayAt 15 = .ok (.if_icmp .ge 12, 3) := by decide +kernel
theorem dX9_wayAt_18 : decode cX9_wayAt 18 = .ok (.aload_n 0, 1) := by decide +kernel
theorem dX9_wayAt_19 : decode cX9_wayAt 19 = .ok (.getfield 15, 3) := by decide +kernel
theorem dX9_wayAt_22 : decode cX9_wayAt 22 = .ok (.iload_n 1, 1) := by decide +kernel
theorem dX9_wayAt_23 : decode cX9_wayAt 23 = .ok (.iaload, 1) := by decide +kernel
theorem dX9_wayAt_24 : decode cX9_wayAt 24 = .ok (.goto 4, 3) := by decide +kernel
theorem dX9_wayAt_27 : decode cX9_wayAt 27 = .ok (.iconst (-1), 1) := by decide +kernel
theorem dX9_wayAt_28 : decode cX9_wayAt 28 = .ok (.ireturn, 1) := by decide +kernel
theorem dX9_wayAt_4 : decode cX9_wayAt 4 = .ok (.iload_n 1, 1) := by decide +kernel
theorem dX9_wayAt_5 : decode cX9_wayAt 5 = .ok (.aload_n 0, 1) := by decide +kernel
theorem dX9_wayAt_6 : decode cX9_wayAt 6 = .ok (.getfield 68, 3) := by decide +kernel
theorem dX9_wayAt_9 : decode cX9_wayAt 9 = .ok (.if_icmp .ge 18, 3) := by decide +kernel
set_option maxHeartbeats 4000000 in
set_option maxRecDepth 100000 in
theorem k_X9_wayAt (l : Launch) (D : va_G) (cI cS : ClassId) (a : Nat → Nat) (na nc N : Nat) (L u : SU) (hL : TyX L) (hN : N = 0 ∨ N = 24576) (x0 : Int32) : Met l yX9_wayAt wsX9_wayAt ({ frames := 0, cells := 0, slots := 0, locals := 0 }) (PS D cI cS (wX cI cS a na nc N L u) [.ref (a 34), .int x0]) (vp_Si (fun r => Rg (-2147483648) 2147483647 r ∧ True)) 0 0 (fun _ => False) := by
  refine Met.ofW (cc := cX9_wayAt) (maxL := 2) (ret := (some .int)) (by decide) rfl ?_
  intro p e s m args below meth c s₁ B hml hv
  obtain ⟨rfl, hP, hKK⟩ := hv
  have hx := B.exec
  have hb := B.bytes
  have hr := B.returns
  have hts := atoms_spec (ws := wsX9_wayAt) B.pre
  have hown : s.vm.findClass RX9 = some m.cls := findClass_of_methodNamed B.named
  have hlocks := B.notSynchronized
  have hK := hKK.1
  have hin9 : ∀ w ∈ wsX90, w ∈ wsX9_wayAt := by decide +kernel
  have hl := lv_entry ([.ref (a 34), .int x0]) (n := 2) (Nat.le_of_ble_eq_true rfl)
  rw [lg_entry_eq]
  generalize (lg_sl ([.ref (a 34), .int x0]) ++ List.replicate (2 - (lg_sl ([.ref (a 34), .int x0])).length) Slot.unset).toArray = ls at hl ⊢
  have hl : lv_has ls 2 [(0, .ref (a 34)), (1, .int x0)] := hl
  refine lv_iload_n hx hb dX9_wayAt_0 rfl (lv_at hl 1 rfl) ?_
  refine lv_if_lt (tgt := 27) hx hb dX9_wayAt_1 (by decide) (fun c42757 => ?_) (fun c42757 => ?_)
  · have g42758 : Rg (-2147483648) (-1) x0 := rg_ltl (rg_any x0) (by decide : Rg 0 0 (0 : Int32)) c42757 (by decide)
    refine lv_iconst (v := (-1)) hx hb dX9_wayAt_27 (by decide) ?_
    exact W.iret (v := (-1)) hx hb hr (fun t ht hW => ⟨_, rfl, ⟨(by decide : Rg (-2147483648) 2147483647 ((-1) : Int32)), trivial⟩, ht⟩) (fun q hq => absurd hq List.not_mem_nil) dX9_wayAt_28
  · have g42759 : Rg 0 2147483647 x0 := rg_ler (by decide : Rg 0 0 (0 : Int32)) (rg_any x0) (rg_nlt c42757) (by decide)
    refine lv_iload_n hx hb dX9_wayAt_4 rfl (lv_at hl 1 rfl) ?_
    refine lv_aload_n hx hb dX9_wayAt_5 rfl (lv_at hl 0 rfl) ?_
    refine va_get (D := D) (ci := 9) (v := .int (u 34 5)) (C := RX9) (T := TX9) (N := 6) hx hb hts hin9 hown hK hP 34 rfl rfl 5 (by decide) (hts (.fieldLink RX9 68 "MissedPoints$Told" "rowLength" "I") (by decide +kernel)) (fun _ h9 => h9) rfl dX9_wayAt_6 ?_
    refine wk_any (fun r42760 => ?_)
    refine lv_icmp_ge (tgt := 27) hx hb dX9_wayAt_9 (by decide) (fun c42761 => ?_) (fun c42761 => ?_)
    · refine lv_iconst (v := (-1)) hx hb dX9_wayAt_27 (by decide) ?_
      exact W.iret (v := (-1)) hx hb hr (fun t ht hW => ⟨_, rfl, ⟨(by decide : Rg (-2147483648) 2147483647 ((-1) : Int32)), trivial⟩, ht⟩) (fun q hq => absurd hq List.not_mem_nil) dX9_wayAt_28
    · have g42762 : Rg 1 2147483647 r42760 := rg_ltr g42759 (rg_any r42760) (rg_nle c42761) (by decide)
      have g42763 : Rg 0 2147483646 x0 := rg_ltl g42759 (rg_any r42760) (rg_nle c42761) (by decide)
      refine lv_iload_n hx hb dX9_wayAt_12 rfl (lv_at hl 1 rfl) ?_
      refine lv_bipush (v := 12) hx hb dX9_wayAt_13 (by decide) ?_
      refine lv_icmp_ge (tgt := 27) hx hb dX9_wayAt_15 (by decide) (fun c42764 => ?_) (fun c42764 => ?_)
      · have g42765 : Rg 12 2147483646 x0 := rg_ler (by decide : Rg 12 12 (12 : Int32)) g42763 c42764 (by decide)
        refine lv_iconst (v := (-1)) hx hb dX9_wayAt_27 (by decide) ?_
        exact W.iret (v := (-1)) hx hb hr (fun t ht hW => ⟨_, rfl, ⟨(by decide : Rg (-2147483648) 2147483647 ((-1) : Int32)), trivial⟩, ht⟩) (fun q hq => absurd hq List.not_mem_nil) dX9_wayAt_28
      · have g42766 : Rg 0 11 x0 := rg_ltl g42763 (by decide : Rg 12 12 (12 : Int32)) (rg_nle c42764) (by decide)
        refine lv_aload_n hx hb dX9_wayAt_18 rfl (lv_at hl 0 rfl) ?_
        refine va_get (D := D) (ci := 9) (v := .ref (a 36)) (C := RX9) (T := TX9) (N := 6) hx hb hts hin9 hown hK hP 34 rfl rfl 3 (by decide) (hts (.fieldLink RX9 15 "MissedPoints$Told" "row" "[I") (by decide +kernel)) (fun _ h9 => h9) rfl dX9_wayAt_19 ?_
        refine lv_iload_n hx hb dX9_wayAt_22 rfl (lv_at hl 1 rfl) ?_
        refine wk_aldA hx hb hK hP 36 0 rfl rfl (rg_in g42766 (by decide) (by decide)) dX9_wayAt_23 (fun r42767 => ?_)
        refine lv_goto (tgt := 28) hx hb dX9_wayAt_24 (by decide) ?_
        exact W.iret (v := r42767) hx hb hr (fun t ht hW => ⟨_, rfl, ⟨(rg_any r42767), trivial⟩, ht⟩) (fun q hq => absurd hq List.not_mem_nil) dX9_wayAt_28
set_option maxRecDepth 20000 in
theorem ggX9_turnWay_X2_areTwo : GoodIn wsX9_turnWay wsX2_areTwo := goodIn_r _ [9, 10, 11, 12, 8, 13, 14, 21, 22, 23] (by decide +kernel) (by decide +kernel)
set_option maxRecDepth 20000 in
theorem gX9_turnWay_X2_areTwo : GoodIn wsX9_turnWay (wsV RX9 91 RX2 yX2_areTwo wsX2_areTwo) := goodIn_app (goodIn_of _ (by decide +kernel)) ggX9_turnWay_X2_areTwo
theorem dX9_turnWay_0 : decode cX9_turnWay 0 = .ok (.iconst 0, 1) := by decide +kernel
theorem dX9_turnWay_1 : decode cX9_turnWay 1 = .ok (.istore_n 1, 1) := by decide +kernel
theorem dX9_turnWay_12 : decode cX9_turnWay 12 = .ok (.iload_n 1, 1) := by decide +kernel
theorem dX9_turnWay_13 : decode cX9_turnWay 13 = .ok (.iconst 1, 1) := by decide +kernel
theorem dX9_turnWay_14 : decode cX9_turnWay 14 = .ok (.iadd, 1) := by decide +kernel
theorem dX9_turnWay_15 : decode cX9_turnWay 15 = .ok (.bipush 12, 2) := by decide +kernel
theorem dX9_turnWay_17 : decode cX9_turnWay 17 = .ok (.if_icmp .ge 51, 3) := by decide +kernel
theorem dX9_turnWay_2 : decode cX9_turnWay 2 = .ok (.iload_n 1, 1) := by decide +kernel
theorem dX9_turnWay_20 : decode cX9_turnWay 20 = .ok (.aload_n 0, 1) := by decide +kernel
theorem dX9_turnWay_21 : decode cX9_turnWay 21 = .ok (.getfield 15, 3) := by decide +kernel
theorem dX9_turnWay_24 : decode cX9_turnWay 24 = .ok (.iload_n 1, 1) := by decide +kernel
theorem dX9_turnWay_25 : decode cX9_turnWay 25 = .ok (.iaload, 1) := by decide +kernel
theorem dX9_turnWay_26 : decode cX9_turnWay 26 = .ok (.istore_n 2, 1) := by decide +kernel
theorem dX9_turnWay_27 : decode cX9_turnWay 27 = .ok (.aload_n 0, 1) := by decide +kernel
theorem dX9_turnWay_28 : decode cX9_turnWay 28 = .ok (.getfield 15, 3) := by decide +kernel
theorem dX9_turnWay_3 : decode cX9_turnWay 3 = .ok (.iconst 1, 1) := by decide +kernel
theorem dX9_turnWay_31 : decode cX9_turnWay 31 = .ok (.iload_n 1, 1) := by decide +kernel
theorem dX9_turnWay_32 : decode cX9_turnWay 32 = .ok (.iconst 1, 1) := by decide +kernel
theorem dX9_turnWay_33 : decode cX9_turnWay 33 = .ok (.iadd, 1) := by decide +kernel
theorem dX9_turnWay_34 : decode cX9_turnWay 34 = .ok (.iaload, 1) := by decide +kernel
theorem dX9_turnWay_35 : decode cX9_turnWay 35 = .ok (.istore_n 3, 1) := by decide +kernel
theorem dX9_turnWay_36 : decode cX9_turnWay 36 = .ok (.aload_n 0, 1) := by decide +kernel
theorem dX9_turnWay_37 : decode cX9_turnWay 37 = .ok (.getfield 21, 3) := by decide +kernel
theorem dX9_turnWay_4 : decode cX9_turnWay 4 = .ok (.iadd, 1) := by decide +kernel
theorem dX9_turnWay_40 : decode cX9_turnWay 40 = .ok (.iload_n 2, 1) := by decide +kernel
theorem dX9_turnWay_41 : decode cX9_turnWay 41 = .ok (.iload_n 3, 1) := by decide +kernel
theorem dX9_turnWay_42 : decode cX9_turnWay 42 = .ok (.invokevirtual 91, 3) := by decide +kernel
theorem dX9_turnWay_45 : decode cX9_turnWay 45 = .ok (.ifCond .eq 17, 3) := by decide +kernel
theorem dX9_turnWay_48 : decode cX9_turnWay 48 = .ok (.aload_n 0, 1) := by decide +kernel
theorem dX9_turnWay_49 : decode cX9_turnWay 49 = .ok (.getfield 9, 3) := by decide +kernel
theorem dX9_turnWay_5 : decode cX9_turnWay 5 = .ok (.aload_n 0, 1) := by decide +kernel
theorem dX9_turnWay_52 : decode cX9_turnWay 52 = .ok (.iload_n 2, 1) := by decide +kernel
theorem dX9_turnWay_53 : decode cX9_turnWay 53 = .ok (.iload_n 3, 1) := by decide +kernel
theorem dX9_turnWay_54 : decode cX9_turnWay 54 = .ok (.iastore, 1) := by decide +kernel
theorem dX9_turnWay_55 : decode cX9_turnWay 55 = .ok (.aload_n 0, 1) := by decide +kernel
theorem dX9_turnWay_56 : decode cX9_turnWay 56 = .ok (.getfield 9, 3) := by decide +kernel
theorem dX9_turnWay_59 : decode cX9_turnWay 59 = .ok (.iload_n 3, 1) := by decide +kernel
theorem dX9_turnWay_6 : decode cX9_turnWay 6 = .ok (.getfield 68, 3) := by decide +kernel
theorem dX9_turnWay_60 : decode cX9_turnWay 60 = .ok (.iload_n 2, 1) := by decide +kernel
theorem dX9_turnWay_61 : decode cX9_turnWay 61 = .ok (.iastore, 1) := by decide +kernel
theorem dX9_turnWay_62 : decode cX9_turnWay 62 = .ok (.iinc 1 2, 3) := by decide +kernel
theorem dX9_turnWay_65 : decode cX9_turnWay 65 = .ok (.goto (-63), 3) := by decide +kernel
theorem dX9_turnWay_68 : decode cX9_turnWay 68 = .ok (.return_, 1) := by decide +kernel
theorem dX9_turnWay_9 : decode cX9_turnWay 9 = .ok (.if_icmp .ge 59, 3) := by decide +kernel
set_option maxHeartbeats 4000000 in
set_option maxRecDepth 100000 in
theorem k_X9_turnWay (l : Launch) (D : va_G) (cI cS : ClassId) (sz : Nat) (a : Nat → Nat) (na nc N : Nat) (L u0 : SU) (hL : TyX L) (hN : N = 0 ∨ N = 24576) : Met l yX9_turnWay wsX9_turnWay ({ frames := 2, cells := 0, slots := 0, locals := 80 }) (PQ D cI cS (wX cI cS a na nc N L u0) sz [.ref (a 34)]) (QE (S := SU) D (wX cI cS a na nc N L u0) (wX cI cS a na nc N L) sz (fun _ => True)) 0 0 (va_A (wX cI cS a na nc N L u0) sz) := by
  refine Met.ofW (cc := cX9_turnWay) (maxL := 4) (ret := none) (by decide) rfl ?_
  intro p e s m args below meth c s₁ B hml hv
  obtain ⟨rfl, hsz, hP, hKK, hD0⟩ := hv
  have hx := B.exec
  have hb := B.bytes
  have hr := B.returns
  have hts := atoms_spec (ws := wsX9_turnWay) B.pre
  have hown : s.vm.findClass RX9 = some m.cls := findClass_of_methodNamed B.named
  have hlocks := B.notSynchronized
  have hK := hKK.1
  have hin9 : ∀ w ∈ wsX90, w ∈ wsX9_turnWay := by decide +kernel
  subst hsz
  have hD := hD0.self (sz := s.heap.size)
  obtain ⟨A, hAe⟩ : ∃ A, A = va_A (wX cI cS a na nc N L u0) s.heap.size := ⟨_, rfl⟩
  rw [← hAe] at hD
  have hA : ∀ q : Nat, s.heap.size ≤ q → A q := fun q h => by rw [hAe]; exact Or.inr h
  have hS : va_S A s.heap s.heap [] := va_S.rf
  have hl := lv_entry ([.ref (a 34)]) (n := 4) (Nat.le_of_ble_eq_true rfl)
  rw [lg_entry_eq]
  generalize (lg_sl ([.ref (a 34)]) ++ List.replicate (4 - (lg_sl ([.ref (a 34)])).length) Slot.unset).toArray = ls at hl ⊢
  have hl : lv_has ls 4 [(0, .ref (a 34))] := hl
  obtain ⟨u, hu9⟩ : ∃ u : SU, u = u0 := ⟨_, rfl⟩
  rw [← hu9] at hP hD
  have lp2 : ∀ (n2 : Nat) (y2_l1 : Int32) (u : SU) (H : Heap) (locs : List Loc) (ls : Array Slot), Rg 0 12 y2_l1 → va_P D cls (wX cI cS a na nc N L u) H → va_D A (wX cI cS a na nc N L u) → va_S A s.heap H locs → lv_has ls 4 [(0, .ref (a 34)), (1, .int y2_l1)] → 12 - y2_l1.toInt < (n2 : Int) → W p l e (headSpec wsX9_turnWay ({ frames := 2, cells := 0, slots := 0, locals := 80 })).room s m ([.ref (a 34)]).toArray below meth c H locs 0 0 (MQ below (QE (S := SU) D (wX cI cS a na nc N L u0) (wX cI cS a na nc N L) s.heap.size (fun _ => True)) ([.ref (a 34)]).toArray s 0 0 (va_A (wX cI cS a na nc N L u0) s.heap.size)) (F0 m 2 ls []) := by
    intro n2
    induction n2 with
    | zero =>
      intro y2_l1 u H locs ls g2_l1 hP hD hS hl hm2
      exact absurd rfl (me_z g2_l1 hm2)
    | succ n2 ih2 =>
      intro y2_l1 u H locs ls g2_l1 hP hD hS hl hm2
      refine lv_iload_n hx hb dX9_turnWay_2 rfl (lv_at hl 1 rfl) ?_
      refine lv_iconst (v := 1) hx hb dX9_turnWay_3 (by decide) ?_
      refine wk_iadd (e1 := 1) (f := 13) hx hb dX9_turnWay_4 g2_l1 (by decide : Rg 1 1 (1 : Int32)) (by decide) (fun r42877 hr42877 er42877 qr42877 => ?_)
      refine lv_aload_n hx hb dX9_turnWay_5 rfl (lv_at hl 0 rfl) ?_
      refine va_get (D := D) (ci := 9) (v := .int (u 34 5)) (C := RX9) (T := TX9) (N := 6) hx hb hts hin9 hown hK hP 34 rfl rfl 5 (by decide) (hts (.fieldLink RX9 68 "MissedPoints$Told" "rowLength" "I") (by decide +kernel)) (fun _ h9 => h9) rfl dX9_turnWay_6 ?_
      refine wk_any (fun r42878 => ?_)
      refine lv_icmp_ge (tgt := 68) hx hb dX9_turnWay_9 (by decide) (fun c42879 => ?_) (fun c42879 => ?_)
      · have g42880 : Rg (-2147483648) 13 r42878 := rg_lel (rg_any r42878) hr42877 c42879 (by decide)
        subst hAe
        exact W.vret hx hb hr (fun t ht hW => ⟨⟨u, rfl, trivial, by rw [ht]; exact hP, hD⟩, hS.F ht⟩) hS.2.2 dX9_turnWay_68
      · have g42881 : Rg 2 2147483647 r42878 := rg_ltr hr42877 (rg_any r42878) (rg_nle c42879) (by decide)
        refine lv_iload_n hx hb dX9_turnWay_12 rfl (lv_at hl 1 rfl) ?_
        refine lv_iconst (v := 1) hx hb dX9_turnWay_13 (by decide) ?_
        refine wk_iadd (e1 := 1) (f := 13) hx hb dX9_turnWay_14 g2_l1 (by decide : Rg 1 1 (1 : Int32)) (by decide) (fun r42882 hr42882 er42882 qr42882 => ?_)
        refine lv_bipush (v := 12) hx hb dX9_turnWay_15 (by decide) ?_
        refine lv_icmp_ge (tgt := 68) hx hb dX9_turnWay_17 (by decide) (fun c42883 => ?_) (fun c42883 => ?_)
        · have g42884 : Rg 12 13 r42882 := rg_ler (by decide : Rg 12 12 (12 : Int32)) hr42882 c42883 (by decide)
          have g42885 : Rg 11 12 y2_l1 := wk_sha (k := 1) g42884 g2_l1 er42882 (by decide)
          subst hAe
          exact W.vret hx hb hr (fun t ht hW => ⟨⟨u, rfl, trivial, by rw [ht]; exact hP, hD⟩, hS.F ht⟩) hS.2.2 dX9_turnWay_68
        · have g42886 : Rg 1 11 r42882 := rg_ltl hr42882 (by decide : Rg 12 12 (12 : Int32)) (rg_nle c42883) (by decide)
          have g42887 : Rg 0 10 y2_l1 := wk_sha (k := 1) g42886 g2_l1 er42882 (by decide)
          refine lv_aload_n hx hb dX9_turnWay_20 rfl (lv_at hl 0 rfl) ?_
          refine va_get (D := D) (ci := 9) (v := .ref (a 36)) (C := RX9) (T := TX9) (N := 6) hx hb hts hin9 hown hK hP 34 rfl rfl 3 (by decide) (hts (.fieldLink RX9 15 "MissedPoints$Told" "row" "[I") (by decide +kernel)) (fun _ h9 => h9) rfl dX9_turnWay_21 ?_
          refine lv_iload_n hx hb dX9_turnWay_24 rfl (lv_at hl 1 rfl) ?_
          refine wk_aldA hx hb hK hP 36 0 rfl rfl (rg_in g42887 (by decide) (by decide)) dX9_turnWay_25 (fun r42888 => ?_)
          refine lv_istore_n (lv' := [(2, .int r42888), (0, .ref (a 34)), (1, .int y2_l1)]) hx hb dX9_turnWay_26 rfl hl (by decide) rfl (fun ls hl => ?_)
          refine lv_aload_n hx hb dX9_turnWay_27 rfl (lv_at hl 1 rfl) ?_
          refine va_get (D := D) (ci := 9) (v := .ref (a 36)) (C := RX9) (T := TX9) (N := 6) hx hb hts hin9 hown hK hP 34 rfl rfl 3 (by decide) (hts (.fieldLink RX9 15 "MissedPoints$Told" "row" "[I") (by decide +kernel)) (fun _ h9 => h9) rfl dX9_turnWay_28 ?_
          refine lv_iload_n hx hb dX9_turnWay_31 rfl (lv_at hl 2 rfl) ?_
          refine lv_iconst (v := 1) hx hb dX9_turnWay_32 (by decide) ?_
          refine wk_iadd (e1 := 1) (f := 11) hx hb dX9_turnWay_33 g42887 (by decide : Rg 1 1 (1 : Int32)) (by decide) (fun r42889 hr42889 er42889 qr42889 => ?_)
          refine wk_aldA hx hb hK hP 36 0 rfl rfl (rg_in hr42889 (by decide) (by decide)) dX9_turnWay_34 (fun r42890 => ?_)
          refine lv_istore_n (lv' := [(3, .int r42890), (2, .int r42888), (0, .ref (a 34)), (1, .int y2_l1)]) hx hb dX9_turnWay_35 rfl hl (by decide) rfl (fun ls hl => ?_)
          refine lv_aload_n hx hb dX9_turnWay_36 rfl (lv_at hl 2 rfl) ?_
          refine va_get (D := D) (ci := 9) (v := .ref (a 1)) (C := RX9) (T := TX9) (N := 6) hx hb hts hin9 hown hK hP 34 rfl rfl 0 (by decide) (hts (.fieldLink RX9 21 "MissedPoints$Told" "net" "LMissedPoints$Net;") (by decide +kernel)) (fun _ h9 => h9) rfl dX9_turnWay_37 ?_
          refine lv_iload_n hx hb dX9_turnWay_40 rfl (lv_at hl 1 rfl) ?_
          refine lv_iload_n hx hb dX9_turnWay_41 rfl (lv_at hl 0 rfl) ?_
          refine wk_sv 1 (As := [.int r42888, .int r42890]) (rest := []) ⟨hx, hb, hml, hown, hts⟩ (k_X2_areTwo l D cI cS a na nc N L u hL hN r42888 r42890) hKK hP (ci := 2) rfl rfl (cwV 2 hts gX9_turnWay_X2_areTwo rfl rfl rfl (by decide +kernel) ⟨Nat.le_of_ble_eq_true rfl, Nat.le_of_ble_eq_true rfl⟩) rfl hl.1 rfl (Nat.le_of_ble_eq_true rfl) dX9_turnWay_42 ⟨Nat.le_of_ble_eq_true rfl, Nat.le_of_ble_eq_true rfl⟩ (fun r42891 hr42891 => ?_)
          refine lv_if_eq (tgt := 62) hx hb dX9_turnWay_45 (by decide) (fun c42892 => ?_) (fun c42892 => ?_)
          · have g42893 : Rg 0 0 r42891 := wk_eql hr42891.1 (by decide : Rg 0 0 (0 : Int32)) c42892 (by decide)
            refine wk_iinc (lv' := fun r => [(1, .int r), (3, .int r42890), (2, .int r42888), (0, .ref (a 34))]) (e1 := 2) (f := 12) hx hb dX9_turnWay_62 hl (k := 3) rfl (by decide) g42887 (by decide) (fun _ => rfl) (fun r42894 ls hr42894 er42894 hl => ?_)
            refine lv_goto (tgt := 2) hx hb dX9_turnWay_65 (by decide) ?_
            exact ih2 r42894 u _ _ ls (show Rg 0 12 r42894 from rg_w hr42894 (by decide) (by decide)) hP hD hS (lv_sub (l' := [(0, .ref (a 34)), (1, .int r42894)]) hl [3, 0] rfl) (me_up hm2 er42894 (by decide))
          · have g42895 : Rg 0 11 r42888 := (hr42891.2 c42892).1
            have g42896 : Rg 0 11 r42890 := (hr42891.2 c42892).2
            have g42897 : Rg 1 1 r42891 := rg_ne_lo (k := 0) hr42891.1 (by decide) c42892 (by decide)
            refine lv_aload_n hx hb dX9_turnWay_48 rfl (lv_at hl 2 rfl) ?_
            refine va_get (D := D) (ci := 9) (v := .ref (a 35)) (C := RX9) (T := TX9) (N := 6) hx hb hts hin9 hown hK hP 34 rfl rfl 2 (by decide) (hts (.fieldLink RX9 9 "MissedPoints$Told" "mates" "[I") (by decide +kernel)) (fun _ h9 => h9) rfl dX9_turnWay_49 ?_
            refine lv_iload_n hx hb dX9_turnWay_52 rfl (lv_at hl 1 rfl) ?_
            refine lv_iload_n hx hb dX9_turnWay_53 rfl (lv_at hl 0 rfl) ?_
            refine ks_ast hx hb hK hP hD hS rfl (k := 35) rfl sx_35 (rg_in g42895 (by decide) (by decide)) dX9_turnWay_54 (fun u H locs hP hD hS => ?_)
            refine lv_aload_n hx hb dX9_turnWay_55 rfl (lv_at hl 2 rfl) ?_
            refine va_get (D := D) (ci := 9) (v := .ref (a 35)) (C := RX9) (T := TX9) (N := 6) hx hb hts hin9 hown hK hP 34 rfl rfl 2 (by decide) (hts (.fieldLink RX9 9 "MissedPoints$Told" "mates" "[I") (by decide +kernel)) (fun _ h9 => h9) rfl dX9_turnWay_56 ?_
            refine lv_iload_n hx hb dX9_turnWay_59 rfl (lv_at hl 0 rfl) ?_
            refine lv_iload_n hx hb dX9_turnWay_60 rfl (lv_at hl 1 rfl) ?_
            refine ks_ast hx hb hK hP hD hS rfl (k := 35) rfl sx_35 (rg_in g42896 (by decide) (by decide)) dX9_turnWay_61 (fun u H locs hP hD hS => ?_)
            refine wk_iinc (lv' := fun r => [(1, .int r), (3, .int r42890), (2, .int r42888), (0, .ref (a 34))]) (e1 := 2) (f := 12) hx hb dX9_turnWay_62 hl (k := 3) rfl (by decide) g42887 (by decide) (fun _ => rfl) (fun r42898 ls hr42898 er42898 hl => ?_)
            refine lv_goto (tgt := 2) hx hb dX9_turnWay_65 (by decide) ?_
            exact ih2 r42898 u _ _ ls (show Rg 0 12 r42898 from rg_w hr42898 (by decide) (by decide)) hP hD hS (lv_sub (l' := [(0, .ref (a 34)), (1, .int r42898)]) hl [3, 0] rfl) (me_up hm2 er42898 (by decide))
  refine lv_iconst (v := 0) hx hb dX9_turnWay_0 (by decide) ?_
  refine lv_istore_n (lv' := [(1, .int 0), (0, .ref (a 34))]) hx hb dX9_turnWay_1 rfl hl (by decide) rfl (fun ls hl => ?_)
  exact lp2 13 (0 : Int32) u _ _ ls (by decide : Rg 0 12 (0 : Int32)) hP hD hS (lv_sub (l' := [(0, .ref (a 34)), (1, .int 0)]) hl [1, 0] rfl) (me_i (by decide : Rg 0 12 (0 : Int32)) (by decide))
theorem dX9_bitOf_0 : decode cX9_bitOf 0 = .ok (.iload_n 0, 1) := by decide +kernel
theorem dX9_bitOf_1 : decode cX9_bitOf 1 = .ok (.ifCond .ge 7, 3) := by decide +kernel
theorem dX9_bitOf_10 : decode cX9_bitOf 10 = .ok (.ishl, 1) := by decide +kernel
theorem dX9_bitOf_11 : decode cX9_bitOf 11 = .ok (.ireturn, 1) := by decide +kernel
theorem dX9_bitOf_4 : decode cX9_bitOf 4 = .ok (.iconst 0, 1) := by decide +kernel
theorem dX9_bitOf_5 : decode cX9_bitOf 5 = .ok (.goto 6, 3) := by decide +kernel
theorem dX9_bitOf_8 : decode cX9_bitOf 8 = .ok (.iconst 1, 1) := by decide +kernel
theorem dX9_bitOf_9 : decode cX9_bitOf 9 = .ok (.iload_n 0, 1) := by decide +kernel
set_option maxHeartbeats 4000000 in
set_option maxRecDepth 100000 in
theorem k_X9_bitOf (l : Launch) (D : va_G) (cI cS : ClassId) (x0 : Int32) : Met l yX9_bitOf wsX9_bitOf ({ frames := 0, cells := 0, slots := 0, locals := 0 }) (PS D cI cS [] [.int x0]) (vp_Si (fun r => Rg (-2147483648) 2147483647 r ∧ True)) 0 0 (fun _ => False) := by
  refine Met.ofW (cc := cX9_bitOf) (maxL := 1) (ret := (some .int)) (by decide) rfl ?_
  intro p e s m args below meth c s₁ B hml hv
  obtain ⟨rfl, hP, hKK⟩ := hv
  have hx := B.exec
  have hb := B.bytes
  have hr := B.returns
  have hts := atoms_spec (ws := wsX9_bitOf) B.pre
  have hown : s.vm.findClass RX9 = some m.cls := findClass_of_methodNamed B.named
  have hlocks := B.notSynchronized
  have hK := hKK.1
  have hl := lv_entry ([.int x0]) (n := 1) (Nat.le_of_ble_eq_true rfl)
  rw [lg_entry_eq]
  generalize (lg_sl ([.int x0]) ++ List.replicate (1 - (lg_sl ([.int x0])).length) Slot.unset).toArray = ls at hl ⊢
  have hl : lv_has ls 1 [(0, .int x0)] := hl
  refine lv_iload_n hx hb dX9_bitOf_0 rfl (lv_at hl 0 rfl) ?_
  refine lv_if_ge (tgt := 8) hx hb dX9_bitOf_1 (by decide) (fun c42903 => ?_) (fun c42903 => ?_)
  · have g42904 : Rg 0 2147483647 x0 := rg_ler (by decide : Rg 0 0 (0 : Int32)) (rg_any x0) c42903 (by decide)
    refine lv_iconst (v := 1) hx hb dX9_bitOf_8 (by decide) ?_
    refine lv_iload_n hx hb dX9_bitOf_9 rfl (lv_at hl 0 rfl) ?_
    refine lv_ishl hx hb dX9_bitOf_10 ?_
    refine wk_topP (P := fun r => r = (1 : Int32) <<< (x0 &&& 31)) rfl (fun r42905 qr42905 => ?_)
    exact W.iret (v := r42905) hx hb hr (fun t ht hW => ⟨_, rfl, ⟨(rg_any r42905), trivial⟩, ht⟩) (fun q hq => absurd hq List.not_mem_nil) dX9_bitOf_11
  · have g42906 : Rg (-2147483648) (-1) x0 := rg_ltl (rg_any x0) (by decide : Rg 0 0 (0 : Int32)) (rg_nle c42903) (by decide)
    refine lv_iconst (v := 0) hx hb dX9_bitOf_4 (by decide) ?_
    refine lv_goto (tgt := 11) hx hb dX9_bitOf_5 (by decide) ?_
    exact W.iret (v := 0) hx hb hr (fun t ht hW => ⟨_, rfl, ⟨(by decide : Rg (-2147483648) 2147483647 (0 : Int32)), trivial⟩, ht⟩) (fun q hq => absurd hq List.not_mem_nil) dX9_bitOf_11
set_option maxRecDepth 20000 in
theorem ggX9_unlikeLines_J6_bitCount_0f7a4 : GoodIn wsX9_unlikeLines wsJ6_bitCount_0f7a4 := goodIn_r _ [6, 7, 8, 9] (by decide +kernel) (by decide +kernel)
set_option maxRecDepth 20000 in
theorem gX9_unlikeLines_J6_bitCount_0f7a4 : GoodIn wsX9_unlikeLines (va_wsS RX9 63 yJ6_bitCount_0f7a4 wsJ6_bitCount_0f7a4) := goodIn_app (goodIn_of _ (by decide +kernel)) ggX9_unlikeLines_J6_bitCount_0f7a4
theorem dX9_unlikeLines_0 : decode cX9_unlikeLines 0 = .ok (.iconst 0, 1) := by decide +kernel
theorem dX9_unlikeLines_1 : decode cX9_unlikeLines 1 = .ok (.istore_n 2, 1) := by decide +kernel
theorem dX9_unlikeLines_12 : decode cX9_unlikeLines 12 = .ok (.if_icmp .ge 29, 3) := by decide +kernel
theorem dX9_unlikeLines_15 : decode cX9_unlikeLines 15 = .ok (.iload_n 1, 1) := by decide +kernel
theorem dX9_unlikeLines_16 : decode cX9_unlikeLines 16 = .ok (.iload_n 3, 1) := by decide +kernel
theorem dX9_unlikeLines_17 : decode cX9_unlikeLines 17 = .ok (.ishr, 1) := by decide +kernel
theorem dX9_unlikeLines_18 : decode cX9_unlikeLines 18 = .ok (.iconst 1, 1) := by decide +kernel
theorem dX9_unlikeLines_19 : decode cX9_unlikeLines 19 = .ok (.iand, 1) := by decide +kernel
theorem dX9_unlikeLines_2 : decode cX9_unlikeLines 2 = .ok (.iconst 0, 1) := by decide +kernel
theorem dX9_unlikeLines_20 : decode cX9_unlikeLines 20 = .ok (.ifCond .eq 15, 3) := by decide +kernel
theorem dX9_unlikeLines_23 : decode cX9_unlikeLines 23 = .ok (.iload_n 2, 1) := by decide +kernel
theorem dX9_unlikeLines_24 : decode cX9_unlikeLines 24 = .ok (.aload_n 0, 1) := by decide +kernel
theorem dX9_unlikeLines_25 : decode cX9_unlikeLines 25 = .ok (.getfield 18, 3) := by decide +kernel
theorem dX9_unlikeLines_28 : decode cX9_unlikeLines 28 = .ok (.iload_n 3, 1) := by decide +kernel
theorem dX9_unlikeLines_29 : decode cX9_unlikeLines 29 = .ok (.iaload, 1) := by decide +kernel
theorem dX9_unlikeLines_3 : decode cX9_unlikeLines 3 = .ok (.istore_n 3, 1) := by decide +kernel
theorem dX9_unlikeLines_30 : decode cX9_unlikeLines 30 = .ok (.invokestatic 63, 3) := by decide +kernel
theorem dX9_unlikeLines_33 : decode cX9_unlikeLines 33 = .ok (.iadd, 1) := by decide +kernel
theorem dX9_unlikeLines_34 : decode cX9_unlikeLines 34 = .ok (.istore_n 2, 1) := by decide +kernel
theorem dX9_unlikeLines_35 : decode cX9_unlikeLines 35 = .ok (.iinc 3 1, 3) := by decide +kernel
theorem dX9_unlikeLines_38 : decode cX9_unlikeLines 38 = .ok (.goto (-34), 3) := by decide +kernel
theorem dX9_unlikeLines_4 : decode cX9_unlikeLines 4 = .ok (.iload_n 3, 1) := by decide +kernel
theorem dX9_unlikeLines_41 : decode cX9_unlikeLines 41 = .ok (.iload_n 2, 1) := by decide +kernel
theorem dX9_unlikeLines_42 : decode cX9_unlikeLines 42 = .ok (.iconst 2, 1) := by decide +kernel
theorem dX9_unlikeLines_43 : decode cX9_unlikeLines 43 = .ok (.idiv, 1) := by decide +kernel
theorem dX9_unlikeLines_44 : decode cX9_unlikeLines 44 = .ok (.ireturn, 1) := by decide +kernel
theorem dX9_unlikeLines_5 : decode cX9_unlikeLines 5 = .ok (.aload_n 0, 1) := by decide +kernel
theorem dX9_unlikeLines_6 : decode cX9_unlikeLines 6 = .ok (.getfield 21, 3) := by decide +kernel
theorem dX9_unlikeLines_9 : decode cX9_unlikeLines 9 = .ok (.getfield 41, 3) := by decide +kernel
set_option maxHeartbeats 4000000 in
set_option maxRecDepth 100000 in
theorem k_X9_unlikeLines (l : Launch) (D : va_G) (cI cS : ClassId) (a : Nat → Nat) (na nc N : Nat) (L u : SU) (hL : TyX L) (hN : N = 0 ∨ N = 24576) (x0 : Int32) : Met l yX9_unlikeLines wsX9_unlikeLines ({ frames := 1, cells := 0, slots := 0, locals := 40 }) (PS D cI cS (wX cI cS a na nc N L u) [.ref (a 34), .int x0]) (vp_Si (fun r => Rg (-2147483648) 2147483647 r ∧ True)) 0 0 (fun _ => False) := by
  refine Met.ofW (cc := cX9_unlikeLines) (maxL := 4) (ret := (some .int)) (by decide) rfl ?_
  intro p e s m args below meth c s₁ B hml hv
  obtain ⟨rfl, hP, hKK⟩ := hv
  have hx := B.exec
  have hb := B.bytes
  have hr := B.returns
  have hts := atoms_spec (ws := wsX9_unlikeLines) B.pre
  have hown : s.vm.findClass RX9 = some m.cls := findClass_of_methodNamed B.named
  have hlocks := B.notSynchronized
  have hK := hKK.1
  have hin2 : ∀ w ∈ wsX20, w ∈ wsX9_unlikeLines := by decide +kernel
  have hin9 : ∀ w ∈ wsX90, w ∈ wsX9_unlikeLines := by decide +kernel
  have hl := lv_entry ([.ref (a 34), .int x0]) (n := 4) (Nat.le_of_ble_eq_true rfl)
  rw [lg_entry_eq]
  generalize (lg_sl ([.ref (a 34), .int x0]) ++ List.replicate (4 - (lg_sl ([.ref (a 34), .int x0])).length) Slot.unset).toArray = ls at hl ⊢
  have hl : lv_has ls 4 [(0, .ref (a 34)), (1, .int x0)] := hl
  have lp4 : ∀ (n4 : Nat) (y4_l2 : Int32) (y4_l3 : Int32) (ls : Array Slot), Rg 0 12 y4_l3 → lv_has ls 4 [(0, .ref (a 34)), (1, .int x0), (2, .int y4_l2), (3, .int y4_l3)] → 12 - y4_l3.toInt < (n4 : Int) → W p l e (headSpec wsX9_unlikeLines ({ frames := 1, cells := 0, slots := 0, locals := 40 })).room s m ([.ref (a 34), .int x0]).toArray below meth c s.heap [] 0 0 (MQ below (vp_Si (fun r => Rg (-2147483648) 2147483647 r ∧ True)) ([.ref (a 34), .int x0]).toArray s 0 0 (fun _ => False)) (F0 m 4 ls []) := by
    intro n4
    induction n4 with
    | zero =>
      intro y4_l2 y4_l3 ls g4_l3 hl hm4
      exact absurd rfl (me_z g4_l3 hm4)
    | succ n4 ih4 =>
      intro y4_l2 y4_l3 ls g4_l3 hl hm4
      refine lv_iload_n hx hb dX9_unlikeLines_4 rfl (lv_at hl 3 rfl) ?_
      refine lv_aload_n hx hb dX9_unlikeLines_5 rfl (lv_at hl 0 rfl) ?_
      refine va_get (D := D) (ci := 9) (v := .ref (a 1)) (C := RX9) (T := TX9) (N := 6) hx hb hts hin9 hown hK hP 34 rfl rfl 0 (by decide) (hts (.fieldLink RX9 21 "MissedPoints$Told" "net" "LMissedPoints$Net;") (by decide +kernel)) (fun _ h9 => h9) rfl dX9_unlikeLines_6 ?_
      refine va_getN (D := D) (ci := 2) (v := .int (L 1 1)) (C := RX2) (T := TX2) (N := 3) hx hb hts hin2 hown hK hP 1 rfl rfl 1 (by decide) (va_Nw.use rfl hKK.2.2.2.2.2.2.2.2.2.2.2.2.2.2.2.2.1) (fun _ h9 => h9) rfl dX9_unlikeLines_9 ?_
      refine lv_icmp_ge (tgt := 41) hx hb dX9_unlikeLines_12 (by decide) (fun c43028 => ?_) (fun c43028 => ?_)
      · refine lv_iload_n hx hb dX9_unlikeLines_41 rfl (lv_at hl 2 rfl) ?_
        refine lv_iconst (v := 2) hx hb dX9_unlikeLines_42 (by decide) ?_
        refine lv_idiv hx hb dX9_unlikeLines_43 (by decide) ?_
        refine wk_any (fun r43029 => ?_)
        exact W.iret (v := r43029) hx hb hr (fun t ht hW => ⟨_, rfl, ⟨(rg_any r43029), trivial⟩, ht⟩) (fun q hq => absurd hq List.not_mem_nil) dX9_unlikeLines_44
      · have g43030 : Rg 1 12 (L 1 1) := rg_ltr g4_l3 hL.1 (rg_nle c43028) (by decide)
        have g43031 : Rg 0 11 y4_l3 := rg_ltl g4_l3 hL.1 (rg_nle c43028) (by decide)
        refine lv_iload_n hx hb dX9_unlikeLines_15 rfl (lv_at hl 1 rfl) ?_
        refine lv_iload_n hx hb dX9_unlikeLines_16 rfl (lv_at hl 3 rfl) ?_
        refine lv_ishr hx hb dX9_unlikeLines_17 ?_
        refine wk_topP (P := fun r => r = x0 >>> (y4_l3 &&& 31)) rfl (fun r43032 qr43032 => ?_)
        refine lv_iconst (v := 1) hx hb dX9_unlikeLines_18 (by decide) ?_
        refine wk_iandr hx hb dX9_unlikeLines_19 (by decide : Rg 1 1 (1 : Int32)) (by decide) (fun r43033 hr43033 qr43033 => ?_)
        refine lv_if_eq (tgt := 35) hx hb dX9_unlikeLines_20 (by decide) (fun c43034 => ?_) (fun c43034 => ?_)
        · have g43035 : Rg 0 0 r43033 := wk_eql hr43033 (by decide : Rg 0 0 (0 : Int32)) c43034 (by decide)
          refine wk_iinc (lv' := fun r => [(3, .int r), (0, .ref (a 34)), (1, .int x0), (2, .int y4_l2)]) (e1 := 1) (f := 12) hx hb dX9_unlikeLines_35 hl (k := 3) rfl (by decide) g43031 (by decide) (fun _ => rfl) (fun r43036 ls hr43036 er43036 hl => ?_)
          refine lv_goto (tgt := 4) hx hb dX9_unlikeLines_38 (by decide) ?_
          exact ih4 y4_l2 r43036 ls (show Rg 0 12 r43036 from rg_w hr43036 (by decide) (by decide)) (lv_sub (l' := [(0, .ref (a 34)), (1, .int x0), (2, .int y4_l2), (3, .int r43036)]) hl [1, 2, 3, 0] rfl) (me_up hm4 er43036 (by decide))
        · have g43037 : Rg 1 1 r43033 := rg_ne_lo (k := 0) hr43033 (by decide) c43034 (by decide)
          refine lv_iload_n hx hb dX9_unlikeLines_23 rfl (lv_at hl 2 rfl) ?_
          refine lv_aload_n hx hb dX9_unlikeLines_24 rfl (lv_at hl 0 rfl) ?_
          refine va_get (D := D) (ci := 9) (v := .ref (a 37)) (C := RX9) (T := TX9) (N := 6) hx hb hts hin9 hown hK hP 34 rfl rfl 4 (by decide) (hts (.fieldLink RX9 18 "MissedPoints$Told" "unlike" "[I") (by decide +kernel)) (fun _ h9 => h9) rfl dX9_unlikeLines_25 ?_
          refine lv_iload_n hx hb dX9_unlikeLines_28 rfl (lv_at hl 3 rfl) ?_
          refine wk_aldA hx hb hK hP 37 0 rfl rfl (rg_in g43031 (by decide) (by decide)) dX9_unlikeLines_29 (fun r43038 => ?_)
          refine lz_ss (As := [.int r43038]) (rest := [.int y4_l2]) ⟨hx, hb, hml, hown, hts⟩ (k_J6_bitCount_0f7a4 l D cI cS r43038) hKK (hP.sub (ws' := []) [] rfl) (va_cwS 1 hts gX9_unlikeLines_J6_bitCount_0f7a4 rfl rfl rfl (by decide +kernel) ⟨Nat.le_of_ble_eq_true rfl, Nat.le_of_ble_eq_true rfl⟩) rfl hl.1 rfl (Nat.le_of_ble_eq_true rfl) dX9_unlikeLines_30 ⟨Nat.le_of_ble_eq_true rfl, Nat.le_of_ble_eq_true rfl⟩ (fun r43039 hr43039 => ?_)
          refine lv_iadd hx hb dX9_unlikeLines_33 ?_
          refine wk_topP (P := fun r => r = y4_l2 + r43039) rfl (fun r43040 qr43040 => ?_)
          refine lv_istore_n (lv' := [(2, .int r43040), (0, .ref (a 34)), (1, .int x0), (3, .int y4_l3)]) hx hb dX9_unlikeLines_34 rfl hl (by decide) rfl (fun ls hl => ?_)
          refine wk_iinc (lv' := fun r => [(3, .int r), (2, .int r43040), (0, .ref (a 34)), (1, .int x0)]) (e1 := 1) (f := 12) hx hb dX9_unlikeLines_35 hl (k := 3) rfl (by decide) g43031 (by decide) (fun _ => rfl) (fun r43041 ls hr43041 er43041 hl => ?_)
          refine lv_goto (tgt := 4) hx hb dX9_unlikeLines_38 (by decide) ?_
          exact ih4 r43040 r43041 ls (show Rg 0 12 r43041 from rg_w hr43041 (by decide) (by decide)) (lv_sub (l' := [(0, .ref (a 34)), (1, .int x0), (2, .int r43040), (3, .int r43041)]) hl [2, 3, 1, 0] rfl) (me_up hm4 er43041 (by decide))
  refine lv_iconst (v := 0) hx hb dX9_unlikeLines_0 (by decide) ?_
  refine lv_istore_n (lv' := [(2, .int 0), (0, .ref (a 34)), (1, .int x0)]) hx hb dX9_unlikeLines_1 rfl hl (by decide) rfl (fun ls hl => ?_)
  refine lv_iconst (v := 0) hx hb dX9_unlikeLines_2 (by decide) ?_
  refine lv_istore_n (lv' := [(3, .int 0), (2, .int 0), (0, .ref (a 34)), (1, .int x0)]) hx hb dX9_unlikeLines_3 rfl hl (by decide) rfl (fun ls hl => ?_)
  exact lp4 13 (0 : Int32) (0 : Int32) ls (by decide : Rg 0 12 (0 : Int32)) (lv_sub (l' := [(0, .ref (a 34)), (1, .int x0), (2, .int 0), (3, .int 0)]) hl [2, 3, 1, 0] rfl) (me_i (by decide : Rg 0 12 (0 : Int32)) (by decide))
set_option maxRecDepth 20000 in
theorem ggX9_layUnlike_X9_bitOf : GoodIn wsX9_layUnlike wsX9_bitOf := goodIn_r _ [7] (by decide +kernel) (by decide +kernel)
set_option maxRecDepth 20000 in
theorem gX9_layUnlike_X9_bitOf : GoodIn wsX9_layUnlike (va_wsS RX9 111 yX9_bitOf wsX9_bitOf) := goodIn_app (goodIn_of _ (by decide +kernel)) ggX9_layUnlike_X9_bitOf
theorem dX9_layUnlike_0 : decode cX9_layUnlike 0 = .ok (.iconst 0, 1) := by decide +kernel
theorem dX9_layUnlike_1 : decode cX9_layUnlike 1 = .ok (.istore_n 2, 1) := by decide +kernel
theorem dX9_layUnlike_12 : decode cX9_layUnlike 12 = .ok (.if_icmp .ge 62, 3) := by decide +kernel
theorem dX9_layUnlike_15 : decode cX9_layUnlike 15 = .ok (.aload_n 0, 1) := by decide +kernel
theorem dX9_layUnlike_16 : decode cX9_layUnlike 16 = .ok (.getfield 18, 3) := by decide +kernel
theorem dX9_layUnlike_19 : decode cX9_layUnlike 19 = .ok (.iload_n 3, 1) := by decide +kernel
theorem dX9_layUnlike_2 : decode cX9_layUnlike 2 = .ok (.iconst 0, 1) := by decide +kernel
theorem dX9_layUnlike_20 : decode cX9_layUnlike 20 = .ok (.iconst 0, 1) := by decide +kernel
theorem dX9_layUnlike_21 : decode cX9_layUnlike 21 = .ok (.iastore, 1) := by decide +kernel
theorem dX9_layUnlike_22 : decode cX9_layUnlike 22 = .ok (.aload_n 0, 1) := by decide +kernel
theorem dX9_layUnlike_23 : decode cX9_layUnlike 23 = .ok (.getfield 9, 3) := by decide +kernel
theorem dX9_layUnlike_26 : decode cX9_layUnlike 26 = .ok (.iload_n 3, 1) := by decide +kernel
theorem dX9_layUnlike_27 : decode cX9_layUnlike 27 = .ok (.iaload, 1) := by decide +kernel
theorem dX9_layUnlike_28 : decode cX9_layUnlike 28 = .ok (.aload_n 1, 1) := by decide +kernel
theorem dX9_layUnlike_29 : decode cX9_layUnlike 29 = .ok (.getfield 9, 3) := by decide +kernel
theorem dX9_layUnlike_3 : decode cX9_layUnlike 3 = .ok (.istore_n 3, 1) := by decide +kernel
theorem dX9_layUnlike_32 : decode cX9_layUnlike 32 = .ok (.iload_n 3, 1) := by decide +kernel
theorem dX9_layUnlike_33 : decode cX9_layUnlike 33 = .ok (.iaload, 1) := by decide +kernel
theorem dX9_layUnlike_34 : decode cX9_layUnlike 34 = .ok (.if_icmp .eq 34, 3) := by decide +kernel
theorem dX9_layUnlike_37 : decode cX9_layUnlike 37 = .ok (.aload_n 0, 1) := by decide +kernel
theorem dX9_layUnlike_38 : decode cX9_layUnlike 38 = .ok (.getfield 18, 3) := by decide +kernel
theorem dX9_layUnlike_4 : decode cX9_layUnlike 4 = .ok (.iload_n 3, 1) := by decide +kernel
theorem dX9_layUnlike_41 : decode cX9_layUnlike 41 = .ok (.iload_n 3, 1) := by decide +kernel
theorem dX9_layUnlike_42 : decode cX9_layUnlike 42 = .ok (.aload_n 0, 1) := by decide +kernel
theorem dX9_layUnlike_43 : decode cX9_layUnlike 43 = .ok (.getfield 9, 3) := by decide +kernel
theorem dX9_layUnlike_46 : decode cX9_layUnlike 46 = .ok (.iload_n 3, 1) := by decide +kernel
theorem dX9_layUnlike_47 : decode cX9_layUnlike 47 = .ok (.iaload, 1) := by decide +kernel
theorem dX9_layUnlike_48 : decode cX9_layUnlike 48 = .ok (.invokestatic 111, 3) := by decide +kernel
theorem dX9_layUnlike_5 : decode cX9_layUnlike 5 = .ok (.aload_n 0, 1) := by decide +kernel
theorem dX9_layUnlike_51 : decode cX9_layUnlike 51 = .ok (.aload_n 1, 1) := by decide +kernel
theorem dX9_layUnlike_52 : decode cX9_layUnlike 52 = .ok (.getfield 9, 3) := by decide +kernel
theorem dX9_layUnlike_55 : decode cX9_layUnlike 55 = .ok (.iload_n 3, 1) := by decide +kernel
theorem dX9_layUnlike_56 : decode cX9_layUnlike 56 = .ok (.iaload, 1) := by decide +kernel
theorem dX9_layUnlike_57 : decode cX9_layUnlike 57 = .ok (.invokestatic 111, 3) := by decide +kernel
theorem dX9_layUnlike_6 : decode cX9_layUnlike 6 = .ok (.getfield 21, 3) := by decide +kernel
theorem dX9_layUnlike_60 : decode cX9_layUnlike 60 = .ok (.ior, 1) := by decide +kernel
theorem dX9_layUnlike_61 : decode cX9_layUnlike 61 = .ok (.iastore, 1) := by decide +kernel
theorem dX9_layUnlike_62 : decode cX9_layUnlike 62 = .ok (.iload_n 2, 1) := by decide +kernel
theorem dX9_layUnlike_63 : decode cX9_layUnlike 63 = .ok (.iconst 1, 1) := by decide +kernel
theorem dX9_layUnlike_64 : decode cX9_layUnlike 64 = .ok (.iload_n 3, 1) := by decide +kernel
theorem dX9_layUnlike_65 : decode cX9_layUnlike 65 = .ok (.ishl, 1) := by decide +kernel
theorem dX9_layUnlike_66 : decode cX9_layUnlike 66 = .ok (.ior, 1) := by decide +kernel
theorem dX9_layUnlike_67 : decode cX9_layUnlike 67 = .ok (.istore_n 2, 1) := by decide +kernel
theorem dX9_layUnlike_68 : decode cX9_layUnlike 68 = .ok (.iinc 3 1, 3) := by decide +kernel
theorem dX9_layUnlike_71 : decode cX9_layUnlike 71 = .ok (.goto (-67), 3) := by decide +kernel
theorem dX9_layUnlike_74 : decode cX9_layUnlike 74 = .ok (.iload_n 2, 1) := by decide +kernel
theorem dX9_layUnlike_75 : decode cX9_layUnlike 75 = .ok (.ireturn, 1) := by decide +kernel
theorem dX9_layUnlike_9 : decode cX9_layUnlike 9 = .ok (.getfield 41, 3) := by decide +kernel
set_option maxHeartbeats 4000000 in
set_option maxRecDepth 100000 in
theorem k_X9_layUnlike (l : Launch) (D : va_G) (cI cS : ClassId) (sz : Nat) (a : Nat → Nat) (na nc N : Nat) (L u0 : SU) (hL : TyX L) (hN : N = 0 ∨ N = 24576) : Met l yX9_layUnlike wsX9_layUnlike ({ frames := 1, cells := 0, slots := 0, locals := 40 }) (PQ D cI cS (wX cI cS a na nc N L u0) sz [.ref (a 34), .ref (a 38)]) (QF (S := SU) D (wX cI cS a na nc N L u0) (wX cI cS a na nc N L) sz (fun r _ => Rg 0 4095 r ∧ True)) 0 0 (va_A (wX cI cS a na nc N L u0) sz) := by
  refine Met.ofW (cc := cX9_layUnlike) (maxL := 4) (ret := (some .int)) (by decide) rfl ?_
  intro p e s m args below meth c s₁ B hml hv
  obtain ⟨rfl, hsz, hP, hKK, hD0⟩ := hv
  have hx := B.exec
  have hb := B.bytes
  have hr := B.returns
  have hts := atoms_spec (ws := wsX9_layUnlike) B.pre
  have hown : s.vm.findClass RX9 = some m.cls := findClass_of_methodNamed B.named
  have hlocks := B.notSynchronized
  have hK := hKK.1
  have hin2 : ∀ w ∈ wsX20, w ∈ wsX9_layUnlike := by decide +kernel
  have hin9 : ∀ w ∈ wsX90, w ∈ wsX9_layUnlike := by decide +kernel
  subst hsz
  have hD := hD0.self (sz := s.heap.size)
  obtain ⟨A, hAe⟩ : ∃ A, A = va_A (wX cI cS a na nc N L u0) s.heap.size := ⟨_, rfl⟩
  rw [← hAe] at hD
  have hA : ∀ q : Nat, s.heap.size ≤ q → A q := fun q h => by rw [hAe]; exact Or.inr h
  have hS : va_S A s.heap s.heap [] := va_S.rf
  have hl := lv_entry ([.ref (a 34), .ref (a 38)]) (n := 4) (Nat.le_of_ble_eq_true rfl)
  rw [lg_entry_eq]
  generalize (lg_sl ([.ref (a 34), .ref (a 38)]) ++ List.replicate (4 - (lg_sl ([.ref (a 34), .ref (a 38)])).length) Slot.unset).toArray = ls at hl ⊢
  have hl : lv_has ls 4 [(0, .ref (a 34)), (1, .ref (a 38))] := hl
  obtain ⟨u, hu9⟩ : ∃ u : SU, u = u0 := ⟨_, rfl⟩
  rw [← hu9] at hP hD
  have lp4 : ∀ (n4 : Nat) (y4_l2 : Int32) (y4_l3 : Int32) (u : SU) (H : Heap) (locs : List Loc) (ls : Array Slot), Rg 0 4095 y4_l2 → Rg 0 12 y4_l3 → va_P D cls (wX cI cS a na nc N L u) H → va_D A (wX cI cS a na nc N L u) → va_S A s.heap H locs → lv_has ls 4 [(0, .ref (a 34)), (1, .ref (a 38)), (2, .int y4_l2), (3, .int y4_l3)] → 12 - y4_l3.toInt < (n4 : Int) → W p l e (headSpec wsX9_layUnlike ({ frames := 1, cells := 0, slots := 0, locals := 40 })).room s m ([.ref (a 34), .ref (a 38)]).toArray below meth c H locs 0 0 (MQ below (QF (S := SU) D (wX cI cS a na nc N L u0) (wX cI cS a na nc N L) s.heap.size (fun r _ => Rg 0 4095 r ∧ True)) ([.ref (a 34), .ref (a 38)]).toArray s 0 0 (va_A (wX cI cS a na nc N L u0) s.heap.size)) (F0 m 4 ls []) := by
    intro n4
    induction n4 with
    | zero =>
      intro y4_l2 y4_l3 u H locs ls g4_l2 g4_l3 hP hD hS hl hm4
      exact absurd rfl (me_z g4_l3 hm4)
    | succ n4 ih4 =>
      intro y4_l2 y4_l3 u H locs ls g4_l2 g4_l3 hP hD hS hl hm4
      refine lv_iload_n hx hb dX9_layUnlike_4 rfl (lv_at hl 3 rfl) ?_
      refine lv_aload_n hx hb dX9_layUnlike_5 rfl (lv_at hl 0 rfl) ?_
      refine va_get (D := D) (ci := 9) (v := .ref (a 1)) (C := RX9) (T := TX9) (N := 6) hx hb hts hin9 hown hK hP 34 rfl rfl 0 (by decide) (hts (.fieldLink RX9 21 "MissedPoints$Told" "net" "LMissedPoints$Net;") (by decide +kernel)) (fun _ h9 => h9) rfl dX9_layUnlike_6 ?_
      refine va_getN (D := D) (ci := 2) (v := .int (L 1 1)) (C := RX2) (T := TX2) (N := 3) hx hb hts hin2 hown hK hP 1 rfl rfl 1 (by decide) (va_Nw.use rfl hKK.2.2.2.2.2.2.2.2.2.2.2.2.2.2.2.2.1) (fun _ h9 => h9) rfl dX9_layUnlike_9 ?_
      refine lv_icmp_ge (tgt := 74) hx hb dX9_layUnlike_12 (by decide) (fun c43169 => ?_) (fun c43169 => ?_)
      · refine lv_iload_n hx hb dX9_layUnlike_74 rfl (lv_at hl 2 rfl) ?_
        subst hAe
        exact W.iret (v := y4_l2) hx hb hr (fun t ht hW => ⟨⟨_, u, rfl, ⟨g4_l2, trivial⟩, by rw [ht]; exact hP, hD⟩, hS.F ht⟩) hS.2.2 dX9_layUnlike_75
      · have g43170 : Rg 1 12 (L 1 1) := rg_ltr g4_l3 hL.1 (rg_nle c43169) (by decide)
        have g43171 : Rg 0 11 y4_l3 := rg_ltl g4_l3 hL.1 (rg_nle c43169) (by decide)
        refine lv_aload_n hx hb dX9_layUnlike_15 rfl (lv_at hl 0 rfl) ?_
        refine va_get (D := D) (ci := 9) (v := .ref (a 37)) (C := RX9) (T := TX9) (N := 6) hx hb hts hin9 hown hK hP 34 rfl rfl 4 (by decide) (hts (.fieldLink RX9 18 "MissedPoints$Told" "unlike" "[I") (by decide +kernel)) (fun _ h9 => h9) rfl dX9_layUnlike_16 ?_
        refine lv_iload_n hx hb dX9_layUnlike_19 rfl (lv_at hl 3 rfl) ?_
        refine lv_iconst (v := 0) hx hb dX9_layUnlike_20 (by decide) ?_
        refine ks_ast hx hb hK hP hD hS rfl (k := 37) rfl sx_37 (rg_in g43171 (by decide) (by decide)) dX9_layUnlike_21 (fun u H locs hP hD hS => ?_)
        refine lv_aload_n hx hb dX9_layUnlike_22 rfl (lv_at hl 0 rfl) ?_
        refine va_get (D := D) (ci := 9) (v := .ref (a 35)) (C := RX9) (T := TX9) (N := 6) hx hb hts hin9 hown hK hP 34 rfl rfl 2 (by decide) (hts (.fieldLink RX9 9 "MissedPoints$Told" "mates" "[I") (by decide +kernel)) (fun _ h9 => h9) rfl dX9_layUnlike_23 ?_
        refine lv_iload_n hx hb dX9_layUnlike_26 rfl (lv_at hl 3 rfl) ?_
        refine wk_aldA hx hb hK hP 35 0 rfl rfl (rg_in g43171 (by decide) (by decide)) dX9_layUnlike_27 (fun r43172 => ?_)
        refine lv_aload_n hx hb dX9_layUnlike_28 rfl (lv_at hl 1 rfl) ?_
        refine va_get (D := D) (ci := 9) (v := .ref (a 39)) (C := RX9) (T := TX9) (N := 6) hx hb hts hin9 hown hK hP 38 rfl rfl 2 (by decide) (hts (.fieldLink RX9 9 "MissedPoints$Told" "mates" "[I") (by decide +kernel)) (fun _ h9 => h9) rfl dX9_layUnlike_29 ?_
        refine lv_iload_n hx hb dX9_layUnlike_32 rfl (lv_at hl 3 rfl) ?_
        refine wk_aldA hx hb hK hP 39 0 rfl rfl (rg_in g43171 (by decide) (by decide)) dX9_layUnlike_33 (fun r43173 => ?_)
        refine lv_icmp_eq (tgt := 68) hx hb dX9_layUnlike_34 (by decide) (fun c43174 => ?_) (fun c43174 => ?_)
        · refine wk_iinc (lv' := fun r => [(3, .int r), (0, .ref (a 34)), (1, .ref (a 38)), (2, .int y4_l2)]) (e1 := 1) (f := 12) hx hb dX9_layUnlike_68 hl (k := 3) rfl (by decide) g43171 (by decide) (fun _ => rfl) (fun r43175 ls hr43175 er43175 hl => ?_)
          refine lv_goto (tgt := 4) hx hb dX9_layUnlike_71 (by decide) ?_
          exact ih4 y4_l2 r43175 u _ _ ls g4_l2 (show Rg 0 12 r43175 from rg_w hr43175 (by decide) (by decide)) hP hD hS (lv_sub (l' := [(0, .ref (a 34)), (1, .ref (a 38)), (2, .int y4_l2), (3, .int r43175)]) hl [1, 2, 3, 0] rfl) (me_up hm4 er43175 (by decide))
        · refine lv_aload_n hx hb dX9_layUnlike_37 rfl (lv_at hl 0 rfl) ?_
          refine va_get (D := D) (ci := 9) (v := .ref (a 37)) (C := RX9) (T := TX9) (N := 6) hx hb hts hin9 hown hK hP 34 rfl rfl 4 (by decide) (hts (.fieldLink RX9 18 "MissedPoints$Told" "unlike" "[I") (by decide +kernel)) (fun _ h9 => h9) rfl dX9_layUnlike_38 ?_
          refine lv_iload_n hx hb dX9_layUnlike_41 rfl (lv_at hl 3 rfl) ?_
          refine lv_aload_n hx hb dX9_layUnlike_42 rfl (lv_at hl 0 rfl) ?_
          refine va_get (D := D) (ci := 9) (v := .ref (a 35)) (C := RX9) (T := TX9) (N := 6) hx hb hts hin9 hown hK hP 34 rfl rfl 2 (by decide) (hts (.fieldLink RX9 9 "MissedPoints$Told" "mates" "[I") (by decide +kernel)) (fun _ h9 => h9) rfl dX9_layUnlike_43 ?_
          refine lv_iload_n hx hb dX9_layUnlike_46 rfl (lv_at hl 3 rfl) ?_
          refine wk_aldA hx hb hK hP 35 0 rfl rfl (rg_in g43171 (by decide) (by decide)) dX9_layUnlike_47 (fun r43176 => ?_)
          refine lz_ss (As := [.int r43176]) (rest := [.int y4_l3, .ref (a 37)]) ⟨hx, hb, hml, hown, hts⟩ (k_X9_bitOf l D cI cS r43176) hKK (hP.sub (ws' := []) [] rfl) (va_cwS 1 hts gX9_layUnlike_X9_bitOf rfl rfl rfl (by decide +kernel) ⟨Nat.le_of_ble_eq_true rfl, Nat.le_of_ble_eq_true rfl⟩) rfl hl.1 rfl (Nat.le_of_ble_eq_true rfl) dX9_layUnlike_48 ⟨Nat.le_of_ble_eq_true rfl, Nat.le_of_ble_eq_true rfl⟩ (fun r43177 hr43177 => ?_)
          refine lv_aload_n hx hb dX9_layUnlike_51 rfl (lv_at hl 1 rfl) ?_
          refine va_get (D := D) (ci := 9) (v := .ref (a 39)) (C := RX9) (T := TX9) (N := 6) hx hb hts hin9 hown hK hP 38 rfl rfl 2 (by decide) (hts (.fieldLink RX9 9 "MissedPoints$Told" "mates" "[I") (by decide +kernel)) (fun _ h9 => h9) rfl dX9_layUnlike_52 ?_
          refine lv_iload_n hx hb dX9_layUnlike_55 rfl (lv_at hl 3 rfl) ?_
          refine wk_aldA hx hb hK hP 39 0 rfl rfl (rg_in g43171 (by decide) (by decide)) dX9_layUnlike_56 (fun r43178 => ?_)
          refine lz_ss (As := [.int r43178]) (rest := [.int r43177, .int y4_l3, .ref (a 37)]) ⟨hx, hb, hml, hown, hts⟩ (k_X9_bitOf l D cI cS r43178) hKK (hP.sub (ws' := []) [] rfl) (va_cwS 1 hts gX9_layUnlike_X9_bitOf rfl rfl rfl (by decide +kernel) ⟨Nat.le_of_ble_eq_true rfl, Nat.le_of_ble_eq_true rfl⟩) rfl hl.1 rfl (Nat.le_of_ble_eq_true rfl) dX9_layUnlike_57 ⟨Nat.le_of_ble_eq_true rfl, Nat.le_of_ble_eq_true rfl⟩ (fun r43179 hr43179 => ?_)
          refine lv_ior hx hb dX9_layUnlike_60 ?_
          refine wk_topP (P := fun r => r = r43177 ||| r43179) rfl (fun r43180 qr43180 => ?_)
          refine ks_ast hx hb hK hP hD hS rfl (k := 37) rfl sx_37 (rg_in g43171 (by decide) (by decide)) dX9_layUnlike_61 (fun u H locs hP hD hS => ?_)
          refine lv_iload_n hx hb dX9_layUnlike_62 rfl (lv_at hl 2 rfl) ?_
          refine lv_iconst (v := 1) hx hb dX9_layUnlike_63 (by decide) ?_
          refine lv_iload_n hx hb dX9_layUnlike_64 rfl (lv_at hl 3 rfl) ?_
          refine wk_ishl1 (f := 2048) hx hb dX9_layUnlike_65 g43171 (by decide) (fun r43181 hr43181 qr43181 => ?_)
          refine wk_ior 12 (e1 := 1) (f := 4095) hx hb dX9_layUnlike_66 g4_l2 hr43181 (by decide) (fun r43182 hr43182 qr43182 => ?_)
          refine lv_istore_n (lv' := [(2, .int r43182), (0, .ref (a 34)), (1, .ref (a 38)), (3, .int y4_l3)]) hx hb dX9_layUnlike_67 rfl hl (by decide) rfl (fun ls hl => ?_)
          refine wk_iinc (lv' := fun r => [(3, .int r), (2, .int r43182), (0, .ref (a 34)), (1, .ref (a 38))]) (e1 := 1) (f := 12) hx hb dX9_layUnlike_68 hl (k := 3) rfl (by decide) g43171 (by decide) (fun _ => rfl) (fun r43183 ls hr43183 er43183 hl => ?_)
          refine lv_goto (tgt := 4) hx hb dX9_layUnlike_71 (by decide) ?_
          exact ih4 r43182 r43183 u _ _ ls (show Rg 0 4095 r43182 from rg_w hr43182 (by decide) (by decide)) (show Rg 0 12 r43183 from rg_w hr43183 (by decide) (by decide)) hP hD hS (lv_sub (l' := [(0, .ref (a 34)), (1, .ref (a 38)), (2, .int r43182), (3, .int r43183)]) hl [2, 3, 1, 0] rfl) (me_up hm4 er43183 (by decide))
  refine lv_iconst (v := 0) hx hb dX9_layUnlike_0 (by decide) ?_
  refine lv_istore_n (lv' := [(2, .int 0), (0, .ref (a 34)), (1, .ref (a 38))]) hx hb dX9_layUnlike_1 rfl hl (by decide) rfl (fun ls hl => ?_)
  refine lv_iconst (v := 0) hx hb dX9_layUnlike_2 (by decide) ?_
  refine lv_istore_n (lv' := [(3, .int 0), (2, .int 0), (0, .ref (a 34)), (1, .ref (a 38))]) hx hb dX9_layUnlike_3 rfl hl (by decide) rfl (fun ls hl => ?_)
  exact lp4 13 (0 : Int32) (0 : Int32) u _ _ ls (by decide : Rg 0 4095 (0 : Int32)) (by decide : Rg 0 12 (0 : Int32)) hP hD hS (lv_sub (l' := [(0, .ref (a 34)), (1, .ref (a 38)), (2, .int 0), (3, .int 0)]) hl [2, 3, 1, 0] rfl) (me_i (by decide : Rg 0 12 (0 : Int32)) (by decide))
set_option maxHeartbeats 4000000 in
set_option maxRecDepth 100000 in
theorem k_X2_firstPiece_37 (l : Launch) (D : va_G) (cI cS : ClassId) (a : Nat → Nat) (na nc N : Nat) (L u : SU) (hL : TyX L) (hN : N = 0 ∨ N = 24576) (x0 : Int32) : Met l yX2_firstPiece wsX2_firstPiece ({ frames := 1, cells := 0, slots := 0, locals := 40 }) (PS D cI cS (wX cI cS a na nc N L u) [.ref (a 37), .int x0]) (vp_Si (fun r => Rg (-2147483648) 2147483647 r ∧ True)) 0 0 (fun _ => False) := by
  refine Met.ofW (cc := cX2_firstPiece) (maxL := 7) (ret := (some .int)) (by decide) rfl ?_
  intro p e s m args below meth c s₁ B hml hv
  obtain ⟨rfl, hP, hKK⟩ := hv
  have hx := B.exec
  have hb := B.bytes
  have hr := B.returns
  have hts := atoms_spec (ws := wsX2_firstPiece) B.pre
  have hown : s.vm.findClass RX2 = some m.cls := findClass_of_methodNamed B.named
  have hlocks := B.notSynchronized
  have hK := hKK.1
  have hl := lv_entry ([.ref (a 37), .int x0]) (n := 7) (Nat.le_of_ble_eq_true rfl)
  rw [lg_entry_eq]
  generalize (lg_sl ([.ref (a 37), .int x0]) ++ List.replicate (7 - (lg_sl ([.ref (a 37), .int x0])).length) Slot.unset).toArray = ls at hl ⊢
  have hl : lv_has ls 7 [(0, .ref (a 37)), (1, .int x0)] := hl
  have lp10 : ∀ (n10 : Nat) (y10_l2 : Int32) (y10_l3 : Int32) (y10_l4 : Int32) (ls : Array Slot), Rg 0 12 y10_l4 → lv_has ls 7 [(0, .ref (a 37)), (1, .int x0), (2, .int y10_l2), (3, .int y10_l3), (4, .int y10_l4)] → 12 - y10_l4.toInt < (n10 : Int) → W p l e (headSpec wsX2_firstPiece ({ frames := 1, cells := 0, slots := 0, locals := 40 })).room s m ([.ref (a 37), .int x0]).toArray below meth c s.heap [] 0 0 (MQ below (vp_Si (fun r => Rg (-2147483648) 2147483647 r ∧ True)) ([.ref (a 37), .int x0]).toArray s 0 0 (fun _ => False)) (F0 m 10 ls []) := by
    intro n10
    induction n10 with
    | zero =>
      intro y10_l2 y10_l3 y10_l4 ls g10_l4 hl hm10
      exact absurd rfl (me_z g10_l4 hm10)
    | succ n10 ih10 =>
      intro y10_l2 y10_l3 y10_l4 ls g10_l4 hl hm10
      refine lv_iload hx hb dX2_firstPiece_10 (lv_at hl 4 rfl) ?_
      refine lv_bipush (v := 12) hx hb dX2_firstPiece_12 (by decide) ?_
      refine lv_icmp_ge (tgt := 70) hx hb dX2_firstPiece_14 (by decide) (fun c43338 => ?_) (fun c43338 => ?_)
      · have g43339 : Rg 12 12 y10_l4 := rg_ler (by decide : Rg 12 12 (12 : Int32)) g10_l4 c43338 (by decide)
        refine lv_iload_n hx hb dX2_firstPiece_70 rfl (lv_at hl 2 rfl) ?_
        exact W.iret (v := y10_l2) hx hb hr (fun t ht hW => ⟨_, rfl, ⟨(rg_any y10_l2), trivial⟩, ht⟩) (fun q hq => absurd hq List.not_mem_nil) dX2_firstPiece_71
      · have g43340 : Rg 0 11 y10_l4 := rg_ltl g10_l4 (by decide : Rg 12 12 (12 : Int32)) (rg_nle c43338) (by decide)
        refine lv_iload_n hx hb dX2_firstPiece_17 rfl (lv_at hl 3 rfl) ?_
        refine lv_if_eq (tgt := 70) hx hb dX2_firstPiece_18 (by decide) (fun c43341 => ?_) (fun c43341 => ?_)
        · have g43342 : Rg 0 0 y10_l3 := wk_eql (rg_any y10_l3) (by decide : Rg 0 0 (0 : Int32)) c43341 (by decide)
          refine lv_iload_n hx hb dX2_firstPiece_70 rfl (lv_at hl 2 rfl) ?_
          exact W.iret (v := y10_l2) hx hb hr (fun t ht hW => ⟨_, rfl, ⟨(rg_any y10_l2), trivial⟩, ht⟩) (fun q hq => absurd hq List.not_mem_nil) dX2_firstPiece_71
        · refine lv_iload_n hx hb dX2_firstPiece_21 rfl (lv_at hl 3 rfl) ?_
          refine lz_ss (As := [.int y10_l3]) (rest := []) ⟨hx, hb, hml, hown, hts⟩ (k_J6_numberOfTrailingZeros_0f7a4 l D cI cS y10_l3) hKK (hP.sub (ws' := []) [] rfl) (va_cwS 1 hts gX2_firstPiece_J6_numberOfTrailingZeros_0f7a4 rfl rfl rfl (by decide +kernel) ⟨Nat.le_of_ble_eq_true rfl, Nat.le_of_ble_eq_true rfl⟩) rfl hl.1 rfl (Nat.le_of_ble_eq_true rfl) dX2_firstPiece_22 ⟨Nat.le_of_ble_eq_true rfl, Nat.le_of_ble_eq_true rfl⟩ (fun r43343 hr43343 => ?_)
          refine lv_istore (lv' := [(5, .int r43343), (0, .ref (a 37)), (1, .int x0), (2, .int y10_l2), (3, .int y10_l3), (4, .int y10_l4)]) hx hb dX2_firstPiece_25 hl (by decide) rfl (fun ls hl => ?_)
          refine lv_iload hx hb dX2_firstPiece_27 (lv_at hl 0 rfl) ?_
          refine lv_aload_n hx hb dX2_firstPiece_29 rfl (lv_at hl 1 rfl) ?_
          refine va_alen hx hb hK hP 37 0 rfl rfl (v := 12) rfl dX2_firstPiece_30 ?_
          refine lv_icmp_lt (tgt := 36) hx hb dX2_firstPiece_31 (by decide) (fun c43344 => ?_) (fun c43344 => ?_)
          · have g43345 : Rg 0 11 r43343 := rg_ltl hr43343.1 (by decide : Rg 12 12 (12 : Int32)) c43344 (by decide)
            refine lv_iload_n hx hb dX2_firstPiece_36 rfl (lv_at hl 4 rfl) ?_
            refine lv_iload_n hx hb dX2_firstPiece_37 rfl (lv_at hl 4 rfl) ?_
            refine lv_iconst (v := 1) hx hb dX2_firstPiece_38 (by decide) ?_
            refine lv_isub hx hb dX2_firstPiece_39 ?_
            refine wk_topP (P := fun r => r = y10_l3 - (1 : Int32)) rfl (fun r43346 qr43346 => ?_)
            refine lv_iand hx hb dX2_firstPiece_40 ?_
            refine wk_topP (P := fun r => r = y10_l3 &&& r43346) rfl (fun r43347 qr43347 => ?_)
            refine lv_istore_n (lv' := [(3, .int r43347), (5, .int r43343), (0, .ref (a 37)), (1, .int x0), (2, .int y10_l2), (4, .int y10_l4)]) hx hb dX2_firstPiece_41 rfl hl (by decide) rfl (fun ls hl => ?_)
            refine lv_aload_n hx hb dX2_firstPiece_42 rfl (lv_at hl 2 rfl) ?_
            refine lv_iload hx hb dX2_firstPiece_43 (lv_at hl 1 rfl) ?_
            refine wk_aldA hx hb hK hP 37 0 rfl rfl (rg_in g43345 (by decide) (by decide)) dX2_firstPiece_45 (fun r43348 => ?_)
            refine lv_iload_n hx hb dX2_firstPiece_46 rfl (lv_at hl 3 rfl) ?_
            refine lv_iand hx hb dX2_firstPiece_47 ?_
            refine wk_topP (P := fun r => r = r43348 &&& x0) rfl (fun r43349 qr43349 => ?_)
            refine lv_iload_n hx hb dX2_firstPiece_48 rfl (lv_at hl 4 rfl) ?_
            refine lv_iconst (v := (-1)) hx hb dX2_firstPiece_49 (by decide) ?_
            refine lv_ixor hx hb dX2_firstPiece_50 ?_
            refine wk_topP (P := fun r => r = y10_l2 ^^^ ((-1) : Int32)) rfl (fun r43350 qr43350 => ?_)
            refine lv_iand hx hb dX2_firstPiece_51 ?_
            refine wk_topP (P := fun r => r = r43349 &&& r43350) rfl (fun r43351 qr43351 => ?_)
            refine lv_istore (lv' := [(6, .int r43351), (3, .int r43347), (5, .int r43343), (0, .ref (a 37)), (1, .int x0), (2, .int y10_l2), (4, .int y10_l4)]) hx hb dX2_firstPiece_52 hl (by decide) rfl (fun ls hl => ?_)
            refine lv_iload_n hx hb dX2_firstPiece_54 rfl (lv_at hl 5 rfl) ?_
            refine lv_iload hx hb dX2_firstPiece_55 (lv_at hl 0 rfl) ?_
            refine lv_ior hx hb dX2_firstPiece_57 ?_
            refine wk_topP (P := fun r => r = y10_l2 ||| r43351) rfl (fun r43352 qr43352 => ?_)
            refine lv_istore_n (lv' := [(2, .int r43352), (6, .int r43351), (3, .int r43347), (5, .int r43343), (0, .ref (a 37)), (1, .int x0), (4, .int y10_l4)]) hx hb dX2_firstPiece_58 rfl hl (by decide) rfl (fun ls hl => ?_)
            refine lv_iload_n hx hb dX2_firstPiece_59 rfl (lv_at hl 2 rfl) ?_
            refine lv_iload hx hb dX2_firstPiece_60 (lv_at hl 1 rfl) ?_
            refine lv_ior hx hb dX2_firstPiece_62 ?_
            refine wk_topP (P := fun r => r = r43347 ||| r43351) rfl (fun r43353 qr43353 => ?_)
            refine lv_istore_n (lv' := [(3, .int r43353), (2, .int r43352), (6, .int r43351), (5, .int r43343), (0, .ref (a 37)), (1, .int x0), (4, .int y10_l4)]) hx hb dX2_firstPiece_63 rfl hl (by decide) rfl (fun ls hl => ?_)
            refine wk_iinc (lv' := fun r => [(4, .int r), (3, .int r43353), (2, .int r43352), (6, .int r43351), (5, .int r43343), (0, .ref (a 37)), (1, .int x0)]) (e1 := 1) (f := 12) hx hb dX2_firstPiece_64 hl (k := 6) rfl (by decide) g43340 (by decide) (fun _ => rfl) (fun r43354 ls hr43354 er43354 hl => ?_)
            refine lv_goto (tgt := 10) hx hb dX2_firstPiece_67 (by decide) ?_
            exact ih10 r43352 r43353 r43354 ls (show Rg 0 12 r43354 from rg_w hr43354 (by decide) (by decide)) (lv_sub (l' := [(0, .ref (a 37)), (1, .int x0), (2, .int r43352), (3, .int r43353), (4, .int r43354)]) hl [5, 6, 2, 1, 0] rfl) (me_up hm10 er43354 (by decide))
          · have g43355 : Rg 12 33 r43343 := rg_ler (by decide : Rg 12 12 (12 : Int32)) hr43343.1 (rg_nlt c43344) (by decide)
            refine lv_iload_n hx hb dX2_firstPiece_34 rfl (lv_at hl 3 rfl) ?_
            exact W.iret (v := y10_l2) hx hb hr (fun t ht hW => ⟨_, rfl, ⟨(rg_any y10_l2), trivial⟩, ht⟩) (fun q hq => absurd hq List.not_mem_nil) dX2_firstPiece_35
  refine lv_iload_n hx hb dX2_firstPiece_0 rfl (lv_at hl 1 rfl) ?_
  refine lz_ss (As := [.int x0]) (rest := []) ⟨hx, hb, hml, hown, hts⟩ (k_J6_lowestOneBit_0f7a4 l D cI cS x0) hKK (hP.sub (ws' := []) [] rfl) (va_cwS 1 hts gX2_firstPiece_J6_lowestOneBit_0f7a4 rfl rfl rfl (by decide +kernel) ⟨Nat.le_of_ble_eq_true rfl, Nat.le_of_ble_eq_true rfl⟩) rfl hl.1 rfl (Nat.le_of_ble_eq_true rfl) dX2_firstPiece_1 ⟨Nat.le_of_ble_eq_true rfl, Nat.le_of_ble_eq_true rfl⟩ (fun r43356 hr43356 => ?_)
  refine lv_istore_n (lv' := [(2, .int r43356), (0, .ref (a 37)), (1, .int x0)]) hx hb dX2_firstPiece_4 rfl hl (by decide) rfl (fun ls hl => ?_)
  refine lv_iload_n hx hb dX2_firstPiece_5 rfl (lv_at hl 0 rfl) ?_
  refine lv_istore_n (lv' := [(3, .int r43356), (2, .int r43356), (0, .ref (a 37)), (1, .int x0)]) hx hb dX2_firstPiece_6 rfl hl (by decide) rfl (fun ls hl => ?_)
  refine lv_iconst (v := 0) hx hb dX2_firstPiece_7 (by decide) ?_
  refine lv_istore (lv' := [(4, .int 0), (3, .int r43356), (2, .int r43356), (0, .ref (a 37)), (1, .int x0)]) hx hb dX2_firstPiece_8 hl (by decide) rfl (fun ls hl => ?_)
  exact lp10 13 r43356 r43356 (0 : Int32) ls (by decide : Rg 0 12 (0 : Int32)) (lv_sub (l' := [(0, .ref (a 37)), (1, .int x0), (2, .int r43356), (3, .int r43356), (4, .int 0)]) hl [3, 4, 2, 1, 0] rfl) (me_i (by decide : Rg 0 12 (0 : Int32)) (by decide))
