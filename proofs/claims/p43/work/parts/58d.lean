set_option maxRecDepth 20000 in
theorem ggX5_readBrackets_J6_bitCount_0f7a4 : GoodIn wsX5_readBrackets wsJ6_bitCount_0f7a4 := goodIn_r _ [45, 46, 47, 48] rfl (by decide +kernel)
set_option maxRecDepth 20000 in
theorem gX5_readBrackets_J6_bitCount_0f7a4 : GoodIn wsX5_readBrackets (va_wsS RX5 70 yJ6_bitCount_0f7a4 wsJ6_bitCount_0f7a4) := goodIn_app (goodIn_of _ (by decide +kernel)) ggX5_readBrackets_J6_bitCount_0f7a4
set_option maxRecDepth 20000 in
theorem ggX5_readBrackets_X5_fail : GoodIn wsX5_readBrackets wsX5_fail := goodIn_r _ [36, 1, 10, 49, 50, 51, 52, 53, 54, 55, 56] rfl (by decide +kernel)
set_option maxRecDepth 20000 in
theorem gX5_readBrackets_X5_fail : GoodIn wsX5_readBrackets (wsV RX5 39 RX5 yX5_fail wsX5_fail) := goodIn_app (goodIn_of _ (by decide +kernel)) ggX5_readBrackets_X5_fail
set_option maxRecDepth 20000 in
theorem ggX5_readBrackets_X5_joinEach : GoodIn wsX5_readBrackets wsX5_joinEach := goodIn_r _ [40, 26, 41, 27, 28, 29, 30, 31, 32, 49, 50, 51, 52, 53, 54, 55, 56, 59, 60, 61] rfl (by decide +kernel)
set_option maxRecDepth 20000 in
theorem gX5_readBrackets_X5_joinEach : GoodIn wsX5_readBrackets (wsV RX5 67 RX5 yX5_joinEach wsX5_joinEach) := goodIn_app (goodIn_of _ (by decide +kernel)) ggX5_readBrackets_X5_joinEach
set_option maxRecDepth 20000 in
theorem ggX5_readBrackets_X5_readPoint : GoodIn wsX5_readBrackets wsX5_readPoint := goodIn_r _ [25, 2, 26, 11, 27, 28, 29, 30, 31, 32, 33, 34, 35, 6, 36, 1, 10, 3, 4, 5, 7, 8, 9, 12, 13, 14, 15, 16, 17, 18, 19, 20, 21, 49, 50, 51, 52, 53, 54, 55, 56, 59, 60, 61, 57, 58] rfl (by decide +kernel)
set_option maxRecDepth 20000 in
theorem gX5_readBrackets_X5_readPoint : GoodIn wsX5_readBrackets (wsV RX5 64 RX5 yX5_readPoint wsX5_readPoint) := goodIn_app (goodIn_of _ (by decide +kernel)) ggX5_readBrackets_X5_readPoint
set_option maxRecDepth 20000 in
theorem ggX5_readBrackets_X5_step : GoodIn wsX5_readBrackets wsX5_step := goodIn_r _ [7, 8, 9, 10, 11, 2, 12, 13, 14, 15, 16, 17, 18, 19, 20, 6, 21, 49, 50, 51, 52, 53, 54, 55, 56, 57, 58] rfl (by decide +kernel)
set_option maxRecDepth 20000 in
theorem gX5_readBrackets_X5_step : GoodIn wsX5_readBrackets (wsV RX5 30 RX5 yX5_step wsX5_step) := goodIn_app (goodIn_of _ (by decide +kernel)) ggX5_readBrackets_X5_step
theorem dX5_readBrackets_0 : decode cX5_readBrackets 0 = .ok (.iload_n 2, 1) := by decide +kernel
theorem dX5_readBrackets_1 : decode cX5_readBrackets 1 = .ok (.bipush 41, 2) := by decide +kernel
theorem dX5_readBrackets_10 : decode cX5_readBrackets 10 = .ok (.iconst 0, 1) := by decide +kernel
theorem dX5_readBrackets_101 : decode cX5_readBrackets 101 = .ok (.iload 4, 2) := by decide +kernel
theorem dX5_readBrackets_103 : decode cX5_readBrackets 103 = .ok (.istore 4, 2) := by decide +kernel
theorem dX5_readBrackets_105 : decode cX5_readBrackets 105 = .ok (.iload 6, 2) := by decide +kernel
theorem dX5_readBrackets_107 : decode cX5_readBrackets 107 = .ok (.iload 5, 2) := by decide +kernel
theorem dX5_readBrackets_109 : decode cX5_readBrackets 109 = .ok (.ior, 1) := by decide +kernel
theorem dX5_readBrackets_11 : decode cX5_readBrackets 11 = .ok (.istore_n 3, 1) := by decide +kernel
theorem dX5_readBrackets_110 : decode cX5_readBrackets 110 = .ok (.istore 6, 2) := by decide +kernel
theorem dX5_readBrackets_112 : decode cX5_readBrackets 112 = .ok (.iinc 8 1, 3) := by decide +kernel
theorem dX5_readBrackets_115 : decode cX5_readBrackets 115 = .ok (.goto (-84), 3) := by decide +kernel
theorem dX5_readBrackets_118 : decode cX5_readBrackets 118 = .ok (.iload 6, 2) := by decide +kernel
theorem dX5_readBrackets_12 : decode cX5_readBrackets 12 = .ok (.iconst 0, 1) := by decide +kernel
theorem dX5_readBrackets_120 : decode cX5_readBrackets 120 = .ok (.invokestatic 70, 3) := by decide +kernel
theorem dX5_readBrackets_123 : decode cX5_readBrackets 123 = .ok (.iload_n 1, 1) := by decide +kernel
theorem dX5_readBrackets_124 : decode cX5_readBrackets 124 = .ok (.if_icmp .lt 11, 3) := by decide +kernel
theorem dX5_readBrackets_127 : decode cX5_readBrackets 127 = .ok (.aload_n 0, 1) := by decide +kernel
theorem dX5_readBrackets_128 : decode cX5_readBrackets 128 = .ok (.getfield 36, 3) := by decide +kernel
theorem dX5_readBrackets_13 : decode cX5_readBrackets 13 = .ok (.istore 4, 2) := by decide +kernel
theorem dX5_readBrackets_131 : decode cX5_readBrackets 131 = .ok (.iload_n 2, 1) := by decide +kernel
theorem dX5_readBrackets_132 : decode cX5_readBrackets 132 = .ok (.if_icmp .eq 8, 3) := by decide +kernel
theorem dX5_readBrackets_135 : decode cX5_readBrackets 135 = .ok (.aload_n 0, 1) := by decide +kernel
theorem dX5_readBrackets_136 : decode cX5_readBrackets 136 = .ok (.invokevirtual 39, 3) := by decide +kernel
theorem dX5_readBrackets_139 : decode cX5_readBrackets 139 = .ok (.return_, 1) := by decide +kernel
theorem dX5_readBrackets_140 : decode cX5_readBrackets 140 = .ok (.iload_n 3, 1) := by decide +kernel
theorem dX5_readBrackets_141 : decode cX5_readBrackets 141 = .ok (.ifCond .eq 11, 3) := by decide +kernel
theorem dX5_readBrackets_144 : decode cX5_readBrackets 144 = .ok (.aload_n 0, 1) := by decide +kernel
theorem dX5_readBrackets_145 : decode cX5_readBrackets 145 = .ok (.iload 4, 2) := by decide +kernel
theorem dX5_readBrackets_147 : decode cX5_readBrackets 147 = .ok (.iload 7, 2) := by decide +kernel
theorem dX5_readBrackets_149 : decode cX5_readBrackets 149 = .ok (.invokevirtual 67, 3) := by decide +kernel
theorem dX5_readBrackets_15 : decode cX5_readBrackets 15 = .ok (.iconst 0, 1) := by decide +kernel
theorem dX5_readBrackets_152 : decode cX5_readBrackets 152 = .ok (.aload_n 0, 1) := by decide +kernel
theorem dX5_readBrackets_153 : decode cX5_readBrackets 153 = .ok (.invokevirtual 30, 3) := by decide +kernel
theorem dX5_readBrackets_156 : decode cX5_readBrackets 156 = .ok (.return_, 1) := by decide +kernel
theorem dX5_readBrackets_16 : decode cX5_readBrackets 16 = .ok (.istore 5, 2) := by decide +kernel
theorem dX5_readBrackets_18 : decode cX5_readBrackets 18 = .ok (.iconst 0, 1) := by decide +kernel
theorem dX5_readBrackets_19 : decode cX5_readBrackets 19 = .ok (.istore 6, 2) := by decide +kernel
theorem dX5_readBrackets_21 : decode cX5_readBrackets 21 = .ok (.iconst (-1), 1) := by decide +kernel
theorem dX5_readBrackets_22 : decode cX5_readBrackets 22 = .ok (.istore 7, 2) := by decide +kernel
theorem dX5_readBrackets_24 : decode cX5_readBrackets 24 = .ok (.aload_n 0, 1) := by decide +kernel
theorem dX5_readBrackets_25 : decode cX5_readBrackets 25 = .ok (.invokevirtual 30, 3) := by decide +kernel
theorem dX5_readBrackets_28 : decode cX5_readBrackets 28 = .ok (.iconst 0, 1) := by decide +kernel
theorem dX5_readBrackets_29 : decode cX5_readBrackets 29 = .ok (.istore 8, 2) := by decide +kernel
theorem dX5_readBrackets_3 : decode cX5_readBrackets 3 = .ok (.if_icmp .ne 7, 3) := by decide +kernel
theorem dX5_readBrackets_31 : decode cX5_readBrackets 31 = .ok (.iload 8, 2) := by decide +kernel
theorem dX5_readBrackets_33 : decode cX5_readBrackets 33 = .ok (.bipush 120, 2) := by decide +kernel
theorem dX5_readBrackets_35 : decode cX5_readBrackets 35 = .ok (.if_icmp .ge 83, 3) := by decide +kernel
theorem dX5_readBrackets_38 : decode cX5_readBrackets 38 = .ok (.aload_n 0, 1) := by decide +kernel
theorem dX5_readBrackets_39 : decode cX5_readBrackets 39 = .ok (.getfield 27, 3) := by decide +kernel
theorem dX5_readBrackets_42 : decode cX5_readBrackets 42 = .ok (.ifCond .ge 76, 3) := by decide +kernel
theorem dX5_readBrackets_45 : decode cX5_readBrackets 45 = .ok (.aload_n 0, 1) := by decide +kernel
theorem dX5_readBrackets_46 : decode cX5_readBrackets 46 = .ok (.getfield 36, 3) := by decide +kernel
theorem dX5_readBrackets_49 : decode cX5_readBrackets 49 = .ok (.bipush (-2), 2) := by decide +kernel
theorem dX5_readBrackets_51 : decode cX5_readBrackets 51 = .ok (.if_icmp .ne 67, 3) := by decide +kernel
theorem dX5_readBrackets_54 : decode cX5_readBrackets 54 = .ok (.aload_n 0, 1) := by decide +kernel
theorem dX5_readBrackets_55 : decode cX5_readBrackets 55 = .ok (.iload 6, 2) := by decide +kernel
theorem dX5_readBrackets_57 : decode cX5_readBrackets 57 = .ok (.invokevirtual 64, 3) := by decide +kernel
theorem dX5_readBrackets_6 : decode cX5_readBrackets 6 = .ok (.iconst 1, 1) := by decide +kernel
theorem dX5_readBrackets_60 : decode cX5_readBrackets 60 = .ok (.istore 7, 2) := by decide +kernel
theorem dX5_readBrackets_62 : decode cX5_readBrackets 62 = .ok (.iload 7, 2) := by decide +kernel
theorem dX5_readBrackets_64 : decode cX5_readBrackets 64 = .ok (.ifCond .ge 4, 3) := by decide +kernel
theorem dX5_readBrackets_67 : decode cX5_readBrackets 67 = .ok (.return_, 1) := by decide +kernel
theorem dX5_readBrackets_68 : decode cX5_readBrackets 68 = .ok (.aload_n 0, 1) := by decide +kernel
theorem dX5_readBrackets_69 : decode cX5_readBrackets 69 = .ok (.iload_n 3, 1) := by decide +kernel
theorem dX5_readBrackets_7 : decode cX5_readBrackets 7 = .ok (.goto 4, 3) := by decide +kernel
theorem dX5_readBrackets_70 : decode cX5_readBrackets 70 = .ok (.ifCond .eq 8, 3) := by decide +kernel
theorem dX5_readBrackets_73 : decode cX5_readBrackets 73 = .ok (.iload 5, 2) := by decide +kernel
theorem dX5_readBrackets_75 : decode cX5_readBrackets 75 = .ok (.goto 5, 3) := by decide +kernel
theorem dX5_readBrackets_78 : decode cX5_readBrackets 78 = .ok (.iload 6, 2) := by decide +kernel
theorem dX5_readBrackets_80 : decode cX5_readBrackets 80 = .ok (.iload 7, 2) := by decide +kernel
theorem dX5_readBrackets_82 : decode cX5_readBrackets 82 = .ok (.invokevirtual 67, 3) := by decide +kernel
theorem dX5_readBrackets_85 : decode cX5_readBrackets 85 = .ok (.iconst 1, 1) := by decide +kernel
theorem dX5_readBrackets_86 : decode cX5_readBrackets 86 = .ok (.iload 7, 2) := by decide +kernel
theorem dX5_readBrackets_88 : decode cX5_readBrackets 88 = .ok (.ishl, 1) := by decide +kernel
theorem dX5_readBrackets_89 : decode cX5_readBrackets 89 = .ok (.istore 5, 2) := by decide +kernel
theorem dX5_readBrackets_91 : decode cX5_readBrackets 91 = .ok (.iload 6, 2) := by decide +kernel
theorem dX5_readBrackets_93 : decode cX5_readBrackets 93 = .ok (.ifCond .ne 8, 3) := by decide +kernel
theorem dX5_readBrackets_96 : decode cX5_readBrackets 96 = .ok (.iload 5, 2) := by decide +kernel
theorem dX5_readBrackets_98 : decode cX5_readBrackets 98 = .ok (.goto 5, 3) := by decide +kernel
set_option maxHeartbeats 4000000 in
set_option maxRecDepth 100000 in
theorem k_X5_readBrackets (l : Launch) (D : va_G) (cI cS : ClassId) (sz : Nat) (a : Nat → Nat) (na nc N : Nat) (L u0 : SU) (hL : TyX L) (hN : N = 0 ∨ N = 24576) (x0 x1 : Int32) : Met l yX5_readBrackets wsX5_readBrackets ({ frames := 3, cells := 0, slots := 0, locals := 120 }) (PQ D cI cS (wX cI cS a na nc N L u0) sz [.ref (a 23), .int x0, .int x1]) (QE (S := SU) D (wX cI cS a na nc N L u0) (wX cI cS a na nc N L) sz (fun _ => True)) 0 0 (va_A (wX cI cS a na nc N L u0) sz) := by
  refine Met.ofW (cc := cX5_readBrackets) (maxL := 9) (ret := none) (by decide) rfl ?_
  intro p e s m args below meth c s₁ B hml hv
  obtain ⟨rfl, hsz, hP, hKK, hD0⟩ := hv
  have hx := B.exec
  have hb := B.bytes
  have hr := B.returns
  have hts := atoms_spec (ws := wsX5_readBrackets) B.pre
  have hown : s.vm.findClass RX5 = some m.cls := findClass_of_methodNamed B.named
  have hlocks := B.notSynchronized
  have hK := hKK.1
  have hin5 : ∀ w ∈ wsX50, w ∈ wsX5_readBrackets := by decide +kernel
  subst hsz
  have hD := hD0.self (sz := s.heap.size)
  obtain ⟨A, hAe⟩ : ∃ A, A = va_A (wX cI cS a na nc N L u0) s.heap.size := ⟨_, rfl⟩
  rw [← hAe] at hD
  have hA : ∀ q : Nat, s.heap.size ≤ q → A q := fun q h => by rw [hAe]; exact Or.inr h
  have hS : va_S A s.heap s.heap [] := va_S.rf
  have hl := lv_entry ([.ref (a 23), .int x0, .int x1]) (n := 9) (Nat.le_of_ble_eq_true rfl)
  rw [lg_entry_eq]
  generalize (lg_sl ([.ref (a 23), .int x0, .int x1]) ++ List.replicate (9 - (lg_sl ([.ref (a 23), .int x0, .int x1])).length) Slot.unset).toArray = ls at hl ⊢
  have hl : lv_has ls 9 [(0, .ref (a 23)), (1, .int x0), (2, .int x1)] := hl
  obtain ⟨u, hu9⟩ : ∃ u : SU, u = u0 := ⟨_, rfl⟩
  rw [← hu9] at hP hD
  have ct118 : ∀ (y118_l3 : Int32) (y118_l4 : Int32) (y118_l6 : Int32) (y118_l7 : Int32) (u : SU) (H : Heap) (locs : List Loc) (ls : Array Slot), Rg 0 1 y118_l3 → Rg (-1) 2147483647 y118_l7 → va_P D cls (wX cI cS a na nc N L u) H → va_D A (wX cI cS a na nc N L u) → va_S A s.heap H locs → lv_has ls 9 [(0, .ref (a 23)), (1, .int x0), (2, .int x1), (3, .int y118_l3), (4, .int y118_l4), (6, .int y118_l6), (7, .int y118_l7)] → W p l e (headSpec wsX5_readBrackets ({ frames := 3, cells := 0, slots := 0, locals := 120 })).room s m ([.ref (a 23), .int x0, .int x1]).toArray below meth c H locs 0 0 (MQ below (QE (S := SU) D (wX cI cS a na nc N L u0) (wX cI cS a na nc N L) s.heap.size (fun _ => True)) ([.ref (a 23), .int x0, .int x1]).toArray s 0 0 (va_A (wX cI cS a na nc N L u0) s.heap.size)) (F0 m 118 ls []) := by
    intro y118_l3 y118_l4 y118_l6 y118_l7 u H locs ls g118_l3 g118_l7 hP hD hS hl
    refine lv_iload hx hb dX5_readBrackets_118 (lv_at hl 5 rfl) ?_
    refine lz_ss (As := [.int y118_l6]) (rest := []) ⟨hx, hb, hml, hown, hts⟩ (k_J6_bitCount_0f7a4 l D cI cS y118_l6) hKK (hP.sub (ws' := []) [] rfl) (va_cwS 1 hts gX5_readBrackets_J6_bitCount_0f7a4 rfl rfl rfl (by decide +kernel) ⟨Nat.le_of_ble_eq_true rfl, Nat.le_of_ble_eq_true rfl⟩) rfl hl.1 rfl (Nat.le_of_ble_eq_true rfl) dX5_readBrackets_120 ⟨Nat.le_of_ble_eq_true rfl, Nat.le_of_ble_eq_true rfl⟩ (fun r41209 hr41209 => ?_)
    refine lv_iload_n hx hb dX5_readBrackets_123 rfl (lv_at hl 1 rfl) ?_
    refine lv_icmp_lt (tgt := 135) hx hb dX5_readBrackets_124 (by decide) (fun c41210 => ?_) (fun c41210 => ?_)
    · refine lv_aload_n hx hb dX5_readBrackets_135 rfl (lv_at hl 0 rfl) ?_
      refine wk_qv (wX cI cS a na nc N L) u (As := []) (rest := []) ⟨hx, hb, hml, hown, hts⟩ (k_X5_fail l D cI cS _ a na nc N L u hL hN) hKK hP hD hS hA 23 (ci := 5) rfl rfl (cwV 0 hts gX5_readBrackets_X5_fail rfl rfl rfl (by decide +kernel) ⟨Nat.le_of_ble_eq_true rfl, Nat.le_of_ble_eq_true rfl⟩) rfl hl.1 rfl (Nat.le_of_ble_eq_true rfl) dX5_readBrackets_136 ⟨Nat.le_of_ble_eq_true rfl, Nat.le_of_ble_eq_true rfl⟩ (fun u H locs hr41211 hP hD hS => ?_)
      subst hAe
      exact W.vret hx hb hr (fun t ht hW => ⟨⟨u, rfl, trivial, by rw [ht]; exact hP, hD⟩, hS.F ht⟩) hS.2.2 dX5_readBrackets_139
    · refine lv_aload_n hx hb dX5_readBrackets_127 rfl (lv_at hl 0 rfl) ?_
      refine va_get (D := D) (ci := 5) (v := .int (u 23 5)) (C := RX5) (T := TX5) (N := 8) hx hb hts hin5 hown hK hP 23 rfl rfl 5 (by decide) (hts (.fieldLink RX5 36 "MissedPoints$Reader" "token" "I") (by decide +kernel)) (fun _ h9 => h9) rfl dX5_readBrackets_128 ?_
      refine wk_any (fun r41212 => ?_)
      refine lv_iload_n hx hb dX5_readBrackets_131 rfl (lv_at hl 2 rfl) ?_
      refine lv_icmp_eq (tgt := 140) hx hb dX5_readBrackets_132 (by decide) (fun c41213 => ?_) (fun c41213 => ?_)
      · refine lv_iload_n hx hb dX5_readBrackets_140 rfl (lv_at hl 3 rfl) ?_
        refine lv_if_eq (tgt := 152) hx hb dX5_readBrackets_141 (by decide) (fun c41214 => ?_) (fun c41214 => ?_)
        · have g41215 : Rg 0 0 y118_l3 := wk_eql g118_l3 (by decide : Rg 0 0 (0 : Int32)) c41214 (by decide)
          refine lv_aload_n hx hb dX5_readBrackets_152 rfl (lv_at hl 0 rfl) ?_
          refine wk_qv (wX cI cS a na nc N L) u (As := []) (rest := []) ⟨hx, hb, hml, hown, hts⟩ (k_X5_step l D cI cS _ a na nc N L u hL hN) hKK hP hD hS hA 23 (ci := 5) rfl rfl (cwV 0 hts gX5_readBrackets_X5_step rfl rfl rfl (by decide +kernel) ⟨Nat.le_of_ble_eq_true rfl, Nat.le_of_ble_eq_true rfl⟩) rfl hl.1 rfl (Nat.le_of_ble_eq_true rfl) dX5_readBrackets_153 ⟨Nat.le_of_ble_eq_true rfl, Nat.le_of_ble_eq_true rfl⟩ (fun u H locs hr41216 hP hD hS => ?_)
          subst hAe
          exact W.vret hx hb hr (fun t ht hW => ⟨⟨u, rfl, trivial, by rw [ht]; exact hP, hD⟩, hS.F ht⟩) hS.2.2 dX5_readBrackets_156
        · have g41217 : Rg 1 1 y118_l3 := rg_ne_lo (k := 0) g118_l3 (by decide) c41214 (by decide)
          refine lv_aload_n hx hb dX5_readBrackets_144 rfl (lv_at hl 0 rfl) ?_
          refine lv_iload hx hb dX5_readBrackets_145 (lv_at hl 4 rfl) ?_
          refine lv_iload hx hb dX5_readBrackets_147 (lv_at hl 6 rfl) ?_
          refine wk_qv (wX cI cS a na nc N L) u (As := [.int y118_l4, .int y118_l7]) (rest := []) ⟨hx, hb, hml, hown, hts⟩ (k_X5_joinEach l D cI cS _ a na nc N L u hL hN y118_l4 y118_l7) hKK hP hD hS hA 23 (ci := 5) rfl rfl (cwV 2 hts gX5_readBrackets_X5_joinEach rfl rfl rfl (by decide +kernel) ⟨Nat.le_of_ble_eq_true rfl, Nat.le_of_ble_eq_true rfl⟩) rfl hl.1 rfl (Nat.le_of_ble_eq_true rfl) dX5_readBrackets_149 ⟨Nat.le_of_ble_eq_true rfl, Nat.le_of_ble_eq_true rfl⟩ (fun u H locs hr41218 hP hD hS => ?_)
          refine lv_aload_n hx hb dX5_readBrackets_152 rfl (lv_at hl 0 rfl) ?_
          refine wk_qv (wX cI cS a na nc N L) u (As := []) (rest := []) ⟨hx, hb, hml, hown, hts⟩ (k_X5_step l D cI cS _ a na nc N L u hL hN) hKK hP hD hS hA 23 (ci := 5) rfl rfl (cwV 0 hts gX5_readBrackets_X5_step rfl rfl rfl (by decide +kernel) ⟨Nat.le_of_ble_eq_true rfl, Nat.le_of_ble_eq_true rfl⟩) rfl hl.1 rfl (Nat.le_of_ble_eq_true rfl) dX5_readBrackets_153 ⟨Nat.le_of_ble_eq_true rfl, Nat.le_of_ble_eq_true rfl⟩ (fun u H locs hr41219 hP hD hS => ?_)
          subst hAe
          exact W.vret hx hb hr (fun t ht hW => ⟨⟨u, rfl, trivial, by rw [ht]; exact hP, hD⟩, hS.F ht⟩) hS.2.2 dX5_readBrackets_156
      · refine lv_aload_n hx hb dX5_readBrackets_135 rfl (lv_at hl 0 rfl) ?_
        refine wk_qv (wX cI cS a na nc N L) u (As := []) (rest := []) ⟨hx, hb, hml, hown, hts⟩ (k_X5_fail l D cI cS _ a na nc N L u hL hN) hKK hP hD hS hA 23 (ci := 5) rfl rfl (cwV 0 hts gX5_readBrackets_X5_fail rfl rfl rfl (by decide +kernel) ⟨Nat.le_of_ble_eq_true rfl, Nat.le_of_ble_eq_true rfl⟩) rfl hl.1 rfl (Nat.le_of_ble_eq_true rfl) dX5_readBrackets_136 ⟨Nat.le_of_ble_eq_true rfl, Nat.le_of_ble_eq_true rfl⟩ (fun u H locs hr41220 hP hD hS => ?_)
        subst hAe
        exact W.vret hx hb hr (fun t ht hW => ⟨⟨u, rfl, trivial, by rw [ht]; exact hP, hD⟩, hS.F ht⟩) hS.2.2 dX5_readBrackets_139
  have lp31 : ∀ (n31 : Nat) (y31_l3 : Int32) (y31_l4 : Int32) (y31_l5 : Int32) (y31_l6 : Int32) (y31_l7 : Int32) (y31_l8 : Int32) (u : SU) (H : Heap) (locs : List Loc) (ls : Array Slot), Rg 0 1 y31_l3 → Rg (-1) 2147483647 y31_l7 → Rg 0 120 y31_l8 → va_P D cls (wX cI cS a na nc N L u) H → va_D A (wX cI cS a na nc N L u) → va_S A s.heap H locs → lv_has ls 9 [(0, .ref (a 23)), (1, .int x0), (2, .int x1), (3, .int y31_l3), (4, .int y31_l4), (5, .int y31_l5), (6, .int y31_l6), (7, .int y31_l7), (8, .int y31_l8)] → 120 - y31_l8.toInt < (n31 : Int) → W p l e (headSpec wsX5_readBrackets ({ frames := 3, cells := 0, slots := 0, locals := 120 })).room s m ([.ref (a 23), .int x0, .int x1]).toArray below meth c H locs 0 0 (MQ below (QE (S := SU) D (wX cI cS a na nc N L u0) (wX cI cS a na nc N L) s.heap.size (fun _ => True)) ([.ref (a 23), .int x0, .int x1]).toArray s 0 0 (va_A (wX cI cS a na nc N L u0) s.heap.size)) (F0 m 31 ls []) := by
    intro n31
    induction n31 with
    | zero =>
      intro y31_l3 y31_l4 y31_l5 y31_l6 y31_l7 y31_l8 u H locs ls g31_l3 g31_l7 g31_l8 hP hD hS hl hm31
      exact absurd rfl (me_z g31_l8 hm31)
    | succ n31 ih31 =>
      intro y31_l3 y31_l4 y31_l5 y31_l6 y31_l7 y31_l8 u H locs ls g31_l3 g31_l7 g31_l8 hP hD hS hl hm31
      have ct80 : ∀ (y80_l7 : Int32) (y80_s0 : Int32) (u : SU) (H : Heap) (locs : List Loc) (ls : Array Slot), Rg 0 1 y31_l3 → Rg 0 2147483647 y80_l7 → Rg 0 119 y31_l8 → va_P D cls (wX cI cS a na nc N L u) H → va_D A (wX cI cS a na nc N L u) → va_S A s.heap H locs → lv_has ls 9 [(0, .ref (a 23)), (1, .int x0), (2, .int x1), (3, .int y31_l3), (4, .int y31_l4), (6, .int y31_l6), (7, .int y80_l7), (8, .int y31_l8)] → W p l e (headSpec wsX5_readBrackets ({ frames := 3, cells := 0, slots := 0, locals := 120 })).room s m ([.ref (a 23), .int x0, .int x1]).toArray below meth c H locs 0 0 (MQ below (QE (S := SU) D (wX cI cS a na nc N L u0) (wX cI cS a na nc N L) s.heap.size (fun _ => True)) ([.ref (a 23), .int x0, .int x1]).toArray s 0 0 (va_A (wX cI cS a na nc N L u0) s.heap.size)) (F0 m 80 ls [.int y80_s0, .ref (a 23)]) := by
        intro y80_l7 y80_s0 u H locs ls g80_l3 g80_l7 g80_l8 hP hD hS hl
        refine lv_iload hx hb dX5_readBrackets_80 (lv_at hl 6 rfl) ?_
        refine wk_qv (wX cI cS a na nc N L) u (As := [.int y80_s0, .int y80_l7]) (rest := []) ⟨hx, hb, hml, hown, hts⟩ (k_X5_joinEach l D cI cS _ a na nc N L u hL hN y80_s0 y80_l7) hKK hP hD hS hA 23 (ci := 5) rfl rfl (cwV 2 hts gX5_readBrackets_X5_joinEach rfl rfl rfl (by decide +kernel) ⟨Nat.le_of_ble_eq_true rfl, Nat.le_of_ble_eq_true rfl⟩) rfl hl.1 rfl (Nat.le_of_ble_eq_true rfl) dX5_readBrackets_82 ⟨Nat.le_of_ble_eq_true rfl, Nat.le_of_ble_eq_true rfl⟩ (fun u H locs hr41221 hP hD hS => ?_)
        refine lv_iconst (v := 1) hx hb dX5_readBrackets_85 (by decide) ?_
        refine lv_iload hx hb dX5_readBrackets_86 (lv_at hl 6 rfl) ?_
        refine lv_ishl hx hb dX5_readBrackets_88 ?_
        refine wk_topP (P := fun r => r = (1 : Int32) <<< (y80_l7 &&& 31)) rfl (fun r41222 qr41222 => ?_)
        refine lv_istore (lv' := [(5, .int r41222), (0, .ref (a 23)), (1, .int x0), (2, .int x1), (3, .int y31_l3), (4, .int y31_l4), (6, .int y31_l6), (7, .int y80_l7), (8, .int y31_l8)]) hx hb dX5_readBrackets_89 hl (by decide) rfl (fun ls hl => ?_)
        refine lv_iload hx hb dX5_readBrackets_91 (lv_at hl 6 rfl) ?_
        refine lv_if_ne (tgt := 101) hx hb dX5_readBrackets_93 (by decide) (fun c41223 => ?_) (fun c41223 => ?_)
        · refine lv_iload hx hb dX5_readBrackets_101 (lv_at hl 5 rfl) ?_
          refine lv_istore (lv' := [(4, .int y31_l4), (5, .int r41222), (0, .ref (a 23)), (1, .int x0), (2, .int x1), (3, .int y31_l3), (6, .int y31_l6), (7, .int y80_l7), (8, .int y31_l8)]) hx hb dX5_readBrackets_103 hl (by decide) rfl (fun ls hl => ?_)
          refine lv_iload hx hb dX5_readBrackets_105 (lv_at hl 6 rfl) ?_
          refine lv_iload hx hb dX5_readBrackets_107 (lv_at hl 1 rfl) ?_
          refine lv_ior hx hb dX5_readBrackets_109 ?_
          refine wk_topP (P := fun r => r = y31_l6 ||| r41222) rfl (fun r41224 qr41224 => ?_)
          refine lv_istore (lv' := [(6, .int r41224), (4, .int y31_l4), (5, .int r41222), (0, .ref (a 23)), (1, .int x0), (2, .int x1), (3, .int y31_l3), (7, .int y80_l7), (8, .int y31_l8)]) hx hb dX5_readBrackets_110 hl (by decide) rfl (fun ls hl => ?_)
          refine wk_iinc (lv' := fun r => [(8, .int r), (6, .int r41224), (4, .int y31_l4), (5, .int r41222), (0, .ref (a 23)), (1, .int x0), (2, .int x1), (3, .int y31_l3), (7, .int y80_l7)]) (e1 := 1) (f := 120) hx hb dX5_readBrackets_112 hl (k := 8) rfl (by decide) g80_l8 (by decide) (fun _ => rfl) (fun r41225 ls hr41225 er41225 hl => ?_)
          refine lv_goto (tgt := 31) hx hb dX5_readBrackets_115 (by decide) ?_
          exact ih31 y31_l3 y31_l4 r41222 r41224 y80_l7 r41225 u _ _ ls g80_l3 (show Rg (-1) 2147483647 y80_l7 from rg_w g80_l7 (by decide) (by decide)) (show Rg 0 120 r41225 from rg_w hr41225 (by decide) (by decide)) hP hD hS (lv_sub (l' := [(0, .ref (a 23)), (1, .int x0), (2, .int x1), (3, .int y31_l3), (4, .int y31_l4), (5, .int r41222), (6, .int r41224), (7, .int y80_l7), (8, .int r41225)]) hl [4, 5, 6, 7, 2, 3, 1, 8, 0] rfl) (me_up hm31 er41225 (by decide))
        · have g41226 : Rg 0 0 y31_l6 := wk_eql (rg_any y31_l6) (by decide : Rg 0 0 (0 : Int32)) c41223 (by decide)
          refine lv_iload hx hb dX5_readBrackets_96 (lv_at hl 0 rfl) ?_
          refine lv_goto (tgt := 103) hx hb dX5_readBrackets_98 (by decide) ?_
          refine lv_istore (lv' := [(4, .int r41222), (5, .int r41222), (0, .ref (a 23)), (1, .int x0), (2, .int x1), (3, .int y31_l3), (6, .int y31_l6), (7, .int y80_l7), (8, .int y31_l8)]) hx hb dX5_readBrackets_103 hl (by decide) rfl (fun ls hl => ?_)
          refine lv_iload hx hb dX5_readBrackets_105 (lv_at hl 6 rfl) ?_
          refine lv_iload hx hb dX5_readBrackets_107 (lv_at hl 1 rfl) ?_
          refine lv_ior hx hb dX5_readBrackets_109 ?_
          refine wk_topP (P := fun r => r = y31_l6 ||| r41222) rfl (fun r41227 qr41227 => ?_)
          refine lv_istore (lv' := [(6, .int r41227), (4, .int r41222), (5, .int r41222), (0, .ref (a 23)), (1, .int x0), (2, .int x1), (3, .int y31_l3), (7, .int y80_l7), (8, .int y31_l8)]) hx hb dX5_readBrackets_110 hl (by decide) rfl (fun ls hl => ?_)
          refine wk_iinc (lv' := fun r => [(8, .int r), (6, .int r41227), (4, .int r41222), (5, .int r41222), (0, .ref (a 23)), (1, .int x0), (2, .int x1), (3, .int y31_l3), (7, .int y80_l7)]) (e1 := 1) (f := 120) hx hb dX5_readBrackets_112 hl (k := 8) rfl (by decide) g80_l8 (by decide) (fun _ => rfl) (fun r41228 ls hr41228 er41228 hl => ?_)
          refine lv_goto (tgt := 31) hx hb dX5_readBrackets_115 (by decide) ?_
          exact ih31 y31_l3 r41222 r41222 r41227 y80_l7 r41228 u _ _ ls g80_l3 (show Rg (-1) 2147483647 y80_l7 from rg_w g80_l7 (by decide) (by decide)) (show Rg 0 120 r41228 from rg_w hr41228 (by decide) (by decide)) hP hD hS (lv_sub (l' := [(0, .ref (a 23)), (1, .int x0), (2, .int x1), (3, .int y31_l3), (4, .int r41222), (5, .int r41222), (6, .int r41227), (7, .int y80_l7), (8, .int r41228)]) hl [4, 5, 6, 7, 2, 3, 1, 8, 0] rfl) (me_up hm31 er41228 (by decide))
      refine lv_iload hx hb dX5_readBrackets_31 (lv_at hl 8 rfl) ?_
      refine lv_bipush (v := 120) hx hb dX5_readBrackets_33 (by decide) ?_
      refine lv_icmp_ge (tgt := 118) hx hb dX5_readBrackets_35 (by decide) (fun c41229 => ?_) (fun c41229 => ?_)
      · have g41230 : Rg 120 120 y31_l8 := rg_ler (by decide : Rg 120 120 (120 : Int32)) g31_l8 c41229 (by decide)
        exact ct118 y31_l3 y31_l4 y31_l6 y31_l7 u _ _ ls g31_l3 g31_l7 hP hD hS (lv_sub (l' := [(0, .ref (a 23)), (1, .int x0), (2, .int x1), (3, .int y31_l3), (4, .int y31_l4), (6, .int y31_l6), (7, .int y31_l7)]) hl [0, 1, 2, 3, 4, 6, 7] rfl)
      · have g41231 : Rg 0 119 y31_l8 := rg_ltl g31_l8 (by decide : Rg 120 120 (120 : Int32)) (rg_nle c41229) (by decide)
        refine lv_aload_n hx hb dX5_readBrackets_38 rfl (lv_at hl 0 rfl) ?_
        refine va_get (D := D) (ci := 5) (v := .int (u 23 7)) (C := RX5) (T := TX5) (N := 8) hx hb hts hin5 hown hK hP 23 rfl rfl 7 (by decide) (hts (.fieldLink RX5 27 "MissedPoints$Reader" "fault" "I") (by decide +kernel)) (fun _ h9 => h9) rfl dX5_readBrackets_39 ?_
        refine wk_any (fun r41232 => ?_)
        refine lv_if_ge (tgt := 118) hx hb dX5_readBrackets_42 (by decide) (fun c41233 => ?_) (fun c41233 => ?_)
        · have g41234 : Rg 0 2147483647 r41232 := rg_ler (by decide : Rg 0 0 (0 : Int32)) (rg_any r41232) c41233 (by decide)
          exact ct118 y31_l3 y31_l4 y31_l6 y31_l7 u _ _ ls g31_l3 g31_l7 hP hD hS (lv_sub (l' := [(0, .ref (a 23)), (1, .int x0), (2, .int x1), (3, .int y31_l3), (4, .int y31_l4), (6, .int y31_l6), (7, .int y31_l7)]) hl [0, 1, 2, 3, 4, 6, 7] rfl)
        · have g41235 : Rg (-2147483648) (-1) r41232 := rg_ltl (rg_any r41232) (by decide : Rg 0 0 (0 : Int32)) (rg_nle c41233) (by decide)
          refine lv_aload_n hx hb dX5_readBrackets_45 rfl (lv_at hl 0 rfl) ?_
          refine va_get (D := D) (ci := 5) (v := .int (u 23 5)) (C := RX5) (T := TX5) (N := 8) hx hb hts hin5 hown hK hP 23 rfl rfl 5 (by decide) (hts (.fieldLink RX5 36 "MissedPoints$Reader" "token" "I") (by decide +kernel)) (fun _ h9 => h9) rfl dX5_readBrackets_46 ?_
          refine wk_any (fun r41236 => ?_)
          refine lv_bipush (v := (-2)) hx hb dX5_readBrackets_49 (by decide) ?_
          refine lv_icmp_ne (tgt := 118) hx hb dX5_readBrackets_51 (by decide) (fun c41237 => ?_) (fun c41237 => ?_)
          · exact ct118 y31_l3 y31_l4 y31_l6 y31_l7 u _ _ ls g31_l3 g31_l7 hP hD hS (lv_sub (l' := [(0, .ref (a 23)), (1, .int x0), (2, .int x1), (3, .int y31_l3), (4, .int y31_l4), (6, .int y31_l6), (7, .int y31_l7)]) hl [0, 1, 2, 3, 4, 6, 7] rfl)
          · have g41238 : Rg (-2) (-2) r41236 := wk_eql (rg_any r41236) (by decide : Rg (-2) (-2) ((-2) : Int32)) c41237 (by decide)
            refine lv_aload_n hx hb dX5_readBrackets_54 rfl (lv_at hl 0 rfl) ?_
            refine lv_iload hx hb dX5_readBrackets_55 (lv_at hl 6 rfl) ?_
            refine wk_qi (wX cI cS a na nc N L) u (As := [.int y31_l6]) (rest := []) ⟨hx, hb, hml, hown, hts⟩ (k_X5_readPoint l D cI cS _ a na nc N L u hL hN y31_l6) hKK hP hD hS hA 23 (ci := 5) rfl rfl (cwV 1 hts gX5_readBrackets_X5_readPoint rfl rfl rfl (by decide +kernel) ⟨Nat.le_of_ble_eq_true rfl, Nat.le_of_ble_eq_true rfl⟩) rfl hl.1 rfl (Nat.le_of_ble_eq_true rfl) dX5_readBrackets_57 ⟨Nat.le_of_ble_eq_true rfl, Nat.le_of_ble_eq_true rfl⟩ (fun r41239 u H locs hr41239 hP hD hS => ?_)
            refine lv_istore (lv' := [(7, .int r41239), (0, .ref (a 23)), (1, .int x0), (2, .int x1), (3, .int y31_l3), (4, .int y31_l4), (5, .int y31_l5), (6, .int y31_l6), (8, .int y31_l8)]) hx hb dX5_readBrackets_60 hl (by decide) rfl (fun ls hl => ?_)
            refine lv_iload hx hb dX5_readBrackets_62 (lv_at hl 0 rfl) ?_
            refine lv_if_ge (tgt := 68) hx hb dX5_readBrackets_64 (by decide) (fun c41240 => ?_) (fun c41240 => ?_)
            · have g41241 : Rg 0 2147483647 r41239 := rg_ler (by decide : Rg 0 0 (0 : Int32)) hr41239.1 c41240 (by decide)
              refine lv_aload_n hx hb dX5_readBrackets_68 rfl (lv_at hl 1 rfl) ?_
              refine lv_iload_n hx hb dX5_readBrackets_69 rfl (lv_at hl 4 rfl) ?_
              refine lv_if_eq (tgt := 78) hx hb dX5_readBrackets_70 (by decide) (fun c41242 => ?_) (fun c41242 => ?_)
              · have g41243 : Rg 0 0 y31_l3 := wk_eql g31_l3 (by decide : Rg 0 0 (0 : Int32)) c41242 (by decide)
                refine lv_iload hx hb dX5_readBrackets_78 (lv_at hl 7 rfl) ?_
                exact ct80 r41239 y31_l6 u _ _ ls (show Rg 0 1 y31_l3 from rg_w g41243 (by decide) (by decide)) g41241 g41231 hP hD hS (lv_sub (l' := [(0, .ref (a 23)), (1, .int x0), (2, .int x1), (3, .int y31_l3), (4, .int y31_l4), (6, .int y31_l6), (7, .int r41239), (8, .int y31_l8)]) hl [1, 2, 3, 4, 5, 7, 0, 8] rfl)
              · have g41244 : Rg 1 1 y31_l3 := rg_ne_lo (k := 0) g31_l3 (by decide) c41242 (by decide)
                refine lv_iload hx hb dX5_readBrackets_73 (lv_at hl 6 rfl) ?_
                refine lv_goto (tgt := 80) hx hb dX5_readBrackets_75 (by decide) ?_
                exact ct80 r41239 y31_l5 u _ _ ls (show Rg 0 1 y31_l3 from rg_w g41244 (by decide) (by decide)) g41241 g41231 hP hD hS (lv_sub (l' := [(0, .ref (a 23)), (1, .int x0), (2, .int x1), (3, .int y31_l3), (4, .int y31_l4), (6, .int y31_l6), (7, .int r41239), (8, .int y31_l8)]) hl [1, 2, 3, 4, 5, 7, 0, 8] rfl)
            · have g41245 : Rg (-2147483648) (-1) r41239 := rg_ltl hr41239.1 (by decide : Rg 0 0 (0 : Int32)) (rg_nle c41240) (by decide)
              subst hAe
              exact W.vret hx hb hr (fun t ht hW => ⟨⟨u, rfl, trivial, by rw [ht]; exact hP, hD⟩, hS.F ht⟩) hS.2.2 dX5_readBrackets_67
  refine lv_iload_n hx hb dX5_readBrackets_0 rfl (lv_at hl 2 rfl) ?_
  refine lv_bipush (v := 41) hx hb dX5_readBrackets_1 (by decide) ?_
  refine lv_icmp_ne (tgt := 10) hx hb dX5_readBrackets_3 (by decide) (fun c41246 => ?_) (fun c41246 => ?_)
  · refine lv_iconst (v := 0) hx hb dX5_readBrackets_10 (by decide) ?_
    refine lv_istore_n (lv' := [(3, .int 0), (0, .ref (a 23)), (1, .int x0), (2, .int x1)]) hx hb dX5_readBrackets_11 rfl hl (by decide) rfl (fun ls hl => ?_)
    refine lv_iconst (v := 0) hx hb dX5_readBrackets_12 (by decide) ?_
    refine lv_istore (lv' := [(4, .int 0), (3, .int 0), (0, .ref (a 23)), (1, .int x0), (2, .int x1)]) hx hb dX5_readBrackets_13 hl (by decide) rfl (fun ls hl => ?_)
    refine lv_iconst (v := 0) hx hb dX5_readBrackets_15 (by decide) ?_
    refine lv_istore (lv' := [(5, .int 0), (4, .int 0), (3, .int 0), (0, .ref (a 23)), (1, .int x0), (2, .int x1)]) hx hb dX5_readBrackets_16 hl (by decide) rfl (fun ls hl => ?_)
    refine lv_iconst (v := 0) hx hb dX5_readBrackets_18 (by decide) ?_
    refine lv_istore (lv' := [(6, .int 0), (5, .int 0), (4, .int 0), (3, .int 0), (0, .ref (a 23)), (1, .int x0), (2, .int x1)]) hx hb dX5_readBrackets_19 hl (by decide) rfl (fun ls hl => ?_)
    refine lv_iconst (v := (-1)) hx hb dX5_readBrackets_21 (by decide) ?_
    refine lv_istore (lv' := [(7, .int (-1)), (6, .int 0), (5, .int 0), (4, .int 0), (3, .int 0), (0, .ref (a 23)), (1, .int x0), (2, .int x1)]) hx hb dX5_readBrackets_22 hl (by decide) rfl (fun ls hl => ?_)
    refine lv_aload_n hx hb dX5_readBrackets_24 rfl (lv_at hl 5 rfl) ?_
    refine wk_qv (wX cI cS a na nc N L) u (As := []) (rest := []) ⟨hx, hb, hml, hown, hts⟩ (k_X5_step l D cI cS _ a na nc N L u hL hN) hKK hP hD hS hA 23 (ci := 5) rfl rfl (cwV 0 hts gX5_readBrackets_X5_step rfl rfl rfl (by decide +kernel) ⟨Nat.le_of_ble_eq_true rfl, Nat.le_of_ble_eq_true rfl⟩) rfl hl.1 rfl (Nat.le_of_ble_eq_true rfl) dX5_readBrackets_25 ⟨Nat.le_of_ble_eq_true rfl, Nat.le_of_ble_eq_true rfl⟩ (fun u H locs hr41247 hP hD hS => ?_)
    refine lv_iconst (v := 0) hx hb dX5_readBrackets_28 (by decide) ?_
    refine lv_istore (lv' := [(8, .int 0), (7, .int (-1)), (6, .int 0), (5, .int 0), (4, .int 0), (3, .int 0), (0, .ref (a 23)), (1, .int x0), (2, .int x1)]) hx hb dX5_readBrackets_29 hl (by decide) rfl (fun ls hl => ?_)
    exact lp31 121 (0 : Int32) (0 : Int32) (0 : Int32) (0 : Int32) (((-1) : Int32)) (0 : Int32) u _ _ ls (by decide : Rg 0 1 (0 : Int32)) (by decide : Rg (-1) 2147483647 ((-1) : Int32)) (by decide : Rg 0 120 (0 : Int32)) hP hD hS (lv_sub (l' := [(0, .ref (a 23)), (1, .int x0), (2, .int x1), (3, .int 0), (4, .int 0), (5, .int 0), (6, .int 0), (7, .int (-1)), (8, .int 0)]) hl [6, 7, 8, 5, 4, 3, 2, 1, 0] rfl) (me_i (by decide : Rg 0 120 (0 : Int32)) (by decide))
  · have g41248 : Rg 41 41 x1 := wk_eql (rg_any x1) (by decide : Rg 41 41 (41 : Int32)) c41246 (by decide)
    refine lv_iconst (v := 1) hx hb dX5_readBrackets_6 (by decide) ?_
    refine lv_goto (tgt := 11) hx hb dX5_readBrackets_7 (by decide) ?_
    refine lv_istore_n (lv' := [(3, .int 1), (0, .ref (a 23)), (1, .int x0), (2, .int x1)]) hx hb dX5_readBrackets_11 rfl hl (by decide) rfl (fun ls hl => ?_)
    refine lv_iconst (v := 0) hx hb dX5_readBrackets_12 (by decide) ?_
    refine lv_istore (lv' := [(4, .int 0), (3, .int 1), (0, .ref (a 23)), (1, .int x0), (2, .int x1)]) hx hb dX5_readBrackets_13 hl (by decide) rfl (fun ls hl => ?_)
    refine lv_iconst (v := 0) hx hb dX5_readBrackets_15 (by decide) ?_
    refine lv_istore (lv' := [(5, .int 0), (4, .int 0), (3, .int 1), (0, .ref (a 23)), (1, .int x0), (2, .int x1)]) hx hb dX5_readBrackets_16 hl (by decide) rfl (fun ls hl => ?_)
    refine lv_iconst (v := 0) hx hb dX5_readBrackets_18 (by decide) ?_
    refine lv_istore (lv' := [(6, .int 0), (5, .int 0), (4, .int 0), (3, .int 1), (0, .ref (a 23)), (1, .int x0), (2, .int x1)]) hx hb dX5_readBrackets_19 hl (by decide) rfl (fun ls hl => ?_)
    refine lv_iconst (v := (-1)) hx hb dX5_readBrackets_21 (by decide) ?_
    refine lv_istore (lv' := [(7, .int (-1)), (6, .int 0), (5, .int 0), (4, .int 0), (3, .int 1), (0, .ref (a 23)), (1, .int x0), (2, .int x1)]) hx hb dX5_readBrackets_22 hl (by decide) rfl (fun ls hl => ?_)
    refine lv_aload_n hx hb dX5_readBrackets_24 rfl (lv_at hl 5 rfl) ?_
    refine wk_qv (wX cI cS a na nc N L) u (As := []) (rest := []) ⟨hx, hb, hml, hown, hts⟩ (k_X5_step l D cI cS _ a na nc N L u hL hN) hKK hP hD hS hA 23 (ci := 5) rfl rfl (cwV 0 hts gX5_readBrackets_X5_step rfl rfl rfl (by decide +kernel) ⟨Nat.le_of_ble_eq_true rfl, Nat.le_of_ble_eq_true rfl⟩) rfl hl.1 rfl (Nat.le_of_ble_eq_true rfl) dX5_readBrackets_25 ⟨Nat.le_of_ble_eq_true rfl, Nat.le_of_ble_eq_true rfl⟩ (fun u H locs hr41249 hP hD hS => ?_)
    refine lv_iconst (v := 0) hx hb dX5_readBrackets_28 (by decide) ?_
    refine lv_istore (lv' := [(8, .int 0), (7, .int (-1)), (6, .int 0), (5, .int 0), (4, .int 0), (3, .int 1), (0, .ref (a 23)), (1, .int x0), (2, .int x1)]) hx hb dX5_readBrackets_29 hl (by decide) rfl (fun ls hl => ?_)
    exact lp31 121 (1 : Int32) (0 : Int32) (0 : Int32) (0 : Int32) (((-1) : Int32)) (0 : Int32) u _ _ ls (by decide : Rg 0 1 (1 : Int32)) (by decide : Rg (-1) 2147483647 ((-1) : Int32)) (by decide : Rg 0 120 (0 : Int32)) hP hD hS (lv_sub (l' := [(0, .ref (a 23)), (1, .int x0), (2, .int x1), (3, .int 1), (4, .int 0), (5, .int 0), (6, .int 0), (7, .int (-1)), (8, .int 0)]) hl [6, 7, 8, 5, 4, 3, 2, 1, 0] rfl) (me_i (by decide : Rg 0 120 (0 : Int32)) (by decide))
set_option maxRecDepth 20000 in
theorem ggX5_readItem_X5_readBrackets : GoodIn wsX5_readItem wsX5_readBrackets := goodIn_r _ [49, 23, 1, 25, 26, 27, 5, 28, 29, 30, 24, 12, 31, 32, 33, 34, 35, 36, 37, 38, 39, 40, 7, 8, 9, 10, 11, 13, 14, 15, 16, 17, 18, 19, 20, 21, 22, 41, 42, 43, 44, 45, 50, 51, 52, 53, 54, 55, 56, 57, 58, 59, 60, 61, 62, 63, 64, 68, 69, 65, 66, 67] rfl (by decide +kernel)
set_option maxRecDepth 20000 in
theorem gX5_readItem_X5_readBrackets : GoodIn wsX5_readItem (wsV RX5 60 RX5 yX5_readBrackets wsX5_readBrackets) := goodIn_app (goodIn_of _ (by decide +kernel)) ggX5_readItem_X5_readBrackets
set_option maxRecDepth 20000 in
theorem ggX5_readItem_X5_readRow : GoodIn wsX5_readItem wsX5_readRow := goodIn_r _ [6, 1, 7, 8, 9, 5, 10, 11, 12, 13, 14, 15, 16, 17, 18, 19, 20, 21, 22, 23, 24, 25, 26, 27, 28, 29, 30, 31, 32, 33, 34, 35, 36, 37, 38, 39, 40, 41, 42, 43, 44, 45, 57, 58, 59, 60, 61, 62, 63, 64, 65, 66, 67, 68, 69] rfl (by decide +kernel)
set_option maxRecDepth 20000 in
theorem gX5_readItem_X5_readRow : GoodIn wsX5_readItem (wsV RX5 57 RX5 yX5_readRow wsX5_readRow) := goodIn_app (goodIn_of _ (by decide +kernel)) ggX5_readItem_X5_readRow
theorem dX5_readItem_10 : decode cX5_readItem 10 = .ok (.invokevirtual 57, 3) := by decide +kernel
theorem dX5_readItem_13 : decode cX5_readItem 13 = .ok (.goto 45, 3) := by decide +kernel
theorem dX5_readItem_25 : decode cX5_readItem 25 = .ok (.aload_n 0, 1) := by decide +kernel
theorem dX5_readItem_26 : decode cX5_readItem 26 = .ok (.iconst 3, 1) := by decide +kernel
theorem dX5_readItem_27 : decode cX5_readItem 27 = .ok (.bipush 41, 2) := by decide +kernel
theorem dX5_readItem_29 : decode cX5_readItem 29 = .ok (.invokevirtual 60, 3) := by decide +kernel
theorem dX5_readItem_32 : decode cX5_readItem 32 = .ok (.goto 26, 3) := by decide +kernel
theorem dX5_readItem_44 : decode cX5_readItem 44 = .ok (.aload_n 0, 1) := by decide +kernel
theorem dX5_readItem_45 : decode cX5_readItem 45 = .ok (.iconst 2, 1) := by decide +kernel
theorem dX5_readItem_46 : decode cX5_readItem 46 = .ok (.bipush 93, 2) := by decide +kernel
theorem dX5_readItem_48 : decode cX5_readItem 48 = .ok (.invokevirtual 60, 3) := by decide +kernel
theorem dX5_readItem_51 : decode cX5_readItem 51 = .ok (.goto 7, 3) := by decide +kernel
theorem dX5_readItem_9 : decode cX5_readItem 9 = .ok (.aload_n 0, 1) := by decide +kernel
set_option maxHeartbeats 4000000 in
set_option maxRecDepth 100000 in
theorem k_X5_readItem (l : Launch) (D : va_G) (cI cS : ClassId) (sz : Nat) (a : Nat → Nat) (na nc N : Nat) (L u0 : SU) (hL : TyX L) (hN : N = 0 ∨ N = 24576) : Met l yX5_readItem wsX5_readItem ({ frames := 4, cells := 0, slots := 0, locals := 160 }) (PQ D cI cS (wX cI cS a na nc N L u0) sz [.ref (a 23)]) (QE (S := SU) D (wX cI cS a na nc N L u0) (wX cI cS a na nc N L) sz (fun _ => True)) 0 0 (va_A (wX cI cS a na nc N L u0) sz) := by
  refine Met.ofW (cc := cX5_readItem) (maxL := 1) (ret := none) (by decide) rfl ?_
  intro p e s m args below meth c s₁ B hml hv
  obtain ⟨rfl, hsz, hP, hKK, hD0⟩ := hv
  have hx := B.exec
  have hb := B.bytes
  have hr := B.returns
  have hts := atoms_spec (ws := wsX5_readItem) B.pre
  have hown : s.vm.findClass RX5 = some m.cls := findClass_of_methodNamed B.named
  have hlocks := B.notSynchronized
  have hK := hKK.1
  have hin5 : ∀ w ∈ wsX50, w ∈ wsX5_readItem := by decide +kernel
  subst hsz
  have hD := hD0.self (sz := s.heap.size)
  obtain ⟨A, hAe⟩ : ∃ A, A = va_A (wX cI cS a na nc N L u0) s.heap.size := ⟨_, rfl⟩
  rw [← hAe] at hD
  have hA : ∀ q : Nat, s.heap.size ≤ q → A q := fun q h => by rw [hAe]; exact Or.inr h
  have hS : va_S A s.heap s.heap [] := va_S.rf
  have hl := lv_entry ([.ref (a 23)]) (n := 1) (Nat.le_of_ble_eq_true rfl)
  rw [lg_entry_eq]
  generalize (lg_sl ([.ref (a 23)]) ++ List.replicate (1 - (lg_sl ([.ref (a 23)])).length) Slot.unset).toArray = ls at hl ⊢
  have hl : lv_has ls 1 [(0, .ref (a 23))] := hl
  obtain ⟨u, hu9⟩ : ∃ u : SU, u = u0 := ⟨_, rfl⟩
  rw [← hu9] at hP hD
  refine lv_aload_n hx hb dX5_readItem_0 rfl (lv_at hl 0 rfl) ?_
  refine va_get (D := D) (ci := 5) (v := .int (u 23 5)) (C := RX5) (T := TX5) (N := 8) hx hb hts hin5 hown hK hP 23 rfl rfl 5 (by decide) (hts (.fieldLink RX5 36 "MissedPoints$Reader" "token" "I") (by decide +kernel)) (fun _ h9 => h9) rfl dX5_readItem_1 ?_
  refine wk_any (fun r41263 => ?_)
  refine lv_bipush (v := (-2)) hx hb dX5_readItem_4 (by decide) ?_
  refine lv_icmp_ne (tgt := 16) hx hb dX5_readItem_6 (by decide) (fun c41264 => ?_) (fun c41264 => ?_)
  · refine lv_aload_n hx hb dX5_readItem_16 rfl (lv_at hl 0 rfl) ?_
    refine va_get (D := D) (ci := 5) (v := .int (u 23 5)) (C := RX5) (T := TX5) (N := 8) hx hb hts hin5 hown hK hP 23 rfl rfl 5 (by decide) (hts (.fieldLink RX5 36 "MissedPoints$Reader" "token" "I") (by decide +kernel)) (fun _ h9 => h9) rfl dX5_readItem_17 ?_
    refine wk_any (fun r41265 => ?_)
    refine lv_bipush (v := 40) hx hb dX5_readItem_20 (by decide) ?_
    refine lv_icmp_ne (tgt := 35) hx hb dX5_readItem_22 (by decide) (fun c41266 => ?_) (fun c41266 => ?_)
    · refine lv_aload_n hx hb dX5_readItem_35 rfl (lv_at hl 0 rfl) ?_
      refine va_get (D := D) (ci := 5) (v := .int (u 23 5)) (C := RX5) (T := TX5) (N := 8) hx hb hts hin5 hown hK hP 23 rfl rfl 5 (by decide) (hts (.fieldLink RX5 36 "MissedPoints$Reader" "token" "I") (by decide +kernel)) (fun _ h9 => h9) rfl dX5_readItem_36 ?_
      refine wk_any (fun r41267 => ?_)
      refine lv_bipush (v := 91) hx hb dX5_readItem_39 (by decide) ?_
      refine lv_icmp_ne (tgt := 54) hx hb dX5_readItem_41 (by decide) (fun c41268 => ?_) (fun c41268 => ?_)
      · refine lv_aload_n hx hb dX5_readItem_54 rfl (lv_at hl 0 rfl) ?_
        refine wk_qv (wX cI cS a na nc N L) u (As := []) (rest := []) ⟨hx, hb, hml, hown, hts⟩ (k_X5_fail l D cI cS _ a na nc N L u hL hN) hKK hP hD hS hA 23 (ci := 5) rfl rfl (cwV 0 hts gX5_readItem_X5_fail rfl rfl rfl (by decide +kernel) ⟨Nat.le_of_ble_eq_true rfl, Nat.le_of_ble_eq_true rfl⟩) rfl hl.1 rfl (Nat.le_of_ble_eq_true rfl) dX5_readItem_55 ⟨Nat.le_of_ble_eq_true rfl, Nat.le_of_ble_eq_true rfl⟩ (fun u H locs hr41269 hP hD hS => ?_)
        subst hAe
        exact W.vret hx hb hr (fun t ht hW => ⟨⟨u, rfl, trivial, by rw [ht]; exact hP, hD⟩, hS.F ht⟩) hS.2.2 dX5_readItem_58
      · have g41270 : Rg 91 91 r41267 := wk_eql (rg_any r41267) (by decide : Rg 91 91 (91 : Int32)) c41268 (by decide)
        refine lv_aload_n hx hb dX5_readItem_44 rfl (lv_at hl 0 rfl) ?_
        refine lv_iconst (v := 2) hx hb dX5_readItem_45 (by decide) ?_
        refine lv_bipush (v := 93) hx hb dX5_readItem_46 (by decide) ?_
        refine wk_qv (wX cI cS a na nc N L) u (As := [.int 2, .int 93]) (rest := []) ⟨hx, hb, hml, hown, hts⟩ (k_X5_readBrackets l D cI cS _ a na nc N L u hL hN (2 : Int32) (93 : Int32)) hKK hP hD hS hA 23 (ci := 5) rfl rfl (cwV 2 hts gX5_readItem_X5_readBrackets rfl rfl rfl (by decide +kernel) ⟨Nat.le_of_ble_eq_true rfl, Nat.le_of_ble_eq_true rfl⟩) rfl hl.1 rfl (Nat.le_of_ble_eq_true rfl) dX5_readItem_48 ⟨Nat.le_of_ble_eq_true rfl, Nat.le_of_ble_eq_true rfl⟩ (fun u H locs hr41271 hP hD hS => ?_)
        refine lv_goto (tgt := 58) hx hb dX5_readItem_51 (by decide) ?_
        subst hAe
        exact W.vret hx hb hr (fun t ht hW => ⟨⟨u, rfl, trivial, by rw [ht]; exact hP, hD⟩, hS.F ht⟩) hS.2.2 dX5_readItem_58
    · have g41272 : Rg 40 40 r41265 := wk_eql (rg_any r41265) (by decide : Rg 40 40 (40 : Int32)) c41266 (by decide)
      refine lv_aload_n hx hb dX5_readItem_25 rfl (lv_at hl 0 rfl) ?_
      refine lv_iconst (v := 3) hx hb dX5_readItem_26 (by decide) ?_
      refine lv_bipush (v := 41) hx hb dX5_readItem_27 (by decide) ?_
      refine wk_qv (wX cI cS a na nc N L) u (As := [.int 3, .int 41]) (rest := []) ⟨hx, hb, hml, hown, hts⟩ (k_X5_readBrackets l D cI cS _ a na nc N L u hL hN (3 : Int32) (41 : Int32)) hKK hP hD hS hA 23 (ci := 5) rfl rfl (cwV 2 hts gX5_readItem_X5_readBrackets rfl rfl rfl (by decide +kernel) ⟨Nat.le_of_ble_eq_true rfl, Nat.le_of_ble_eq_true rfl⟩) rfl hl.1 rfl (Nat.le_of_ble_eq_true rfl) dX5_readItem_29 ⟨Nat.le_of_ble_eq_true rfl, Nat.le_of_ble_eq_true rfl⟩ (fun u H locs hr41273 hP hD hS => ?_)
      refine lv_goto (tgt := 58) hx hb dX5_readItem_32 (by decide) ?_
      subst hAe
      exact W.vret hx hb hr (fun t ht hW => ⟨⟨u, rfl, trivial, by rw [ht]; exact hP, hD⟩, hS.F ht⟩) hS.2.2 dX5_readItem_58
  · have g41274 : Rg (-2) (-2) r41263 := wk_eql (rg_any r41263) (by decide : Rg (-2) (-2) ((-2) : Int32)) c41264 (by decide)
    refine lv_aload_n hx hb dX5_readItem_9 rfl (lv_at hl 0 rfl) ?_
    refine wk_qv (wX cI cS a na nc N L) u (As := []) (rest := []) ⟨hx, hb, hml, hown, hts⟩ (k_X5_readRow l D cI cS _ a na nc N L u hL hN) hKK hP hD hS hA 23 (ci := 5) rfl rfl (cwV 0 hts gX5_readItem_X5_readRow rfl rfl rfl (by decide +kernel) ⟨Nat.le_of_ble_eq_true rfl, Nat.le_of_ble_eq_true rfl⟩) rfl hl.1 rfl (Nat.le_of_ble_eq_true rfl) dX5_readItem_10 ⟨Nat.le_of_ble_eq_true rfl, Nat.le_of_ble_eq_true rfl⟩ (fun u H locs hr41275 hP hD hS => ?_)
    refine lv_goto (tgt := 58) hx hb dX5_readItem_13 (by decide) ?_
    subst hAe
    exact W.vret hx hb hr (fun t ht hW => ⟨⟨u, rfl, trivial, by rw [ht]; exact hP, hD⟩, hS.F ht⟩) hS.2.2 dX5_readItem_58
set_option maxRecDepth 20000 in
theorem ggX5_readAll_X5_fail : GoodIn wsX5_readAll wsX5_fail := goodIn_r _ [45, 3, 11, 61, 62, 63, 64, 65, 66, 67, 68] rfl (by decide +kernel)
set_option maxRecDepth 20000 in
theorem gX5_readAll_X5_fail : GoodIn wsX5_readAll (wsV RX5 39 RX5 yX5_fail wsX5_fail) := goodIn_app (goodIn_of _ (by decide +kernel)) ggX5_readAll_X5_fail
theorem dX5_readAll_54 : decode cX5_readAll 54 = .ok (.aload_n 0, 1) := by decide +kernel
theorem dX5_readAll_55 : decode cX5_readAll 55 = .ok (.getfield 36, 3) := by decide +kernel
theorem dX5_readAll_58 : decode cX5_readAll 58 = .ok (.bipush 44, 2) := by decide +kernel
theorem dX5_readAll_60 : decode cX5_readAll 60 = .ok (.if_icmp .ne 17, 3) := by decide +kernel
theorem dX5_readAll_63 : decode cX5_readAll 63 = .ok (.aload_n 0, 1) := by decide +kernel
theorem dX5_readAll_64 : decode cX5_readAll 64 = .ok (.invokevirtual 30, 3) := by decide +kernel
theorem dX5_readAll_67 : decode cX5_readAll 67 = .ok (.aload_n 0, 1) := by decide +kernel
theorem dX5_readAll_68 : decode cX5_readAll 68 = .ok (.invokevirtual 33, 3) := by decide +kernel
theorem dX5_readAll_71 : decode cX5_readAll 71 = .ok (.iinc 1 1, 3) := by decide +kernel
theorem dX5_readAll_74 : decode cX5_readAll 74 = .ok (.goto (-33), 3) := by decide +kernel
theorem dX5_readAll_85 : decode cX5_readAll 85 = .ok (.aload_n 0, 1) := by decide +kernel
theorem dX5_readAll_86 : decode cX5_readAll 86 = .ok (.invokevirtual 39, 3) := by decide +kernel
set_option maxHeartbeats 4000000 in
set_option maxRecDepth 100000 in
theorem k_X5_readAll (l : Launch) (D : va_G) (cI cS : ClassId) (sz : Nat) (a : Nat → Nat) (na nc N : Nat) (L u0 : SU) (hL : TyX L) (hN : N = 0 ∨ N = 24576) : Met l yX5_readAll wsX5_readAll ({ frames := 5, cells := 0, slots := 0, locals := 200 }) (PQ D cI cS (wX cI cS a na nc N L u0) sz [.ref (a 23)]) (QF (S := SU) D (wX cI cS a na nc N L u0) (wX cI cS a na nc N L) sz (fun r _ => Rg (-2147483648) 2147483647 r ∧ True)) 0 0 (va_A (wX cI cS a na nc N L u0) sz) := by
  refine Met.ofW (cc := cX5_readAll) (maxL := 2) (ret := (some .int)) (by decide) rfl ?_
  intro p e s m args below meth c s₁ B hml hv
  obtain ⟨rfl, hsz, hP, hKK, hD0⟩ := hv
  have hx := B.exec
  have hb := B.bytes
  have hr := B.returns
  have hts := atoms_spec (ws := wsX5_readAll) B.pre
  have hown : s.vm.findClass RX5 = some m.cls := findClass_of_methodNamed B.named
  have hlocks := B.notSynchronized
  have hK := hKK.1
  have hin5 : ∀ w ∈ wsX50, w ∈ wsX5_readAll := by decide +kernel
  subst hsz
  have hD := hD0.self (sz := s.heap.size)
  obtain ⟨A, hAe⟩ : ∃ A, A = va_A (wX cI cS a na nc N L u0) s.heap.size := ⟨_, rfl⟩
  rw [← hAe] at hD
  have hA : ∀ q : Nat, s.heap.size ≤ q → A q := fun q h => by rw [hAe]; exact Or.inr h
  have hS : va_S A s.heap s.heap [] := va_S.rf
  have hl := lv_entry ([.ref (a 23)]) (n := 2) (Nat.le_of_ble_eq_true rfl)
  rw [lg_entry_eq]
  generalize (lg_sl ([.ref (a 23)]) ++ List.replicate (2 - (lg_sl ([.ref (a 23)])).length) Slot.unset).toArray = ls at hl ⊢
  have hl : lv_has ls 2 [(0, .ref (a 23))] := hl
  obtain ⟨u, hu9⟩ : ∃ u : SU, u = u0 := ⟨_, rfl⟩
  rw [← hu9] at hP hD
  have lp41 : ∀ (n41 : Nat) (y41_l1 : Int32) (u : SU) (H : Heap) (locs : List Loc) (ls : Array Slot), Rg 0 120 y41_l1 → va_P D cls (wX cI cS a na nc N L u) H → va_D A (wX cI cS a na nc N L u) → va_S A s.heap H locs → lv_has ls 2 [(0, .ref (a 23)), (1, .int y41_l1)] → 120 - y41_l1.toInt < (n41 : Int) → W p l e (headSpec wsX5_readAll ({ frames := 5, cells := 0, slots := 0, locals := 200 })).room s m ([.ref (a 23)]).toArray below meth c H locs 0 0 (MQ below (QF (S := SU) D (wX cI cS a na nc N L u0) (wX cI cS a na nc N L) s.heap.size (fun r _ => Rg (-2147483648) 2147483647 r ∧ True)) ([.ref (a 23)]).toArray s 0 0 (va_A (wX cI cS a na nc N L u0) s.heap.size)) (F0 m 41 ls []) := by
    intro n41
    induction n41 with
    | zero =>
      intro y41_l1 u H locs ls g41_l1 hP hD hS hl hm41
      exact absurd rfl (me_z g41_l1 hm41)
    | succ n41 ih41 =>
      intro y41_l1 u H locs ls g41_l1 hP hD hS hl hm41
      refine lv_iload_n hx hb dX5_readAll_41 rfl (lv_at hl 1 rfl) ?_
      refine lv_bipush (v := 120) hx hb dX5_readAll_42 (by decide) ?_
      refine lv_icmp_ge (tgt := 77) hx hb dX5_readAll_44 (by decide) (fun c41828 => ?_) (fun c41828 => ?_)
      · have g41829 : Rg 120 120 y41_l1 := rg_ler (by decide : Rg 120 120 (120 : Int32)) g41_l1 c41828 (by decide)
        refine lv_aload_n hx hb dX5_readAll_77 rfl (lv_at hl 0 rfl) ?_
        refine va_get (D := D) (ci := 5) (v := .int (u 23 5)) (C := RX5) (T := TX5) (N := 8) hx hb hts hin5 hown hK hP 23 rfl rfl 5 (by decide) (hts (.fieldLink RX5 36 "MissedPoints$Reader" "token" "I") (by decide +kernel)) (fun _ h9 => h9) rfl dX5_readAll_78 ?_
        refine wk_any (fun r41830 => ?_)
        refine lv_iconst (v := (-1)) hx hb dX5_readAll_81 (by decide) ?_
        refine lv_icmp_eq (tgt := 89) hx hb dX5_readAll_82 (by decide) (fun c41831 => ?_) (fun c41831 => ?_)
        · have g41832 : Rg (-1) (-1) r41830 := wk_eql (rg_any r41830) (by decide : Rg (-1) (-1) ((-1) : Int32)) c41831 (by decide)
          refine lv_aload_n hx hb dX5_readAll_89 rfl (lv_at hl 0 rfl) ?_
          refine va_get (D := D) (ci := 5) (v := .int (u 23 7)) (C := RX5) (T := TX5) (N := 8) hx hb hts hin5 hown hK hP 23 rfl rfl 7 (by decide) (hts (.fieldLink RX5 27 "MissedPoints$Reader" "fault" "I") (by decide +kernel)) (fun _ h9 => h9) rfl dX5_readAll_90 ?_
          refine wk_any (fun r41833 => ?_)
          subst hAe
          exact W.iret (v := r41833) hx hb hr (fun t ht hW => ⟨⟨_, u, rfl, ⟨(rg_any r41833), trivial⟩, by rw [ht]; exact hP, hD⟩, hS.F ht⟩) hS.2.2 dX5_readAll_93
        · refine lv_aload_n hx hb dX5_readAll_85 rfl (lv_at hl 0 rfl) ?_
          refine wk_qv (wX cI cS a na nc N L) u (As := []) (rest := []) ⟨hx, hb, hml, hown, hts⟩ (k_X5_fail l D cI cS _ a na nc N L u hL hN) hKK hP hD hS hA 23 (ci := 5) rfl rfl (cwV 0 hts gX5_readAll_X5_fail rfl rfl rfl (by decide +kernel) ⟨Nat.le_of_ble_eq_true rfl, Nat.le_of_ble_eq_true rfl⟩) rfl hl.1 rfl (Nat.le_of_ble_eq_true rfl) dX5_readAll_86 ⟨Nat.le_of_ble_eq_true rfl, Nat.le_of_ble_eq_true rfl⟩ (fun u H locs hr41834 hP hD hS => ?_)
          refine lv_aload_n hx hb dX5_readAll_89 rfl (lv_at hl 0 rfl) ?_
          refine va_get (D := D) (ci := 5) (v := .int (u 23 7)) (C := RX5) (T := TX5) (N := 8) hx hb hts hin5 hown hK hP 23 rfl rfl 7 (by decide) (hts (.fieldLink RX5 27 "MissedPoints$Reader" "fault" "I") (by decide +kernel)) (fun _ h9 => h9) rfl dX5_readAll_90 ?_
          refine wk_any (fun r41835 => ?_)
          subst hAe
          exact W.iret (v := r41835) hx hb hr (fun t ht hW => ⟨⟨_, u, rfl, ⟨(rg_any r41835), trivial⟩, by rw [ht]; exact hP, hD⟩, hS.F ht⟩) hS.2.2 dX5_readAll_93
      · have g41836 : Rg 0 119 y41_l1 := rg_ltl g41_l1 (by decide : Rg 120 120 (120 : Int32)) (rg_nle c41828) (by decide)
        refine lv_aload_n hx hb dX5_readAll_47 rfl (lv_at hl 0 rfl) ?_
        refine va_get (D := D) (ci := 5) (v := .int (u 23 7)) (C := RX5) (T := TX5) (N := 8) hx hb hts hin5 hown hK hP 23 rfl rfl 7 (by decide) (hts (.fieldLink RX5 27 "MissedPoints$Reader" "fault" "I") (by decide +kernel)) (fun _ h9 => h9) rfl dX5_readAll_48 ?_
        refine wk_any (fun r41837 => ?_)
        refine lv_if_ge (tgt := 77) hx hb dX5_readAll_51 (by decide) (fun c41838 => ?_) (fun c41838 => ?_)
        · have g41839 : Rg 0 2147483647 r41837 := rg_ler (by decide : Rg 0 0 (0 : Int32)) (rg_any r41837) c41838 (by decide)
          refine lv_aload_n hx hb dX5_readAll_77 rfl (lv_at hl 0 rfl) ?_
          refine va_get (D := D) (ci := 5) (v := .int (u 23 5)) (C := RX5) (T := TX5) (N := 8) hx hb hts hin5 hown hK hP 23 rfl rfl 5 (by decide) (hts (.fieldLink RX5 36 "MissedPoints$Reader" "token" "I") (by decide +kernel)) (fun _ h9 => h9) rfl dX5_readAll_78 ?_
          refine wk_any (fun r41840 => ?_)
          refine lv_iconst (v := (-1)) hx hb dX5_readAll_81 (by decide) ?_
          refine lv_icmp_eq (tgt := 89) hx hb dX5_readAll_82 (by decide) (fun c41841 => ?_) (fun c41841 => ?_)
          · have g41842 : Rg (-1) (-1) r41840 := wk_eql (rg_any r41840) (by decide : Rg (-1) (-1) ((-1) : Int32)) c41841 (by decide)
            refine lv_aload_n hx hb dX5_readAll_89 rfl (lv_at hl 0 rfl) ?_
            refine va_get (D := D) (ci := 5) (v := .int (u 23 7)) (C := RX5) (T := TX5) (N := 8) hx hb hts hin5 hown hK hP 23 rfl rfl 7 (by decide) (hts (.fieldLink RX5 27 "MissedPoints$Reader" "fault" "I") (by decide +kernel)) (fun _ h9 => h9) rfl dX5_readAll_90 ?_
            refine wk_any (fun r41843 => ?_)
            subst hAe
            exact W.iret (v := r41843) hx hb hr (fun t ht hW => ⟨⟨_, u, rfl, ⟨(rg_any r41843), trivial⟩, by rw [ht]; exact hP, hD⟩, hS.F ht⟩) hS.2.2 dX5_readAll_93
          · refine lv_aload_n hx hb dX5_readAll_85 rfl (lv_at hl 0 rfl) ?_
            refine wk_qv (wX cI cS a na nc N L) u (As := []) (rest := []) ⟨hx, hb, hml, hown, hts⟩ (k_X5_fail l D cI cS _ a na nc N L u hL hN) hKK hP hD hS hA 23 (ci := 5) rfl rfl (cwV 0 hts gX5_readAll_X5_fail rfl rfl rfl (by decide +kernel) ⟨Nat.le_of_ble_eq_true rfl, Nat.le_of_ble_eq_true rfl⟩) rfl hl.1 rfl (Nat.le_of_ble_eq_true rfl) dX5_readAll_86 ⟨Nat.le_of_ble_eq_true rfl, Nat.le_of_ble_eq_true rfl⟩ (fun u H locs hr41844 hP hD hS => ?_)
            refine lv_aload_n hx hb dX5_readAll_89 rfl (lv_at hl 0 rfl) ?_
            refine va_get (D := D) (ci := 5) (v := .int (u 23 7)) (C := RX5) (T := TX5) (N := 8) hx hb hts hin5 hown hK hP 23 rfl rfl 7 (by decide) (hts (.fieldLink RX5 27 "MissedPoints$Reader" "fault" "I") (by decide +kernel)) (fun _ h9 => h9) rfl dX5_readAll_90 ?_
            refine wk_any (fun r41845 => ?_)
            subst hAe
            exact W.iret (v := r41845) hx hb hr (fun t ht hW => ⟨⟨_, u, rfl, ⟨(rg_any r41845), trivial⟩, by rw [ht]; exact hP, hD⟩, hS.F ht⟩) hS.2.2 dX5_readAll_93
        · have g41846 : Rg (-2147483648) (-1) r41837 := rg_ltl (rg_any r41837) (by decide : Rg 0 0 (0 : Int32)) (rg_nle c41838) (by decide)
          refine lv_aload_n hx hb dX5_readAll_54 rfl (lv_at hl 0 rfl) ?_
          refine va_get (D := D) (ci := 5) (v := .int (u 23 5)) (C := RX5) (T := TX5) (N := 8) hx hb hts hin5 hown hK hP 23 rfl rfl 5 (by decide) (hts (.fieldLink RX5 36 "MissedPoints$Reader" "token" "I") (by decide +kernel)) (fun _ h9 => h9) rfl dX5_readAll_55 ?_
          refine wk_any (fun r41847 => ?_)
          refine lv_bipush (v := 44) hx hb dX5_readAll_58 (by decide) ?_
          refine lv_icmp_ne (tgt := 77) hx hb dX5_readAll_60 (by decide) (fun c41848 => ?_) (fun c41848 => ?_)
          · refine lv_aload_n hx hb dX5_readAll_77 rfl (lv_at hl 0 rfl) ?_
            refine va_get (D := D) (ci := 5) (v := .int (u 23 5)) (C := RX5) (T := TX5) (N := 8) hx hb hts hin5 hown hK hP 23 rfl rfl 5 (by decide) (hts (.fieldLink RX5 36 "MissedPoints$Reader" "token" "I") (by decide +kernel)) (fun _ h9 => h9) rfl dX5_readAll_78 ?_
            refine wk_any (fun r41849 => ?_)
            refine lv_iconst (v := (-1)) hx hb dX5_readAll_81 (by decide) ?_
            refine lv_icmp_eq (tgt := 89) hx hb dX5_readAll_82 (by decide) (fun c41850 => ?_) (fun c41850 => ?_)
            · have g41851 : Rg (-1) (-1) r41849 := wk_eql (rg_any r41849) (by decide : Rg (-1) (-1) ((-1) : Int32)) c41850 (by decide)
              refine lv_aload_n hx hb dX5_readAll_89 rfl (lv_at hl 0 rfl) ?_
              refine va_get (D := D) (ci := 5) (v := .int (u 23 7)) (C := RX5) (T := TX5) (N := 8) hx hb hts hin5 hown hK hP 23 rfl rfl 7 (by decide) (hts (.fieldLink RX5 27 "MissedPoints$Reader" "fault" "I") (by decide +kernel)) (fun _ h9 => h9) rfl dX5_readAll_90 ?_
              refine wk_any (fun r41852 => ?_)
              subst hAe
              exact W.iret (v := r41852) hx hb hr (fun t ht hW => ⟨⟨_, u, rfl, ⟨(rg_any r41852), trivial⟩, by rw [ht]; exact hP, hD⟩, hS.F ht⟩) hS.2.2 dX5_readAll_93
            · refine lv_aload_n hx hb dX5_readAll_85 rfl (lv_at hl 0 rfl) ?_
              refine wk_qv (wX cI cS a na nc N L) u (As := []) (rest := []) ⟨hx, hb, hml, hown, hts⟩ (k_X5_fail l D cI cS _ a na nc N L u hL hN) hKK hP hD hS hA 23 (ci := 5) rfl rfl (cwV 0 hts gX5_readAll_X5_fail rfl rfl rfl (by decide +kernel) ⟨Nat.le_of_ble_eq_true rfl, Nat.le_of_ble_eq_true rfl⟩) rfl hl.1 rfl (Nat.le_of_ble_eq_true rfl) dX5_readAll_86 ⟨Nat.le_of_ble_eq_true rfl, Nat.le_of_ble_eq_true rfl⟩ (fun u H locs hr41853 hP hD hS => ?_)
              refine lv_aload_n hx hb dX5_readAll_89 rfl (lv_at hl 0 rfl) ?_
              refine va_get (D := D) (ci := 5) (v := .int (u 23 7)) (C := RX5) (T := TX5) (N := 8) hx hb hts hin5 hown hK hP 23 rfl rfl 7 (by decide) (hts (.fieldLink RX5 27 "MissedPoints$Reader" "fault" "I") (by decide +kernel)) (fun _ h9 => h9) rfl dX5_readAll_90 ?_
              refine wk_any (fun r41854 => ?_)
              subst hAe
              exact W.iret (v := r41854) hx hb hr (fun t ht hW => ⟨⟨_, u, rfl, ⟨(rg_any r41854), trivial⟩, by rw [ht]; exact hP, hD⟩, hS.F ht⟩) hS.2.2 dX5_readAll_93
          · have g41855 : Rg 44 44 r41847 := wk_eql (rg_any r41847) (by decide : Rg 44 44 (44 : Int32)) c41848 (by decide)
            refine lv_aload_n hx hb dX5_readAll_63 rfl (lv_at hl 0 rfl) ?_
            refine wk_qv (wX cI cS a na nc N L) u (As := []) (rest := []) ⟨hx, hb, hml, hown, hts⟩ (k_X5_step l D cI cS _ a na nc N L u hL hN) hKK hP hD hS hA 23 (ci := 5) rfl rfl (cwV 0 hts gX5_readAll_X5_step rfl rfl rfl (by decide +kernel) ⟨Nat.le_of_ble_eq_true rfl, Nat.le_of_ble_eq_true rfl⟩) rfl hl.1 rfl (Nat.le_of_ble_eq_true rfl) dX5_readAll_64 ⟨Nat.le_of_ble_eq_true rfl, Nat.le_of_ble_eq_true rfl⟩ (fun u H locs hr41856 hP hD hS => ?_)
            refine lv_aload_n hx hb dX5_readAll_67 rfl (lv_at hl 0 rfl) ?_
            refine wk_qv (wX cI cS a na nc N L) u (As := []) (rest := []) ⟨hx, hb, hml, hown, hts⟩ (k_X5_readItem l D cI cS _ a na nc N L u hL hN) hKK hP hD hS hA 23 (ci := 5) rfl rfl (cwV 0 hts gX5_readAll_X5_readItem rfl rfl rfl (by decide +kernel) ⟨Nat.le_of_ble_eq_true rfl, Nat.le_of_ble_eq_true rfl⟩) rfl hl.1 rfl (Nat.le_of_ble_eq_true rfl) dX5_readAll_68 ⟨Nat.le_of_ble_eq_true rfl, Nat.le_of_ble_eq_true rfl⟩ (fun u H locs hr41857 hP hD hS => ?_)
            refine wk_iinc (lv' := fun r => [(1, .int r), (0, .ref (a 23))]) (e1 := 1) (f := 120) hx hb dX5_readAll_71 hl (k := 1) rfl (by decide) g41836 (by decide) (fun _ => rfl) (fun r41858 ls hr41858 er41858 hl => ?_)
            refine lv_goto (tgt := 41) hx hb dX5_readAll_74 (by decide) ?_
            exact ih41 r41858 u _ _ ls (show Rg 0 120 r41858 from rg_w hr41858 (by decide) (by decide)) hP hD hS (lv_sub (l' := [(0, .ref (a 23)), (1, .int r41858)]) hl [1, 0] rfl) (me_up hm41 er41858 (by decide))
  have lp2 : ∀ (n2 : Nat) (y2_l1 : Int32) (u : SU) (H : Heap) (locs : List Loc) (ls : Array Slot), Rg 0 12 y2_l1 → va_P D cls (wX cI cS a na nc N L u) H → va_D A (wX cI cS a na nc N L u) → va_S A s.heap H locs → lv_has ls 2 [(0, .ref (a 23)), (1, .int y2_l1)] → 12 - y2_l1.toInt < (n2 : Int) → W p l e (headSpec wsX5_readAll ({ frames := 5, cells := 0, slots := 0, locals := 200 })).room s m ([.ref (a 23)]).toArray below meth c H locs 0 0 (MQ below (QF (S := SU) D (wX cI cS a na nc N L u0) (wX cI cS a na nc N L) s.heap.size (fun r _ => Rg (-2147483648) 2147483647 r ∧ True)) ([.ref (a 23)]).toArray s 0 0 (va_A (wX cI cS a na nc N L u0) s.heap.size)) (F0 m 2 ls []) := by
    intro n2
    induction n2 with
    | zero =>
      intro y2_l1 u H locs ls g2_l1 hP hD hS hl hm2
      exact absurd rfl (me_z g2_l1 hm2)
    | succ n2 ih2 =>
      intro y2_l1 u H locs ls g2_l1 hP hD hS hl hm2
      refine lv_iload_n hx hb dX5_readAll_2 rfl (lv_at hl 1 rfl) ?_
      refine lv_bipush (v := 12) hx hb dX5_readAll_3 (by decide) ?_
      refine lv_icmp_ge (tgt := 21) hx hb dX5_readAll_5 (by decide) (fun c41859 => ?_) (fun c41859 => ?_)
      · have g41860 : Rg 12 12 y2_l1 := rg_ler (by decide : Rg 12 12 (12 : Int32)) g2_l1 c41859 (by decide)
        refine lv_aload_n hx hb dX5_readAll_21 rfl (lv_at hl 0 rfl) ?_
        refine lv_iconst (v := 0) hx hb dX5_readAll_22 (by decide) ?_
        refine va_put (D := D) (ci := 5) (v := .int 0) (ty := .int) (C := RX5) (T := TX5) (N := 8) hx hb hts hin5 tyX5 tyX5_ok nmX5 hown hK hP hD hS 23 rfl rfl 3 (by decide) (hts (.fieldLink RX5 23 "MissedPoints$Reader" "at" "I") (by decide +kernel)) (fun _ h9 => h9) rfl (by decide +kernel) rfl rfl (Nat.le_of_ble_eq_true rfl) dX5_readAll_23 (fun H locs hP hD hS => ?_)
        rw [sxf_23_3] at hP hD
        generalize sU u 23 _ = u at hP hD
        refine lv_aload_n hx hb dX5_readAll_26 rfl (lv_at hl 0 rfl) ?_
        refine lv_iconst (v := (-1)) hx hb dX5_readAll_27 (by decide) ?_
        refine va_put (D := D) (ci := 5) (v := .int (-1)) (ty := .int) (C := RX5) (T := TX5) (N := 8) hx hb hts hin5 tyX5 tyX5_ok nmX5 hown hK hP hD hS 23 rfl rfl 7 (by decide) (hts (.fieldLink RX5 27 "MissedPoints$Reader" "fault" "I") (by decide +kernel)) (fun _ h9 => h9) rfl (by decide +kernel) rfl rfl (Nat.le_of_ble_eq_true rfl) dX5_readAll_28 (fun H locs hP hD hS => ?_)
        rw [sxf_23_7] at hP hD
        generalize sU u 23 _ = u at hP hD
        refine lv_aload_n hx hb dX5_readAll_31 rfl (lv_at hl 0 rfl) ?_
        refine wk_qv (wX cI cS a na nc N L) u (As := []) (rest := []) ⟨hx, hb, hml, hown, hts⟩ (k_X5_step l D cI cS _ a na nc N L u hL hN) hKK hP hD hS hA 23 (ci := 5) rfl rfl (cwV 0 hts gX5_readAll_X5_step rfl rfl rfl (by decide +kernel) ⟨Nat.le_of_ble_eq_true rfl, Nat.le_of_ble_eq_true rfl⟩) rfl hl.1 rfl (Nat.le_of_ble_eq_true rfl) dX5_readAll_32 ⟨Nat.le_of_ble_eq_true rfl, Nat.le_of_ble_eq_true rfl⟩ (fun u H locs hr41861 hP hD hS => ?_)
        refine lv_aload_n hx hb dX5_readAll_35 rfl (lv_at hl 0 rfl) ?_
        refine wk_qv (wX cI cS a na nc N L) u (As := []) (rest := []) ⟨hx, hb, hml, hown, hts⟩ (k_X5_readItem l D cI cS _ a na nc N L u hL hN) hKK hP hD hS hA 23 (ci := 5) rfl rfl (cwV 0 hts gX5_readAll_X5_readItem rfl rfl rfl (by decide +kernel) ⟨Nat.le_of_ble_eq_true rfl, Nat.le_of_ble_eq_true rfl⟩) rfl hl.1 rfl (Nat.le_of_ble_eq_true rfl) dX5_readAll_36 ⟨Nat.le_of_ble_eq_true rfl, Nat.le_of_ble_eq_true rfl⟩ (fun u H locs hr41862 hP hD hS => ?_)
        refine lv_iconst (v := 0) hx hb dX5_readAll_39 (by decide) ?_
        refine lv_istore_n (lv' := [(1, .int 0), (0, .ref (a 23))]) hx hb dX5_readAll_40 rfl hl (by decide) rfl (fun ls hl => ?_)
        exact lp41 121 (0 : Int32) u _ _ ls (by decide : Rg 0 120 (0 : Int32)) hP hD hS (lv_sub (l' := [(0, .ref (a 23)), (1, .int 0)]) hl [1, 0] rfl) (me_i (by decide : Rg 0 120 (0 : Int32)) (by decide))
      · have g41863 : Rg 0 11 y2_l1 := rg_ltl g2_l1 (by decide : Rg 12 12 (12 : Int32)) (rg_nle c41859) (by decide)
        refine lv_aload_n hx hb dX5_readAll_8 rfl (lv_at hl 0 rfl) ?_
        refine va_get (D := D) (ci := 5) (v := .ref (a 24)) (C := RX5) (T := TX5) (N := 8) hx hb hts hin5 hown hK hP 23 rfl rfl 2 (by decide) (hts (.fieldLink RX5 9 "MissedPoints$Reader" "links" "[I") (by decide +kernel)) (fun _ h9 => h9) rfl dX5_readAll_9 ?_
        refine lv_iload_n hx hb dX5_readAll_12 rfl (lv_at hl 1 rfl) ?_
        refine lv_iconst (v := 0) hx hb dX5_readAll_13 (by decide) ?_
        refine ks_ast hx hb hK hP hD hS rfl (k := 24) rfl sx_24 (rg_in g41863 (by decide) (by decide)) dX5_readAll_14 (fun u H locs hP hD hS => ?_)
        refine wk_iinc (lv' := fun r => [(1, .int r), (0, .ref (a 23))]) (e1 := 1) (f := 12) hx hb dX5_readAll_15 hl (k := 1) rfl (by decide) g41863 (by decide) (fun _ => rfl) (fun r41864 ls hr41864 er41864 hl => ?_)
        refine lv_goto (tgt := 2) hx hb dX5_readAll_18 (by decide) ?_
        exact ih2 r41864 u _ _ ls (show Rg 0 12 r41864 from rg_w hr41864 (by decide) (by decide)) hP hD hS (lv_sub (l' := [(0, .ref (a 23)), (1, .int r41864)]) hl [1, 0] rfl) (me_up hm2 er41864 (by decide))
  refine lv_iconst (v := 0) hx hb dX5_readAll_0 (by decide) ?_
  refine lv_istore_n (lv' := [(1, .int 0), (0, .ref (a 23))]) hx hb dX5_readAll_1 rfl hl (by decide) rfl (fun ls hl => ?_)
  exact lp2 13 (0 : Int32) u _ _ ls (by decide : Rg 0 12 (0 : Int32)) hP hD hS (lv_sub (l' := [(0, .ref (a 23)), (1, .int 0)]) hl [1, 0] rfl) (me_i (by decide : Rg 0 12 (0 : Int32)) (by decide))
set_option maxHeartbeats 4000000 in
set_option maxRecDepth 100000 in
theorem k_X9_becomeFirst (l : Launch) (D : va_G) (cI cS : ClassId) (sz : Nat) (a : Nat → Nat) (na nc N : Nat) (L u0 : SU) (hL : TyX L) (hN : N = 0 ∨ N = 24576) : Met l yX9_becomeFirst wsX9_becomeFirst ({ frames := 18, cells := 0, slots := 0, locals := 720 }) (PQ D cI cS (wX cI cS a na nc N L u0) sz [.ref (a 34)]) (QE (S := SU) D (wX cI cS a na nc N L u0) (wX cI cS a na nc N L) sz (fun _ => True)) 0 0 (va_A (wX cI cS a na nc N L u0) sz) := by
  refine Met.ofW (cc := cX9_becomeFirst) (maxL := 1) (ret := none) (by decide) rfl ?_
  intro p e s m args below meth c s₁ B hml hv
  obtain ⟨rfl, hsz, hP, hKK, hD0⟩ := hv
  have hx := B.exec
  have hb := B.bytes
  have hr := B.returns
  have hts := atoms_spec (ws := wsX9_becomeFirst) B.pre
  have hown : s.vm.findClass RX9 = some m.cls := findClass_of_methodNamed B.named
  have hlocks := B.notSynchronized
  have hK := hKK.1
  have hin9 : ∀ w ∈ wsX90, w ∈ wsX9_becomeFirst := by decide +kernel
  subst hsz
  have hD := hD0.self (sz := s.heap.size)
  obtain ⟨A, hAe⟩ : ∃ A, A = va_A (wX cI cS a na nc N L u0) s.heap.size := ⟨_, rfl⟩
  rw [← hAe] at hD
  have hA : ∀ q : Nat, s.heap.size ≤ q → A q := fun q h => by rw [hAe]; exact Or.inr h
  have hS : va_S A s.heap s.heap [] := va_S.rf
  have hl := lv_entry ([.ref (a 34)]) (n := 1) (Nat.le_of_ble_eq_true rfl)
  rw [lg_entry_eq]
  generalize (lg_sl ([.ref (a 34)]) ++ List.replicate (1 - (lg_sl ([.ref (a 34)])).length) Slot.unset).toArray = ls at hl ⊢
  have hl : lv_has ls 1 [(0, .ref (a 34))] := hl
  obtain ⟨u, hu9⟩ : ∃ u : SU, u = u0 := ⟨_, rfl⟩
  rw [← hu9] at hP hD
  refine lv_aload_n hx hb dX9_becomeFirst_0 rfl (lv_at hl 0 rfl) ?_
  refine va_get (D := D) (ci := 9) (v := .ref (a 7)) (C := RX9) (T := TX9) (N := 6) hx hb hts hin9 hown hK hP 34 rfl rfl 1 (by decide) (hts (.fieldLink RX9 25 "MissedPoints$Told" "pairs" "LMissedPoints$Pairs;") (by decide +kernel)) (fun _ h9 => h9) rfl dX9_becomeFirst_1 ?_
  refine lv_aload_n hx hb dX9_becomeFirst_4 rfl (lv_at hl 0 rfl) ?_
  refine va_get (D := D) (ci := 9) (v := .ref (a 35)) (C := RX9) (T := TX9) (N := 6) hx hb hts hin9 hown hK hP 34 rfl rfl 2 (by decide) (hts (.fieldLink RX9 9 "MissedPoints$Told" "mates" "[I") (by decide +kernel)) (fun _ h9 => h9) rfl dX9_becomeFirst_5 ?_
  refine wk_qv (wX cI cS a na nc N L) u (As := [.ref (a 35)]) (rest := []) ⟨hx, hb, hml, hown, hts⟩ (k_X3_layFirst l D cI cS _ a na nc N L u hL hN) hKK hP hD hS hA 7 (ci := 3) rfl rfl (cwV 1 hts gX9_becomeFirst_X3_layFirst rfl rfl rfl (by decide +kernel) ⟨Nat.le_of_ble_eq_true rfl, Nat.le_of_ble_eq_true rfl⟩) rfl hl.1 rfl (Nat.le_of_ble_eq_true rfl) dX9_becomeFirst_8 ⟨Nat.le_of_ble_eq_true rfl, Nat.le_of_ble_eq_true rfl⟩ (fun u H locs hr41866 hP hD hS => ?_)
  subst hAe
  exact W.vret hx hb hr (fun t ht hW => ⟨⟨u, rfl, trivial, by rw [ht]; exact hP, hD⟩, hS.F ht⟩) hS.2.2 dX9_becomeFirst_11
theorem dX9_mateOf_0 : decode cX9_mateOf 0 = .ok (.iload_n 1, 1) := by decide +kernel
theorem dX9_mateOf_1 : decode cX9_mateOf 1 = .ok (.ifCond .lt 18, 3) := by decide +kernel
theorem dX9_mateOf_10 : decode cX9_mateOf 10 = .ok (.aload_n 0, 1) := by decide +kernel
theorem dX9_mateOf_11 : decode cX9_mateOf 11 = .ok (.getfield 9, 3) := by decide +kernel
theorem dX9_mateOf_14 : decode cX9_mateOf 14 = .ok (.iload_n 1, 1) := by decide +kernel
theorem dX9_mateOf_15 : decode cX9_mateOf 15 = .ok (.iaload, 1) := by decide +kernel
theorem dX9_mateOf_16 : decode cX9_mateOf 16 = .ok (.goto 4, 3) := by decide +kernel
theorem dX9_mateOf_19 : decode cX9_mateOf 19 = .ok (.iconst (-1), 1) := by decide +kernel
theorem dX9_mateOf_20 : decode cX9_mateOf 20 = .ok (.ireturn, 1) := by decide +kernel
theorem dX9_mateOf_4 : decode cX9_mateOf 4 = .ok (.iload_n 1, 1) := by decide +kernel
theorem dX9_mateOf_5 : decode cX9_mateOf 5 = .ok (.bipush 12, 2) := by decide +kernel
theorem dX9_mateOf_7 : decode cX9_mateOf 7 = .ok (.if_icmp .ge 12, 3) := by decide +kernel
set_option maxHeartbeats 4000000 in
set_option maxRecDepth 100000 in
theorem k_X9_mateOf (l : Launch) (D : va_G) (cI cS : ClassId) (a : Nat → Nat) (na nc N : Nat) (L u : SU) (hL : TyX L) (hN : N = 0 ∨ N = 24576) (x0 : Int32) : Met l yX9_mateOf wsX9_mateOf ({ frames := 0, cells := 0, slots := 0, locals := 0 }) (PS D cI cS (wX cI cS a na nc N L u) [.ref (a 34), .int x0]) (vp_Si (fun r => Rg (-2147483648) 2147483647 r ∧ True)) 0 0 (fun _ => False) := by
  refine Met.ofW (cc := cX9_mateOf) (maxL := 2) (ret := (some .int)) (by decide) rfl ?_
  intro p e s m args below meth c s₁ B hml hv
  obtain ⟨rfl, hP, hKK⟩ := hv
  have hx := B.exec
  have hb := B.bytes
  have hr := B.returns
  have hts := atoms_spec (ws := wsX9_mateOf) B.pre
  have hown : s.vm.findClass RX9 = some m.cls := findClass_of_methodNamed B.named
  have hlocks := B.notSynchronized
  have hK := hKK.1
  have hin9 : ∀ w ∈ wsX90, w ∈ wsX9_mateOf := by decide +kernel
  have hl := lv_entry ([.ref (a 34), .int x0]) (n := 2) (Nat.le_of_ble_eq_true rfl)
  rw [lg_entry_eq]
  generalize (lg_sl ([.ref (a 34), .int x0]) ++ List.replicate (2 - (lg_sl ([.ref (a 34), .int x0])).length) Slot.unset).toArray = ls at hl ⊢
  have hl : lv_has ls 2 [(0, .ref (a 34)), (1, .int x0)] := hl
  refine lv_iload_n hx hb dX9_mateOf_0 rfl (lv_at hl 1 rfl) ?_
  refine lv_if_lt (tgt := 19) hx hb dX9_mateOf_1 (by decide) (fun c41874 => ?_) (fun c41874 => ?_)
  · have g41875 : Rg (-2147483648) (-1) x0 := rg_ltl (rg_any x0) (by decide : Rg 0 0 (0 : Int32)) c41874 (by decide)
    refine lv_iconst (v := (-1)) hx hb dX9_mateOf_19 (by decide) ?_
    exact W.iret (v := (-1)) hx hb hr (fun t ht hW => ⟨_, rfl, ⟨(by decide : Rg (-2147483648) 2147483647 ((-1) : Int32)), trivial⟩, ht⟩) (fun q hq => absurd hq List.not_mem_nil) dX9_mateOf_20
  · have g41876 : Rg 0 2147483647 x0 := rg_ler (by decide : Rg 0 0 (0 : Int32)) (rg_any x0) (rg_nlt c41874) (by decide)
    refine lv_iload_n hx hb dX9_mateOf_4 rfl (lv_at hl 1 rfl) ?_
    refine lv_bipush (v := 12) hx hb dX9_mateOf_5 (by decide) ?_
    refine lv_icmp_ge (tgt := 19) hx hb dX9_mateOf_7 (by decide) (fun c41877 => ?_) (fun c41877 => ?_)
    · have g41878 : Rg 12 2147483647 x0 := rg_ler (by decide : Rg 12 12 (12 : Int32)) g41876 c41877 (by decide)
      refine lv_iconst (v := (-1)) hx hb dX9_mateOf_19 (by decide) ?_
      exact W.iret (v := (-1)) hx hb hr (fun t ht hW => ⟨_, rfl, ⟨(by decide : Rg (-2147483648) 2147483647 ((-1) : Int32)), trivial⟩, ht⟩) (fun q hq => absurd hq List.not_mem_nil) dX9_mateOf_20
    · have g41879 : Rg 0 11 x0 := rg_ltl g41876 (by decide : Rg 12 12 (12 : Int32)) (rg_nle c41877) (by decide)
      refine lv_aload_n hx hb dX9_mateOf_10 rfl (lv_at hl 0 rfl) ?_
      refine va_get (D := D) (ci := 9) (v := .ref (a 35)) (C := RX9) (T := TX9) (N := 6) hx hb hts hin9 hown hK hP 34 rfl rfl 2 (by decide) (hts (.fieldLink RX9 9 "MissedPoints$Told" "mates" "[I") (by decide +kernel)) (fun _ h9 => h9) rfl dX9_mateOf_11 ?_
      refine lv_iload_n hx hb dX9_mateOf_14 rfl (lv_at hl 1 rfl) ?_
      refine wk_aldA hx hb hK hP 35 0 rfl rfl (rg_in g41879 (by decide) (by decide)) dX9_mateOf_15 (fun r41880 => ?_)
      refine lv_goto (tgt := 20) hx hb dX9_mateOf_16 (by decide) ?_
      exact W.iret (v := r41880) hx hb hr (fun t ht hW => ⟨_, rfl, ⟨(rg_any r41880), trivial⟩, ht⟩) (fun q hq => absurd hq List.not_mem_nil) dX9_mateOf_20
theorem dX9_missed_0 : decode cX9_missed 0 = .ok (.iconst 0, 1) := by decide +kernel
theorem dX9_missed_1 : decode cX9_missed 1 = .ok (.istore_n 1, 1) := by decide +kernel
theorem dX9_missed_12 : decode cX9_missed 12 = .ok (.if_icmp .ge 24, 3) := by decide +kernel
theorem dX9_missed_15 : decode cX9_missed 15 = .ok (.aload_n 0, 1) := by decide +kernel
theorem dX9_missed_16 : decode cX9_missed 16 = .ok (.getfield 9, 3) := by decide +kernel
theorem dX9_missed_19 : decode cX9_missed 19 = .ok (.iload_n 2, 1) := by decide +kernel
theorem dX9_missed_2 : decode cX9_missed 2 = .ok (.iconst 0, 1) := by decide +kernel
theorem dX9_missed_20 : decode cX9_missed 20 = .ok (.iaload, 1) := by decide +kernel
theorem dX9_missed_21 : decode cX9_missed 21 = .ok (.ifCond .ge 9, 3) := by decide +kernel
theorem dX9_missed_24 : decode cX9_missed 24 = .ok (.iload_n 1, 1) := by decide +kernel
theorem dX9_missed_25 : decode cX9_missed 25 = .ok (.iconst 1, 1) := by decide +kernel
theorem dX9_missed_26 : decode cX9_missed 26 = .ok (.iload_n 2, 1) := by decide +kernel
theorem dX9_missed_27 : decode cX9_missed 27 = .ok (.ishl, 1) := by decide +kernel
theorem dX9_missed_28 : decode cX9_missed 28 = .ok (.ior, 1) := by decide +kernel
theorem dX9_missed_29 : decode cX9_missed 29 = .ok (.istore_n 1, 1) := by decide +kernel
theorem dX9_missed_3 : decode cX9_missed 3 = .ok (.istore_n 2, 1) := by decide +kernel
theorem dX9_missed_30 : decode cX9_missed 30 = .ok (.iinc 2 1, 3) := by decide +kernel
theorem dX9_missed_33 : decode cX9_missed 33 = .ok (.goto (-29), 3) := by decide +kernel
theorem dX9_missed_36 : decode cX9_missed 36 = .ok (.iload_n 1, 1) := by decide +kernel
theorem dX9_missed_37 : decode cX9_missed 37 = .ok (.ireturn, 1) := by decide +kernel
theorem dX9_missed_4 : decode cX9_missed 4 = .ok (.iload_n 2, 1) := by decide +kernel
theorem dX9_missed_5 : decode cX9_missed 5 = .ok (.aload_n 0, 1) := by decide +kernel
theorem dX9_missed_6 : decode cX9_missed 6 = .ok (.getfield 21, 3) := by decide +kernel
theorem dX9_missed_9 : decode cX9_missed 9 = .ok (.getfield 41, 3) := by decide +kernel
set_option maxHeartbeats 4000000 in
set_option maxRecDepth 100000 in
theorem k_X9_missed (l : Launch) (D : va_G) (cI cS : ClassId) (a : Nat → Nat) (na nc N : Nat) (L u : SU) (hL : TyX L) (hN : N = 0 ∨ N = 24576) : Met l yX9_missed wsX9_missed ({ frames := 0, cells := 0, slots := 0, locals := 0 }) (PS D cI cS (wX cI cS a na nc N L u) [.ref (a 34)]) (vp_Si (fun r => Rg 0 4095 r ∧ True)) 0 0 (fun _ => False) := by
  refine Met.ofW (cc := cX9_missed) (maxL := 3) (ret := (some .int)) (by decide) rfl ?_
  intro p e s m args below meth c s₁ B hml hv
  obtain ⟨rfl, hP, hKK⟩ := hv
  have hx := B.exec
  have hb := B.bytes
  have hr := B.returns
  have hts := atoms_spec (ws := wsX9_missed) B.pre
  have hown : s.vm.findClass RX9 = some m.cls := findClass_of_methodNamed B.named
  have hlocks := B.notSynchronized
  have hK := hKK.1
  have hin2 : ∀ w ∈ wsX20, w ∈ wsX9_missed := by decide +kernel
  have hin9 : ∀ w ∈ wsX90, w ∈ wsX9_missed := by decide +kernel
  have hl := lv_entry ([.ref (a 34)]) (n := 3) (Nat.le_of_ble_eq_true rfl)
  rw [lg_entry_eq]
  generalize (lg_sl ([.ref (a 34)]) ++ List.replicate (3 - (lg_sl ([.ref (a 34)])).length) Slot.unset).toArray = ls at hl ⊢
  have hl : lv_has ls 3 [(0, .ref (a 34))] := hl
  have lp4 : ∀ (n4 : Nat) (y4_l1 : Int32) (y4_l2 : Int32) (ls : Array Slot), Rg 0 4095 y4_l1 → Rg 0 12 y4_l2 → lv_has ls 3 [(0, .ref (a 34)), (1, .int y4_l1), (2, .int y4_l2)] → 12 - y4_l2.toInt < (n4 : Int) → W p l e (headSpec wsX9_missed ({ frames := 0, cells := 0, slots := 0, locals := 0 })).room s m ([.ref (a 34)]).toArray below meth c s.heap [] 0 0 (MQ below (vp_Si (fun r => Rg 0 4095 r ∧ True)) ([.ref (a 34)]).toArray s 0 0 (fun _ => False)) (F0 m 4 ls []) := by
    intro n4
    induction n4 with
    | zero =>
      intro y4_l1 y4_l2 ls g4_l1 g4_l2 hl hm4
      exact absurd rfl (me_z g4_l2 hm4)
    | succ n4 ih4 =>
      intro y4_l1 y4_l2 ls g4_l1 g4_l2 hl hm4
      refine lv_iload_n hx hb dX9_missed_4 rfl (lv_at hl 2 rfl) ?_
      refine lv_aload_n hx hb dX9_missed_5 rfl (lv_at hl 0 rfl) ?_
      refine va_get (D := D) (ci := 9) (v := .ref (a 1)) (C := RX9) (T := TX9) (N := 6) hx hb hts hin9 hown hK hP 34 rfl rfl 0 (by decide) (hts (.fieldLink RX9 21 "MissedPoints$Told" "net" "LMissedPoints$Net;") (by decide +kernel)) (fun _ h9 => h9) rfl dX9_missed_6 ?_
      refine va_getN (D := D) (ci := 2) (v := .int (L 1 1)) (C := RX2) (T := TX2) (N := 3) hx hb hts hin2 hown hK hP 1 rfl rfl 1 (by decide) (va_Nw.use rfl hKK.2.2.2.2.2.2.2.2.2.2.2.2.2.2.2.2.1) (fun _ h9 => h9) rfl dX9_missed_9 ?_
      refine lv_icmp_ge (tgt := 36) hx hb dX9_missed_12 (by decide) (fun c41976 => ?_) (fun c41976 => ?_)
      · refine lv_iload_n hx hb dX9_missed_36 rfl (lv_at hl 1 rfl) ?_
        exact W.iret (v := y4_l1) hx hb hr (fun t ht hW => ⟨_, rfl, ⟨g4_l1, trivial⟩, ht⟩) (fun q hq => absurd hq List.not_mem_nil) dX9_missed_37
      · have g41977 : Rg 1 12 (L 1 1) := rg_ltr g4_l2 hL.1 (rg_nle c41976) (by decide)
        have g41978 : Rg 0 11 y4_l2 := rg_ltl g4_l2 hL.1 (rg_nle c41976) (by decide)
        refine lv_aload_n hx hb dX9_missed_15 rfl (lv_at hl 0 rfl) ?_
        refine va_get (D := D) (ci := 9) (v := .ref (a 35)) (C := RX9) (T := TX9) (N := 6) hx hb hts hin9 hown hK hP 34 rfl rfl 2 (by decide) (hts (.fieldLink RX9 9 "MissedPoints$Told" "mates" "[I") (by decide +kernel)) (fun _ h9 => h9) rfl dX9_missed_16 ?_
        refine lv_iload_n hx hb dX9_missed_19 rfl (lv_at hl 2 rfl) ?_
        refine wk_aldA hx hb hK hP 35 0 rfl rfl (rg_in g41978 (by decide) (by decide)) dX9_missed_20 (fun r41979 => ?_)
        refine lv_if_ge (tgt := 30) hx hb dX9_missed_21 (by decide) (fun c41980 => ?_) (fun c41980 => ?_)
        · have g41981 : Rg 0 2147483647 r41979 := rg_ler (by decide : Rg 0 0 (0 : Int32)) (rg_any r41979) c41980 (by decide)
          refine wk_iinc (lv' := fun r => [(2, .int r), (0, .ref (a 34)), (1, .int y4_l1)]) (e1 := 1) (f := 12) hx hb dX9_missed_30 hl (k := 2) rfl (by decide) g41978 (by decide) (fun _ => rfl) (fun r41982 ls hr41982 er41982 hl => ?_)
          refine lv_goto (tgt := 4) hx hb dX9_missed_33 (by decide) ?_
          exact ih4 y4_l1 r41982 ls g4_l1 (show Rg 0 12 r41982 from rg_w hr41982 (by decide) (by decide)) (lv_sub (l' := [(0, .ref (a 34)), (1, .int y4_l1), (2, .int r41982)]) hl [1, 2, 0] rfl) (me_up hm4 er41982 (by decide))
        · have g41983 : Rg (-2147483648) (-1) r41979 := rg_ltl (rg_any r41979) (by decide : Rg 0 0 (0 : Int32)) (rg_nle c41980) (by decide)
          refine lv_iload_n hx hb dX9_missed_24 rfl (lv_at hl 1 rfl) ?_
          refine lv_iconst (v := 1) hx hb dX9_missed_25 (by decide) ?_
          refine lv_iload_n hx hb dX9_missed_26 rfl (lv_at hl 2 rfl) ?_
          refine wk_ishl1 (f := 2048) hx hb dX9_missed_27 g41978 (by decide) (fun r41984 hr41984 qr41984 => ?_)
          refine wk_ior 12 (e1 := 1) (f := 4095) hx hb dX9_missed_28 g4_l1 hr41984 (by decide) (fun r41985 hr41985 qr41985 => ?_)
          refine lv_istore_n (lv' := [(1, .int r41985), (0, .ref (a 34)), (2, .int y4_l2)]) hx hb dX9_missed_29 rfl hl (by decide) rfl (fun ls hl => ?_)
          refine wk_iinc (lv' := fun r => [(2, .int r), (1, .int r41985), (0, .ref (a 34))]) (e1 := 1) (f := 12) hx hb dX9_missed_30 hl (k := 2) rfl (by decide) g41978 (by decide) (fun _ => rfl) (fun r41986 ls hr41986 er41986 hl => ?_)
          refine lv_goto (tgt := 4) hx hb dX9_missed_33 (by decide) ?_
          exact ih4 r41985 r41986 ls (show Rg 0 4095 r41985 from rg_w hr41985 (by decide) (by decide)) (show Rg 0 12 r41986 from rg_w hr41986 (by decide) (by decide)) (lv_sub (l' := [(0, .ref (a 34)), (1, .int r41985), (2, .int r41986)]) hl [2, 1, 0] rfl) (me_up hm4 er41986 (by decide))
  refine lv_iconst (v := 0) hx hb dX9_missed_0 (by decide) ?_
  refine lv_istore_n (lv' := [(1, .int 0), (0, .ref (a 34))]) hx hb dX9_missed_1 rfl hl (by decide) rfl (fun ls hl => ?_)
  refine lv_iconst (v := 0) hx hb dX9_missed_2 (by decide) ?_
  refine lv_istore_n (lv' := [(2, .int 0), (1, .int 0), (0, .ref (a 34))]) hx hb dX9_missed_3 rfl hl (by decide) rfl (fun ls hl => ?_)
  exact lp4 13 (0 : Int32) (0 : Int32) ls (by decide : Rg 0 4095 (0 : Int32)) (by decide : Rg 0 12 (0 : Int32)) (lv_sub (l' := [(0, .ref (a 34)), (1, .int 0), (2, .int 0)]) hl [2, 1, 0] rfl) (me_i (by decide : Rg 0 12 (0 : Int32)) (by decide))
set_option maxRecDepth 20000 in
theorem ggX9_lineCount_J6_bitCount_0f7a4 : GoodIn wsX9_lineCount wsJ6_bitCount_0f7a4 := goodIn_r _ [11, 12, 13, 14] rfl (by decide +kernel)
set_option maxRecDepth 20000 in
theorem gX9_lineCount_J6_bitCount_0f7a4 : GoodIn wsX9_lineCount (va_wsS RX9 63 yJ6_bitCount_0f7a4 wsJ6_bitCount_0f7a4) := goodIn_app (goodIn_of _ (by decide +kernel)) ggX9_lineCount_J6_bitCount_0f7a4
set_option maxRecDepth 20000 in
theorem ggX9_lineCount_X9_missed : GoodIn wsX9_lineCount wsX9_missed := goodIn_r _ [6, 1, 7, 15, 16, 17, 18, 19, 20, 21, 22, 23] rfl (by decide +kernel)
set_option maxRecDepth 20000 in
theorem gX9_lineCount_X9_missed : GoodIn wsX9_lineCount (wsV RX9 59 RX9 yX9_missed wsX9_missed) := goodIn_app (goodIn_of _ (by decide +kernel)) ggX9_lineCount_X9_missed
theorem dX9_lineCount_0 : decode cX9_lineCount 0 = .ok (.aload_n 0, 1) := by decide +kernel
theorem dX9_lineCount_1 : decode cX9_lineCount 1 = .ok (.getfield 21, 3) := by decide +kernel
theorem dX9_lineCount_11 : decode cX9_lineCount 11 = .ok (.invokestatic 63, 3) := by decide +kernel
theorem dX9_lineCount_14 : decode cX9_lineCount 14 = .ok (.isub, 1) := by decide +kernel
theorem dX9_lineCount_15 : decode cX9_lineCount 15 = .ok (.iconst 2, 1) := by decide +kernel
theorem dX9_lineCount_16 : decode cX9_lineCount 16 = .ok (.idiv, 1) := by decide +kernel
theorem dX9_lineCount_17 : decode cX9_lineCount 17 = .ok (.ireturn, 1) := by decide +kernel
theorem dX9_lineCount_4 : decode cX9_lineCount 4 = .ok (.getfield 41, 3) := by decide +kernel
theorem dX9_lineCount_7 : decode cX9_lineCount 7 = .ok (.aload_n 0, 1) := by decide +kernel
theorem dX9_lineCount_8 : decode cX9_lineCount 8 = .ok (.invokevirtual 59, 3) := by decide +kernel
set_option maxHeartbeats 4000000 in
set_option maxRecDepth 100000 in
theorem k_X9_lineCount (l : Launch) (D : va_G) (cI cS : ClassId) (a : Nat → Nat) (na nc N : Nat) (L u : SU) (hL : TyX L) (hN : N = 0 ∨ N = 24576) : Met l yX9_lineCount wsX9_lineCount ({ frames := 1, cells := 0, slots := 0, locals := 40 }) (PS D cI cS (wX cI cS a na nc N L u) [.ref (a 34)]) (vp_Si (fun r => Rg (-2147483648) 2147483647 r ∧ True)) 0 0 (fun _ => False) := by
  refine Met.ofW (cc := cX9_lineCount) (maxL := 1) (ret := (some .int)) (by decide) rfl ?_
  intro p e s m args below meth c s₁ B hml hv
  obtain ⟨rfl, hP, hKK⟩ := hv
  have hx := B.exec
  have hb := B.bytes
  have hr := B.returns
  have hts := atoms_spec (ws := wsX9_lineCount) B.pre
  have hown : s.vm.findClass RX9 = some m.cls := findClass_of_methodNamed B.named
  have hlocks := B.notSynchronized
  have hK := hKK.1
  have hin2 : ∀ w ∈ wsX20, w ∈ wsX9_lineCount := by decide +kernel
  have hin9 : ∀ w ∈ wsX90, w ∈ wsX9_lineCount := by decide +kernel
  have hl := lv_entry ([.ref (a 34)]) (n := 1) (Nat.le_of_ble_eq_true rfl)
  rw [lg_entry_eq]
  generalize (lg_sl ([.ref (a 34)]) ++ List.replicate (1 - (lg_sl ([.ref (a 34)])).length) Slot.unset).toArray = ls at hl ⊢
  have hl : lv_has ls 1 [(0, .ref (a 34))] := hl
  refine lv_aload_n hx hb dX9_lineCount_0 rfl (lv_at hl 0 rfl) ?_
  refine va_get (D := D) (ci := 9) (v := .ref (a 1)) (C := RX9) (T := TX9) (N := 6) hx hb hts hin9 hown hK hP 34 rfl rfl 0 (by decide) (hts (.fieldLink RX9 21 "MissedPoints$Told" "net" "LMissedPoints$Net;") (by decide +kernel)) (fun _ h9 => h9) rfl dX9_lineCount_1 ?_
  refine va_getN (D := D) (ci := 2) (v := .int (L 1 1)) (C := RX2) (T := TX2) (N := 3) hx hb hts hin2 hown hK hP 1 rfl rfl 1 (by decide) (va_Nw.use rfl hKK.2.2.2.2.2.2.2.2.2.2.2.2.2.2.2.2.1) (fun _ h9 => h9) rfl dX9_lineCount_4 ?_
  refine lv_aload_n hx hb dX9_lineCount_7 rfl (lv_at hl 0 rfl) ?_
  refine wk_sv 34 (As := []) (rest := [.int (L 1 1)]) ⟨hx, hb, hml, hown, hts⟩ (k_X9_missed l D cI cS a na nc N L u hL hN) hKK hP (ci := 9) rfl rfl (cwV 0 hts gX9_lineCount_X9_missed rfl rfl rfl (by decide +kernel) ⟨Nat.le_of_ble_eq_true rfl, Nat.le_of_ble_eq_true rfl⟩) rfl hl.1 rfl (Nat.le_of_ble_eq_true rfl) dX9_lineCount_8 ⟨Nat.le_of_ble_eq_true rfl, Nat.le_of_ble_eq_true rfl⟩ (fun r41991 hr41991 => ?_)
  refine lz_ss (As := [.int r41991]) (rest := [.int (L 1 1)]) ⟨hx, hb, hml, hown, hts⟩ (k_J6_bitCount_0f7a4 l D cI cS r41991) hKK (hP.sub (ws' := []) [] rfl) (va_cwS 1 hts gX9_lineCount_J6_bitCount_0f7a4 rfl rfl rfl (by decide +kernel) ⟨Nat.le_of_ble_eq_true rfl, Nat.le_of_ble_eq_true rfl⟩) rfl hl.1 rfl (Nat.le_of_ble_eq_true rfl) dX9_lineCount_11 ⟨Nat.le_of_ble_eq_true rfl, Nat.le_of_ble_eq_true rfl⟩ (fun r41992 hr41992 => ?_)
  refine lv_isub hx hb dX9_lineCount_14 ?_
  refine wk_topP (P := fun r => r = (L 1 1) - r41992) rfl (fun r41993 qr41993 => ?_)
  refine lv_iconst (v := 2) hx hb dX9_lineCount_15 (by decide) ?_
  refine lv_idiv hx hb dX9_lineCount_16 (by decide) ?_
  refine wk_any (fun r41994 => ?_)
  exact W.iret (v := r41994) hx hb hr (fun t ht hW => ⟨_, rfl, ⟨(rg_any r41994), trivial⟩, ht⟩) (fun q hq => absurd hq List.not_mem_nil) dX9_lineCount_17
set_option maxRecDepth 20000 in
theorem ggX9_readFrom_X2_joined : GoodIn wsX9_readFrom wsX2_joined := goodIn_r _ [18, 19, 20, 21, 22, 17, 23, 24, 25, 26, 27, 28, 38, 39, 40] rfl (by decide +kernel)
set_option maxRecDepth 20000 in
theorem gX9_readFrom_X2_joined : GoodIn wsX9_readFrom (wsV RX9 48 RX2 yX2_joined wsX2_joined) := goodIn_app (goodIn_of _ (by decide +kernel)) ggX9_readFrom_X2_joined
set_option maxRecDepth 20000 in
theorem ggX9_readFrom_X6_at : GoodIn wsX9_readFrom wsX6_at := goodIn_r _ [7, 8, 9, 10, 11, 6, 12, 13, 29, 30, 31] rfl (by decide +kernel)
set_option maxRecDepth 20000 in
theorem gX9_readFrom_X6_at : GoodIn wsX9_readFrom (wsV RX9 44 RX6 yX6_at wsX6_at) := goodIn_app (goodIn_of _ (by decide +kernel)) ggX9_readFrom_X6_at
theorem dX9_readFrom_0 : decode cX9_readFrom 0 = .ok (.aload_n 1, 1) := by decide +kernel
theorem dX9_readFrom_1 : decode cX9_readFrom 1 = .ok (.getfield 35, 3) := by decide +kernel
theorem dX9_readFrom_101 : decode cX9_readFrom 101 = .ok (.iconst (-1), 1) := by decide +kernel
theorem dX9_readFrom_102 : decode cX9_readFrom 102 = .ok (.iastore, 1) := by decide +kernel
theorem dX9_readFrom_103 : decode cX9_readFrom 103 = .ok (.iinc 2 1, 3) := by decide +kernel
theorem dX9_readFrom_106 : decode cX9_readFrom 106 = .ok (.goto (-35), 3) := by decide +kernel
theorem dX9_readFrom_109 : decode cX9_readFrom 109 = .ok (.iconst 1, 1) := by decide +kernel
theorem dX9_readFrom_11 : decode cX9_readFrom 11 = .ok (.if_icmp .eq 5, 3) := by decide +kernel
theorem dX9_readFrom_110 : decode cX9_readFrom 110 = .ok (.ireturn, 1) := by decide +kernel
theorem dX9_readFrom_14 : decode cX9_readFrom 14 = .ok (.iconst 0, 1) := by decide +kernel
theorem dX9_readFrom_15 : decode cX9_readFrom 15 = .ok (.ireturn, 1) := by decide +kernel
theorem dX9_readFrom_16 : decode cX9_readFrom 16 = .ok (.iconst 0, 1) := by decide +kernel
theorem dX9_readFrom_17 : decode cX9_readFrom 17 = .ok (.istore_n 2, 1) := by decide +kernel
theorem dX9_readFrom_18 : decode cX9_readFrom 18 = .ok (.iload_n 2, 1) := by decide +kernel
theorem dX9_readFrom_19 : decode cX9_readFrom 19 = .ok (.aload_n 0, 1) := by decide +kernel
theorem dX9_readFrom_20 : decode cX9_readFrom 20 = .ok (.getfield 21, 3) := by decide +kernel
theorem dX9_readFrom_23 : decode cX9_readFrom 23 = .ok (.getfield 41, 3) := by decide +kernel
theorem dX9_readFrom_26 : decode cX9_readFrom 26 = .ok (.if_icmp .ge 43, 3) := by decide +kernel
theorem dX9_readFrom_29 : decode cX9_readFrom 29 = .ok (.aload_n 1, 1) := by decide +kernel
theorem dX9_readFrom_30 : decode cX9_readFrom 30 = .ok (.iload_n 2, 1) := by decide +kernel
theorem dX9_readFrom_31 : decode cX9_readFrom 31 = .ok (.invokevirtual 44, 3) := by decide +kernel
theorem dX9_readFrom_34 : decode cX9_readFrom 34 = .ok (.istore_n 3, 1) := by decide +kernel
theorem dX9_readFrom_35 : decode cX9_readFrom 35 = .ok (.iload_n 3, 1) := by decide +kernel
theorem dX9_readFrom_36 : decode cX9_readFrom 36 = .ok (.iconst (-1), 1) := by decide +kernel
theorem dX9_readFrom_37 : decode cX9_readFrom 37 = .ok (.if_icmp .eq 26, 3) := by decide +kernel
theorem dX9_readFrom_4 : decode cX9_readFrom 4 = .ok (.aload_n 0, 1) := by decide +kernel
theorem dX9_readFrom_40 : decode cX9_readFrom 40 = .ok (.aload_n 0, 1) := by decide +kernel
theorem dX9_readFrom_41 : decode cX9_readFrom 41 = .ok (.getfield 21, 3) := by decide +kernel
theorem dX9_readFrom_44 : decode cX9_readFrom 44 = .ok (.iload_n 2, 1) := by decide +kernel
theorem dX9_readFrom_45 : decode cX9_readFrom 45 = .ok (.iload_n 3, 1) := by decide +kernel
theorem dX9_readFrom_46 : decode cX9_readFrom 46 = .ok (.invokevirtual 48, 3) := by decide +kernel
theorem dX9_readFrom_49 : decode cX9_readFrom 49 = .ok (.ifCond .eq 12, 3) := by decide +kernel
theorem dX9_readFrom_5 : decode cX9_readFrom 5 = .ok (.getfield 21, 3) := by decide +kernel
theorem dX9_readFrom_52 : decode cX9_readFrom 52 = .ok (.aload_n 1, 1) := by decide +kernel
theorem dX9_readFrom_53 : decode cX9_readFrom 53 = .ok (.iload_n 3, 1) := by decide +kernel
theorem dX9_readFrom_54 : decode cX9_readFrom 54 = .ok (.invokevirtual 44, 3) := by decide +kernel
theorem dX9_readFrom_57 : decode cX9_readFrom 57 = .ok (.iload_n 2, 1) := by decide +kernel
theorem dX9_readFrom_58 : decode cX9_readFrom 58 = .ok (.if_icmp .eq 5, 3) := by decide +kernel
theorem dX9_readFrom_61 : decode cX9_readFrom 61 = .ok (.iconst 0, 1) := by decide +kernel
theorem dX9_readFrom_62 : decode cX9_readFrom 62 = .ok (.ireturn, 1) := by decide +kernel
theorem dX9_readFrom_63 : decode cX9_readFrom 63 = .ok (.iinc 2 1, 3) := by decide +kernel
theorem dX9_readFrom_66 : decode cX9_readFrom 66 = .ok (.goto (-48), 3) := by decide +kernel
theorem dX9_readFrom_69 : decode cX9_readFrom 69 = .ok (.iconst 0, 1) := by decide +kernel
theorem dX9_readFrom_70 : decode cX9_readFrom 70 = .ok (.istore_n 2, 1) := by decide +kernel
theorem dX9_readFrom_71 : decode cX9_readFrom 71 = .ok (.iload_n 2, 1) := by decide +kernel
theorem dX9_readFrom_72 : decode cX9_readFrom 72 = .ok (.bipush 12, 2) := by decide +kernel
theorem dX9_readFrom_74 : decode cX9_readFrom 74 = .ok (.if_icmp .ge 35, 3) := by decide +kernel
theorem dX9_readFrom_77 : decode cX9_readFrom 77 = .ok (.aload_n 0, 1) := by decide +kernel
theorem dX9_readFrom_78 : decode cX9_readFrom 78 = .ok (.getfield 9, 3) := by decide +kernel
theorem dX9_readFrom_8 : decode cX9_readFrom 8 = .ok (.getfield 41, 3) := by decide +kernel
theorem dX9_readFrom_81 : decode cX9_readFrom 81 = .ok (.iload_n 2, 1) := by decide +kernel
theorem dX9_readFrom_82 : decode cX9_readFrom 82 = .ok (.iload_n 2, 1) := by decide +kernel
theorem dX9_readFrom_83 : decode cX9_readFrom 83 = .ok (.aload_n 0, 1) := by decide +kernel
theorem dX9_readFrom_84 : decode cX9_readFrom 84 = .ok (.getfield 21, 3) := by decide +kernel
theorem dX9_readFrom_87 : decode cX9_readFrom 87 = .ok (.getfield 41, 3) := by decide +kernel
theorem dX9_readFrom_90 : decode cX9_readFrom 90 = .ok (.if_icmp .ge 11, 3) := by decide +kernel
theorem dX9_readFrom_93 : decode cX9_readFrom 93 = .ok (.aload_n 1, 1) := by decide +kernel
theorem dX9_readFrom_94 : decode cX9_readFrom 94 = .ok (.iload_n 2, 1) := by decide +kernel
theorem dX9_readFrom_95 : decode cX9_readFrom 95 = .ok (.invokevirtual 44, 3) := by decide +kernel
theorem dX9_readFrom_98 : decode cX9_readFrom 98 = .ok (.goto 4, 3) := by decide +kernel
set_option maxHeartbeats 4000000 in
set_option maxRecDepth 100000 in
theorem k_X9_readFrom (l : Launch) (D : va_G) (cI cS : ClassId) (sz : Nat) (a : Nat → Nat) (na nc N : Nat) (L u0 : SU) (hL : TyX L) (hN : N = 0 ∨ N = 24576) (q : Nat) (hq : q < 4) : Met l yX9_readFrom wsX9_readFrom ({ frames := 3, cells := 0, slots := 0, locals := 120 }) (PQ D cI cS (wX cI cS a na nc N L u0) sz [.ref (a 34), .ref (a (26 + 2 * q))]) (QF (S := SU) D (wX cI cS a na nc N L u0) (wX cI cS a na nc N L) sz (fun r _ => Rg 0 1 r ∧ True)) 0 0 (va_A (wX cI cS a na nc N L u0) sz) := by
  refine Met.ofW (cc := cX9_readFrom) (maxL := 4) (ret := (some .boolean)) (by decide) rfl ?_
  intro p e s m args below meth c s₁ B hml hv
  obtain ⟨rfl, hsz, hP, hKK, hD0⟩ := hv
  have hx := B.exec
  have hb := B.bytes
  have hr := B.returns
  have hts := atoms_spec (ws := wsX9_readFrom) B.pre
  have hown : s.vm.findClass RX9 = some m.cls := findClass_of_methodNamed B.named
  have hlocks := B.notSynchronized
  have hK := hKK.1
  have hin2 : ∀ w ∈ wsX20, w ∈ wsX9_readFrom := by decide +kernel
  have hin6 : ∀ w ∈ wsX60, w ∈ wsX9_readFrom := by decide +kernel
  have hin9 : ∀ w ∈ wsX90, w ∈ wsX9_readFrom := by decide +kernel
  subst hsz
  have hD := hD0.self (sz := s.heap.size)
  obtain ⟨A, hAe⟩ : ∃ A, A = va_A (wX cI cS a na nc N L u0) s.heap.size := ⟨_, rfl⟩
  rw [← hAe] at hD
  have hA : ∀ q : Nat, s.heap.size ≤ q → A q := fun q h => by rw [hAe]; exact Or.inr h
  have hS : va_S A s.heap s.heap [] := va_S.rf
  have hl := lv_entry ([.ref (a 34), .ref (a (26 + 2 * q))]) (n := 4) (Nat.le_of_ble_eq_true rfl)
  rw [lg_entry_eq]
  generalize (lg_sl ([.ref (a 34), .ref (a (26 + 2 * q))]) ++ List.replicate (4 - (lg_sl ([.ref (a 34), .ref (a (26 + 2 * q))])).length) Slot.unset).toArray = ls at hl ⊢
  have hl : lv_has ls 4 [(0, .ref (a 34)), (1, .ref (a (26 + 2 * q)))] := hl
  obtain ⟨u, hu9⟩ : ∃ u : SU, u = u0 := ⟨_, rfl⟩
  rw [← hu9] at hP hD
  have lp71 : ∀ (n71 : Nat) (y71_l2 : Int32) (u : SU) (H : Heap) (locs : List Loc) (ls : Array Slot), Rg 0 12 y71_l2 → va_P D cls (wX cI cS a na nc N L u) H → va_D A (wX cI cS a na nc N L u) → va_S A s.heap H locs → lv_has ls 4 [(0, .ref (a 34)), (1, .ref (a (26 + 2 * q))), (2, .int y71_l2)] → 12 - y71_l2.toInt < (n71 : Int) → W p l e (headSpec wsX9_readFrom ({ frames := 3, cells := 0, slots := 0, locals := 120 })).room s m ([.ref (a 34), .ref (a (26 + 2 * q))]).toArray below meth c H locs 0 0 (MQ below (QF (S := SU) D (wX cI cS a na nc N L u0) (wX cI cS a na nc N L) s.heap.size (fun r _ => Rg 0 1 r ∧ True)) ([.ref (a 34), .ref (a (26 + 2 * q))]).toArray s 0 0 (va_A (wX cI cS a na nc N L u0) s.heap.size)) (F0 m 71 ls []) := by
    intro n71
    induction n71 with
    | zero =>
      intro y71_l2 u H locs ls g71_l2 hP hD hS hl hm71
      exact absurd rfl (me_z g71_l2 hm71)
    | succ n71 ih71 =>
      intro y71_l2 u H locs ls g71_l2 hP hD hS hl hm71
      refine lv_iload_n hx hb dX9_readFrom_71 rfl (lv_at hl 2 rfl) ?_
      refine lv_bipush (v := 12) hx hb dX9_readFrom_72 (by decide) ?_
      refine lv_icmp_ge (tgt := 109) hx hb dX9_readFrom_74 (by decide) (fun c42228 => ?_) (fun c42228 => ?_)
      · have g42229 : Rg 12 12 y71_l2 := rg_ler (by decide : Rg 12 12 (12 : Int32)) g71_l2 c42228 (by decide)
        refine lv_iconst (v := 1) hx hb dX9_readFrom_109 (by decide) ?_
        subst hAe
        exact W.zret (v := 1) hx hb hr (by decide) (fun t ht hW => ⟨⟨_, u, rfl, ⟨(by decide : Rg 0 1 (1 : Int32)), trivial⟩, by rw [ht]; exact hP, hD⟩, hS.F ht⟩) hS.2.2 dX9_readFrom_110
      · have g42230 : Rg 0 11 y71_l2 := rg_ltl g71_l2 (by decide : Rg 12 12 (12 : Int32)) (rg_nle c42228) (by decide)
        refine lv_aload_n hx hb dX9_readFrom_77 rfl (lv_at hl 0 rfl) ?_
        refine va_get (D := D) (ci := 9) (v := .ref (a 35)) (C := RX9) (T := TX9) (N := 6) hx hb hts hin9 hown hK hP 34 rfl rfl 2 (by decide) (hts (.fieldLink RX9 9 "MissedPoints$Told" "mates" "[I") (by decide +kernel)) (fun _ h9 => h9) rfl dX9_readFrom_78 ?_
        refine lv_iload_n hx hb dX9_readFrom_81 rfl (lv_at hl 2 rfl) ?_
        refine lv_iload_n hx hb dX9_readFrom_82 rfl (lv_at hl 2 rfl) ?_
        refine lv_aload_n hx hb dX9_readFrom_83 rfl (lv_at hl 0 rfl) ?_
        refine va_get (D := D) (ci := 9) (v := .ref (a 1)) (C := RX9) (T := TX9) (N := 6) hx hb hts hin9 hown hK hP 34 rfl rfl 0 (by decide) (hts (.fieldLink RX9 21 "MissedPoints$Told" "net" "LMissedPoints$Net;") (by decide +kernel)) (fun _ h9 => h9) rfl dX9_readFrom_84 ?_
        refine va_getN (D := D) (ci := 2) (v := .int (L 1 1)) (C := RX2) (T := TX2) (N := 3) hx hb hts hin2 hown hK hP 1 rfl rfl 1 (by decide) (va_Nw.use rfl hKK.2.2.2.2.2.2.2.2.2.2.2.2.2.2.2.2.1) (fun _ h9 => h9) rfl dX9_readFrom_87 ?_
        refine lv_icmp_ge (tgt := 101) hx hb dX9_readFrom_90 (by decide) (fun c42231 => ?_) (fun c42231 => ?_)
        · have g42232 : Rg 0 11 (L 1 1) := rg_lel hL.1 g42230 c42231 (by decide)
          refine lv_iconst (v := (-1)) hx hb dX9_readFrom_101 (by decide) ?_
          refine ks_ast hx hb hK hP hD hS rfl (k := 35) rfl sx_35 (rg_in g42230 (by decide) (by decide)) dX9_readFrom_102 (fun u H locs hP hD hS => ?_)
          refine wk_iinc (lv' := fun r => [(2, .int r), (0, .ref (a 34)), (1, .ref (a (26 + 2 * q)))]) (e1 := 1) (f := 12) hx hb dX9_readFrom_103 hl (k := 2) rfl (by decide) g42230 (by decide) (fun _ => rfl) (fun r42233 ls hr42233 er42233 hl => ?_)
          refine lv_goto (tgt := 71) hx hb dX9_readFrom_106 (by decide) ?_
          exact ih71 r42233 u _ _ ls (show Rg 0 12 r42233 from rg_w hr42233 (by decide) (by decide)) hP hD hS (lv_sub (l' := [(0, .ref (a 34)), (1, .ref (a (26 + 2 * q))), (2, .int r42233)]) hl [1, 2, 0] rfl) (me_up hm71 er42233 (by decide))
        · have g42234 : Rg 1 12 (L 1 1) := rg_ltr g42230 hL.1 (rg_nle c42231) (by decide)
          refine lv_aload_n hx hb dX9_readFrom_93 rfl (lv_at hl 1 rfl) ?_
          refine lv_iload_n hx hb dX9_readFrom_94 rfl (lv_at hl 2 rfl) ?_
          refine wk_sv (26 + 2 * q) (As := [.int y71_l2]) (rest := [.int y71_l2, .ref (a 35)]) ⟨hx, hb, hml, hown, hts⟩ (k_X6_at l D cI cS a na nc N L u hL hN q hq y71_l2) hKK hP (ci := 6) rfl (gx_sh hq) (cwV 1 hts gX9_readFrom_X6_at rfl rfl rfl (by decide +kernel) ⟨Nat.le_of_ble_eq_true rfl, Nat.le_of_ble_eq_true rfl⟩) rfl hl.1 rfl (Nat.le_of_ble_eq_true rfl) dX9_readFrom_95 ⟨Nat.le_of_ble_eq_true rfl, Nat.le_of_ble_eq_true rfl⟩ (fun r42235 hr42235 => ?_)
          refine lv_goto (tgt := 102) hx hb dX9_readFrom_98 (by decide) ?_
          refine ks_ast hx hb hK hP hD hS rfl (k := 35) rfl sx_35 (rg_in g42230 (by decide) (by decide)) dX9_readFrom_102 (fun u H locs hP hD hS => ?_)
          refine wk_iinc (lv' := fun r => [(2, .int r), (0, .ref (a 34)), (1, .ref (a (26 + 2 * q)))]) (e1 := 1) (f := 12) hx hb dX9_readFrom_103 hl (k := 2) rfl (by decide) g42230 (by decide) (fun _ => rfl) (fun r42236 ls hr42236 er42236 hl => ?_)
          refine lv_goto (tgt := 71) hx hb dX9_readFrom_106 (by decide) ?_
          exact ih71 r42236 u _ _ ls (show Rg 0 12 r42236 from rg_w hr42236 (by decide) (by decide)) hP hD hS (lv_sub (l' := [(0, .ref (a 34)), (1, .ref (a (26 + 2 * q))), (2, .int r42236)]) hl [1, 2, 0] rfl) (me_up hm71 er42236 (by decide))
  have lp18 : ∀ (n18 : Nat) (y18_l2 : Int32) (u : SU) (H : Heap) (locs : List Loc) (ls : Array Slot), Rg 0 12 y18_l2 → va_P D cls (wX cI cS a na nc N L u) H → va_D A (wX cI cS a na nc N L u) → va_S A s.heap H locs → lv_has ls 4 [(0, .ref (a 34)), (1, .ref (a (26 + 2 * q))), (2, .int y18_l2)] → 12 - y18_l2.toInt < (n18 : Int) → W p l e (headSpec wsX9_readFrom ({ frames := 3, cells := 0, slots := 0, locals := 120 })).room s m ([.ref (a 34), .ref (a (26 + 2 * q))]).toArray below meth c H locs 0 0 (MQ below (QF (S := SU) D (wX cI cS a na nc N L u0) (wX cI cS a na nc N L) s.heap.size (fun r _ => Rg 0 1 r ∧ True)) ([.ref (a 34), .ref (a (26 + 2 * q))]).toArray s 0 0 (va_A (wX cI cS a na nc N L u0) s.heap.size)) (F0 m 18 ls []) := by
    intro n18
    induction n18 with
    | zero =>
      intro y18_l2 u H locs ls g18_l2 hP hD hS hl hm18
      exact absurd rfl (me_z g18_l2 hm18)
    | succ n18 ih18 =>
      intro y18_l2 u H locs ls g18_l2 hP hD hS hl hm18
      refine lv_iload_n hx hb dX9_readFrom_18 rfl (lv_at hl 2 rfl) ?_
      refine lv_aload_n hx hb dX9_readFrom_19 rfl (lv_at hl 0 rfl) ?_
      refine va_get (D := D) (ci := 9) (v := .ref (a 1)) (C := RX9) (T := TX9) (N := 6) hx hb hts hin9 hown hK hP 34 rfl rfl 0 (by decide) (hts (.fieldLink RX9 21 "MissedPoints$Told" "net" "LMissedPoints$Net;") (by decide +kernel)) (fun _ h9 => h9) rfl dX9_readFrom_20 ?_
      refine va_getN (D := D) (ci := 2) (v := .int (L 1 1)) (C := RX2) (T := TX2) (N := 3) hx hb hts hin2 hown hK hP 1 rfl rfl 1 (by decide) (va_Nw.use rfl hKK.2.2.2.2.2.2.2.2.2.2.2.2.2.2.2.2.1) (fun _ h9 => h9) rfl dX9_readFrom_23 ?_
      refine lv_icmp_ge (tgt := 69) hx hb dX9_readFrom_26 (by decide) (fun c42237 => ?_) (fun c42237 => ?_)
      · refine lv_iconst (v := 0) hx hb dX9_readFrom_69 (by decide) ?_
        refine lv_istore_n (lv' := [(2, .int 0), (0, .ref (a 34)), (1, .ref (a (26 + 2 * q)))]) hx hb dX9_readFrom_70 rfl hl (by decide) rfl (fun ls hl => ?_)
        exact lp71 13 (0 : Int32) u _ _ ls (by decide : Rg 0 12 (0 : Int32)) hP hD hS (lv_sub (l' := [(0, .ref (a 34)), (1, .ref (a (26 + 2 * q))), (2, .int 0)]) hl [1, 2, 0] rfl) (me_i (by decide : Rg 0 12 (0 : Int32)) (by decide))
      · have g42238 : Rg 1 12 (L 1 1) := rg_ltr g18_l2 hL.1 (rg_nle c42237) (by decide)
        have g42239 : Rg 0 11 y18_l2 := rg_ltl g18_l2 hL.1 (rg_nle c42237) (by decide)
        refine lv_aload_n hx hb dX9_readFrom_29 rfl (lv_at hl 1 rfl) ?_
        refine lv_iload_n hx hb dX9_readFrom_30 rfl (lv_at hl 2 rfl) ?_
        refine wk_sv (26 + 2 * q) (As := [.int y18_l2]) (rest := []) ⟨hx, hb, hml, hown, hts⟩ (k_X6_at l D cI cS a na nc N L u hL hN q hq y18_l2) hKK hP (ci := 6) rfl (gx_sh hq) (cwV 1 hts gX9_readFrom_X6_at rfl rfl rfl (by decide +kernel) ⟨Nat.le_of_ble_eq_true rfl, Nat.le_of_ble_eq_true rfl⟩) rfl hl.1 rfl (Nat.le_of_ble_eq_true rfl) dX9_readFrom_31 ⟨Nat.le_of_ble_eq_true rfl, Nat.le_of_ble_eq_true rfl⟩ (fun r42240 hr42240 => ?_)
        refine lv_istore_n (lv' := [(3, .int r42240), (0, .ref (a 34)), (1, .ref (a (26 + 2 * q))), (2, .int y18_l2)]) hx hb dX9_readFrom_34 rfl hl (by decide) rfl (fun ls hl => ?_)
        refine lv_iload_n hx hb dX9_readFrom_35 rfl (lv_at hl 0 rfl) ?_
        refine lv_iconst (v := (-1)) hx hb dX9_readFrom_36 (by decide) ?_
        refine lv_icmp_eq (tgt := 63) hx hb dX9_readFrom_37 (by decide) (fun c42241 => ?_) (fun c42241 => ?_)
        · have g42242 : Rg (-1) (-1) r42240 := wk_eql hr42240.1 (by decide : Rg (-1) (-1) ((-1) : Int32)) c42241 (by decide)
          refine wk_iinc (lv' := fun r => [(2, .int r), (3, .int r42240), (0, .ref (a 34)), (1, .ref (a (26 + 2 * q)))]) (e1 := 1) (f := 12) hx hb dX9_readFrom_63 hl (k := 3) rfl (by decide) g42239 (by decide) (fun _ => rfl) (fun r42243 ls hr42243 er42243 hl => ?_)
          refine lv_goto (tgt := 18) hx hb dX9_readFrom_66 (by decide) ?_
          exact ih18 r42243 u _ _ ls (show Rg 0 12 r42243 from rg_w hr42243 (by decide) (by decide)) hP hD hS (lv_sub (l' := [(0, .ref (a 34)), (1, .ref (a (26 + 2 * q))), (2, .int r42243)]) hl [2, 3, 0] rfl) (me_up hm18 er42243 (by decide))
        · refine lv_aload_n hx hb dX9_readFrom_40 rfl (lv_at hl 1 rfl) ?_
          refine va_get (D := D) (ci := 9) (v := .ref (a 1)) (C := RX9) (T := TX9) (N := 6) hx hb hts hin9 hown hK hP 34 rfl rfl 0 (by decide) (hts (.fieldLink RX9 21 "MissedPoints$Told" "net" "LMissedPoints$Net;") (by decide +kernel)) (fun _ h9 => h9) rfl dX9_readFrom_41 ?_
          refine lv_iload_n hx hb dX9_readFrom_44 rfl (lv_at hl 3 rfl) ?_
          refine lv_iload_n hx hb dX9_readFrom_45 rfl (lv_at hl 0 rfl) ?_
          refine wk_sv 1 (As := [.int y18_l2, .int r42240]) (rest := []) ⟨hx, hb, hml, hown, hts⟩ (k_X2_joined l D cI cS a na nc N L u hL hN y18_l2 r42240) hKK hP (ci := 2) rfl rfl (cwV 2 hts gX9_readFrom_X2_joined rfl rfl rfl (by decide +kernel) ⟨Nat.le_of_ble_eq_true rfl, Nat.le_of_ble_eq_true rfl⟩) rfl hl.1 rfl (Nat.le_of_ble_eq_true rfl) dX9_readFrom_46 ⟨Nat.le_of_ble_eq_true rfl, Nat.le_of_ble_eq_true rfl⟩ (fun r42244 hr42244 => ?_)
          refine lv_if_eq (tgt := 61) hx hb dX9_readFrom_49 (by decide) (fun c42245 => ?_) (fun c42245 => ?_)
          · have g42246 : Rg 0 0 r42244 := wk_eql hr42244.1 (by decide : Rg 0 0 (0 : Int32)) c42245 (by decide)
            refine lv_iconst (v := 0) hx hb dX9_readFrom_61 (by decide) ?_
            subst hAe
            exact W.zret (v := 0) hx hb hr (by decide) (fun t ht hW => ⟨⟨_, u, rfl, ⟨(by decide : Rg 0 1 (0 : Int32)), trivial⟩, by rw [ht]; exact hP, hD⟩, hS.F ht⟩) hS.2.2 dX9_readFrom_62
          · have g42247 : Rg 0 11 r42240 := (hr42244.2 c42245).2
            have g42248 : Rg 1 1 r42244 := rg_ne_lo (k := 0) hr42244.1 (by decide) c42245 (by decide)
            refine lv_aload_n hx hb dX9_readFrom_52 rfl (lv_at hl 2 rfl) ?_
            refine lv_iload_n hx hb dX9_readFrom_53 rfl (lv_at hl 0 rfl) ?_
            refine wk_sv (26 + 2 * q) (As := [.int r42240]) (rest := []) ⟨hx, hb, hml, hown, hts⟩ (k_X6_at l D cI cS a na nc N L u hL hN q hq r42240) hKK hP (ci := 6) rfl (gx_sh hq) (cwV 1 hts gX9_readFrom_X6_at rfl rfl rfl (by decide +kernel) ⟨Nat.le_of_ble_eq_true rfl, Nat.le_of_ble_eq_true rfl⟩) rfl hl.1 rfl (Nat.le_of_ble_eq_true rfl) dX9_readFrom_54 ⟨Nat.le_of_ble_eq_true rfl, Nat.le_of_ble_eq_true rfl⟩ (fun r42249 hr42249 => ?_)
            refine lv_iload_n hx hb dX9_readFrom_57 rfl (lv_at hl 3 rfl) ?_
            refine lv_icmp_eq (tgt := 63) hx hb dX9_readFrom_58 (by decide) (fun c42250 => ?_) (fun c42250 => ?_)
            · have g42251 : Rg 0 11 r42249 := wk_eql hr42249.1 g42239 c42250 (by decide)
              refine wk_iinc (lv' := fun r => [(2, .int r), (3, .int r42240), (0, .ref (a 34)), (1, .ref (a (26 + 2 * q)))]) (e1 := 1) (f := 12) hx hb dX9_readFrom_63 hl (k := 3) rfl (by decide) g42239 (by decide) (fun _ => rfl) (fun r42252 ls hr42252 er42252 hl => ?_)
              refine lv_goto (tgt := 18) hx hb dX9_readFrom_66 (by decide) ?_
              exact ih18 r42252 u _ _ ls (show Rg 0 12 r42252 from rg_w hr42252 (by decide) (by decide)) hP hD hS (lv_sub (l' := [(0, .ref (a 34)), (1, .ref (a (26 + 2 * q))), (2, .int r42252)]) hl [2, 3, 0] rfl) (me_up hm18 er42252 (by decide))
            · refine lv_iconst (v := 0) hx hb dX9_readFrom_61 (by decide) ?_
              subst hAe
              exact W.zret (v := 0) hx hb hr (by decide) (fun t ht hW => ⟨⟨_, u, rfl, ⟨(by decide : Rg 0 1 (0 : Int32)), trivial⟩, by rw [ht]; exact hP, hD⟩, hS.F ht⟩) hS.2.2 dX9_readFrom_62
  refine lv_aload_n hx hb dX9_readFrom_0 rfl (lv_at hl 1 rfl) ?_
  refine va_getN (D := D) (ci := 6) (v := .int ((L (26 + 2 * q) 2))) (C := RX6) (T := TX6) (N := 3) hx hb hts hin6 hown hK hP (26 + 2 * q) (gx_sh hq) rfl 2 (by decide) (va_Nw.use rfl hKK.2.2.2.2.2.2.2.2.2.2.2.2.2.2.2.1) (fun _ h9 => h9) rfl dX9_readFrom_1 ?_
  refine lv_aload_n hx hb dX9_readFrom_4 rfl (lv_at hl 0 rfl) ?_
  refine va_get (D := D) (ci := 9) (v := .ref (a 1)) (C := RX9) (T := TX9) (N := 6) hx hb hts hin9 hown hK hP 34 rfl rfl 0 (by decide) (hts (.fieldLink RX9 21 "MissedPoints$Told" "net" "LMissedPoints$Net;") (by decide +kernel)) (fun _ h9 => h9) rfl dX9_readFrom_5 ?_
  refine va_getN (D := D) (ci := 2) (v := .int (L 1 1)) (C := RX2) (T := TX2) (N := 3) hx hb hts hin2 hown hK hP 1 rfl rfl 1 (by decide) (va_Nw.use rfl hKK.2.2.2.2.2.2.2.2.2.2.2.2.2.2.2.2.1) (fun _ h9 => h9) rfl dX9_readFrom_8 ?_
  refine lv_icmp_eq (tgt := 16) hx hb dX9_readFrom_11 (by decide) (fun c42253 => ?_) (fun c42253 => ?_)
  · have g42254 : Rg 0 12 ((L (26 + 2 * q) 2)) := wk_eql (hL.sh hq) hL.1 c42253 (by decide)
    refine lv_iconst (v := 0) hx hb dX9_readFrom_16 (by decide) ?_
    refine lv_istore_n (lv' := [(2, .int 0), (0, .ref (a 34)), (1, .ref (a (26 + 2 * q)))]) hx hb dX9_readFrom_17 rfl hl (by decide) rfl (fun ls hl => ?_)
    exact lp18 13 (0 : Int32) u _ _ ls (by decide : Rg 0 12 (0 : Int32)) hP hD hS (lv_sub (l' := [(0, .ref (a 34)), (1, .ref (a (26 + 2 * q))), (2, .int 0)]) hl [1, 2, 0] rfl) (me_i (by decide : Rg 0 12 (0 : Int32)) (by decide))
  · refine lv_iconst (v := 0) hx hb dX9_readFrom_14 (by decide) ?_
    subst hAe
    exact W.zret (v := 0) hx hb hr (by decide) (fun t ht hW => ⟨⟨_, u, rfl, ⟨(by decide : Rg 0 1 (0 : Int32)), trivial⟩, by rw [ht]; exact hP, hD⟩, hS.F ht⟩) hS.2.2 dX9_readFrom_15
set_option maxHeartbeats 4000000 in
set_option maxRecDepth 100000 in
theorem k_X9_readFrom_38 (l : Launch) (D : va_G) (cI cS : ClassId) (sz : Nat) (a : Nat → Nat) (na nc N : Nat) (L u0 : SU) (hL : TyX L) (hN : N = 0 ∨ N = 24576) (q : Nat) (hq : q < 4) : Met l yX9_readFrom wsX9_readFrom ({ frames := 3, cells := 0, slots := 0, locals := 120 }) (PQ D cI cS (wX cI cS a na nc N L u0) sz [.ref (a 38), .ref (a (26 + 2 * q))]) (QF (S := SU) D (wX cI cS a na nc N L u0) (wX cI cS a na nc N L) sz (fun r _ => Rg 0 1 r ∧ True)) 0 0 (va_A (wX cI cS a na nc N L u0) sz) := by
  refine Met.ofW (cc := cX9_readFrom) (maxL := 4) (ret := (some .boolean)) (by decide) rfl ?_
  intro p e s m args below meth c s₁ B hml hv
  obtain ⟨rfl, hsz, hP, hKK, hD0⟩ := hv
  have hx := B.exec
  have hb := B.bytes
  have hr := B.returns
  have hts := atoms_spec (ws := wsX9_readFrom) B.pre
  have hown : s.vm.findClass RX9 = some m.cls := findClass_of_methodNamed B.named
  have hlocks := B.notSynchronized
  have hK := hKK.1
  have hin2 : ∀ w ∈ wsX20, w ∈ wsX9_readFrom := by decide +kernel
  have hin6 : ∀ w ∈ wsX60, w ∈ wsX9_readFrom := by decide +kernel
  have hin9 : ∀ w ∈ wsX90, w ∈ wsX9_readFrom := by decide +kernel
  subst hsz
  have hD := hD0.self (sz := s.heap.size)
  obtain ⟨A, hAe⟩ : ∃ A, A = va_A (wX cI cS a na nc N L u0) s.heap.size := ⟨_, rfl⟩
  rw [← hAe] at hD
  have hA : ∀ q : Nat, s.heap.size ≤ q → A q := fun q h => by rw [hAe]; exact Or.inr h
  have hS : va_S A s.heap s.heap [] := va_S.rf
  have hl := lv_entry ([.ref (a 38), .ref (a (26 + 2 * q))]) (n := 4) (Nat.le_of_ble_eq_true rfl)
  rw [lg_entry_eq]
  generalize (lg_sl ([.ref (a 38), .ref (a (26 + 2 * q))]) ++ List.replicate (4 - (lg_sl ([.ref (a 38), .ref (a (26 + 2 * q))])).length) Slot.unset).toArray = ls at hl ⊢
  have hl : lv_has ls 4 [(0, .ref (a 38)), (1, .ref (a (26 + 2 * q)))] := hl
  obtain ⟨u, hu9⟩ : ∃ u : SU, u = u0 := ⟨_, rfl⟩
  rw [← hu9] at hP hD
  have lp71 : ∀ (n71 : Nat) (y71_l2 : Int32) (u : SU) (H : Heap) (locs : List Loc) (ls : Array Slot), Rg 0 12 y71_l2 → va_P D cls (wX cI cS a na nc N L u) H → va_D A (wX cI cS a na nc N L u) → va_S A s.heap H locs → lv_has ls 4 [(0, .ref (a 38)), (1, .ref (a (26 + 2 * q))), (2, .int y71_l2)] → 12 - y71_l2.toInt < (n71 : Int) → W p l e (headSpec wsX9_readFrom ({ frames := 3, cells := 0, slots := 0, locals := 120 })).room s m ([.ref (a 38), .ref (a (26 + 2 * q))]).toArray below meth c H locs 0 0 (MQ below (QF (S := SU) D (wX cI cS a na nc N L u0) (wX cI cS a na nc N L) s.heap.size (fun r _ => Rg 0 1 r ∧ True)) ([.ref (a 38), .ref (a (26 + 2 * q))]).toArray s 0 0 (va_A (wX cI cS a na nc N L u0) s.heap.size)) (F0 m 71 ls []) := by
    intro n71
    induction n71 with
    | zero =>
      intro y71_l2 u H locs ls g71_l2 hP hD hS hl hm71
      exact absurd rfl (me_z g71_l2 hm71)
    | succ n71 ih71 =>
      intro y71_l2 u H locs ls g71_l2 hP hD hS hl hm71
      refine lv_iload_n hx hb dX9_readFrom_71 rfl (lv_at hl 2 rfl) ?_
      refine lv_bipush (v := 12) hx hb dX9_readFrom_72 (by decide) ?_
      refine lv_icmp_ge (tgt := 109) hx hb dX9_readFrom_74 (by decide) (fun c42488 => ?_) (fun c42488 => ?_)
      · have g42489 : Rg 12 12 y71_l2 := rg_ler (by decide : Rg 12 12 (12 : Int32)) g71_l2 c42488 (by decide)
        refine lv_iconst (v := 1) hx hb dX9_readFrom_109 (by decide) ?_
        subst hAe
        exact W.zret (v := 1) hx hb hr (by decide) (fun t ht hW => ⟨⟨_, u, rfl, ⟨(by decide : Rg 0 1 (1 : Int32)), trivial⟩, by rw [ht]; exact hP, hD⟩, hS.F ht⟩) hS.2.2 dX9_readFrom_110
      · have g42490 : Rg 0 11 y71_l2 := rg_ltl g71_l2 (by decide : Rg 12 12 (12 : Int32)) (rg_nle c42488) (by decide)
        refine lv_aload_n hx hb dX9_readFrom_77 rfl (lv_at hl 0 rfl) ?_
        refine va_get (D := D) (ci := 9) (v := .ref (a 39)) (C := RX9) (T := TX9) (N := 6) hx hb hts hin9 hown hK hP 38 rfl rfl 2 (by decide) (hts (.fieldLink RX9 9 "MissedPoints$Told" "mates" "[I") (by decide +kernel)) (fun _ h9 => h9) rfl dX9_readFrom_78 ?_
        refine lv_iload_n hx hb dX9_readFrom_81 rfl (lv_at hl 2 rfl) ?_
        refine lv_iload_n hx hb dX9_readFrom_82 rfl (lv_at hl 2 rfl) ?_
        refine lv_aload_n hx hb dX9_readFrom_83 rfl (lv_at hl 0 rfl) ?_
        refine va_get (D := D) (ci := 9) (v := .ref (a 1)) (C := RX9) (T := TX9) (N := 6) hx hb hts hin9 hown hK hP 38 rfl rfl 0 (by decide) (hts (.fieldLink RX9 21 "MissedPoints$Told" "net" "LMissedPoints$Net;") (by decide +kernel)) (fun _ h9 => h9) rfl dX9_readFrom_84 ?_
        refine va_getN (D := D) (ci := 2) (v := .int (L 1 1)) (C := RX2) (T := TX2) (N := 3) hx hb hts hin2 hown hK hP 1 rfl rfl 1 (by decide) (va_Nw.use rfl hKK.2.2.2.2.2.2.2.2.2.2.2.2.2.2.2.2.1) (fun _ h9 => h9) rfl dX9_readFrom_87 ?_
        refine lv_icmp_ge (tgt := 101) hx hb dX9_readFrom_90 (by decide) (fun c42491 => ?_) (fun c42491 => ?_)
        · have g42492 : Rg 0 11 (L 1 1) := rg_lel hL.1 g42490 c42491 (by decide)
          refine lv_iconst (v := (-1)) hx hb dX9_readFrom_101 (by decide) ?_
          refine ks_ast hx hb hK hP hD hS rfl (k := 39) rfl sx_39 (rg_in g42490 (by decide) (by decide)) dX9_readFrom_102 (fun u H locs hP hD hS => ?_)
          refine wk_iinc (lv' := fun r => [(2, .int r), (0, .ref (a 38)), (1, .ref (a (26 + 2 * q)))]) (e1 := 1) (f := 12) hx hb dX9_readFrom_103 hl (k := 2) rfl (by decide) g42490 (by decide) (fun _ => rfl) (fun r42493 ls hr42493 er42493 hl => ?_)
          refine lv_goto (tgt := 71) hx hb dX9_readFrom_106 (by decide) ?_
          exact ih71 r42493 u _ _ ls (show Rg 0 12 r42493 from rg_w hr42493 (by decide) (by decide)) hP hD hS (lv_sub (l' := [(0, .ref (a 38)), (1, .ref (a (26 + 2 * q))), (2, .int r42493)]) hl [1, 2, 0] rfl) (me_up hm71 er42493 (by decide))
        · have g42494 : Rg 1 12 (L 1 1) := rg_ltr g42490 hL.1 (rg_nle c42491) (by decide)
          refine lv_aload_n hx hb dX9_readFrom_93 rfl (lv_at hl 1 rfl) ?_
          refine lv_iload_n hx hb dX9_readFrom_94 rfl (lv_at hl 2 rfl) ?_
          refine wk_sv (26 + 2 * q) (As := [.int y71_l2]) (rest := [.int y71_l2, .ref (a 39)]) ⟨hx, hb, hml, hown, hts⟩ (k_X6_at l D cI cS a na nc N L u hL hN q hq y71_l2) hKK hP (ci := 6) rfl (gx_sh hq) (cwV 1 hts gX9_readFrom_X6_at rfl rfl rfl (by decide +kernel) ⟨Nat.le_of_ble_eq_true rfl, Nat.le_of_ble_eq_true rfl⟩) rfl hl.1 rfl (Nat.le_of_ble_eq_true rfl) dX9_readFrom_95 ⟨Nat.le_of_ble_eq_true rfl, Nat.le_of_ble_eq_true rfl⟩ (fun r42495 hr42495 => ?_)
          refine lv_goto (tgt := 102) hx hb dX9_readFrom_98 (by decide) ?_
          refine ks_ast hx hb hK hP hD hS rfl (k := 39) rfl sx_39 (rg_in g42490 (by decide) (by decide)) dX9_readFrom_102 (fun u H locs hP hD hS => ?_)
          refine wk_iinc (lv' := fun r => [(2, .int r), (0, .ref (a 38)), (1, .ref (a (26 + 2 * q)))]) (e1 := 1) (f := 12) hx hb dX9_readFrom_103 hl (k := 2) rfl (by decide) g42490 (by decide) (fun _ => rfl) (fun r42496 ls hr42496 er42496 hl => ?_)
          refine lv_goto (tgt := 71) hx hb dX9_readFrom_106 (by decide) ?_
          exact ih71 r42496 u _ _ ls (show Rg 0 12 r42496 from rg_w hr42496 (by decide) (by decide)) hP hD hS (lv_sub (l' := [(0, .ref (a 38)), (1, .ref (a (26 + 2 * q))), (2, .int r42496)]) hl [1, 2, 0] rfl) (me_up hm71 er42496 (by decide))
  have lp18 : ∀ (n18 : Nat) (y18_l2 : Int32) (u : SU) (H : Heap) (locs : List Loc) (ls : Array Slot), Rg 0 12 y18_l2 → va_P D cls (wX cI cS a na nc N L u) H → va_D A (wX cI cS a na nc N L u) → va_S A s.heap H locs → lv_has ls 4 [(0, .ref (a 38)), (1, .ref (a (26 + 2 * q))), (2, .int y18_l2)] → 12 - y18_l2.toInt < (n18 : Int) → W p l e (headSpec wsX9_readFrom ({ frames := 3, cells := 0, slots := 0, locals := 120 })).room s m ([.ref (a 38), .ref (a (26 + 2 * q))]).toArray below meth c H locs 0 0 (MQ below (QF (S := SU) D (wX cI cS a na nc N L u0) (wX cI cS a na nc N L) s.heap.size (fun r _ => Rg 0 1 r ∧ True)) ([.ref (a 38), .ref (a (26 + 2 * q))]).toArray s 0 0 (va_A (wX cI cS a na nc N L u0) s.heap.size)) (F0 m 18 ls []) := by
    intro n18
    induction n18 with
    | zero =>
      intro y18_l2 u H locs ls g18_l2 hP hD hS hl hm18
      exact absurd rfl (me_z g18_l2 hm18)
    | succ n18 ih18 =>
      intro y18_l2 u H locs ls g18_l2 hP hD hS hl hm18
      refine lv_iload_n hx hb dX9_readFrom_18 rfl (lv_at hl 2 rfl) ?_
      refine lv_aload_n hx hb dX9_readFrom_19 rfl (lv_at hl 0 rfl) ?_
      refine va_get (D := D) (ci := 9) (v := .ref (a 1)) (C := RX9) (T := TX9) (N := 6) hx hb hts hin9 hown hK hP 38 rfl rfl 0 (by decide) (hts (.fieldLink RX9 21 "MissedPoints$Told" "net" "LMissedPoints$Net;") (by decide +kernel)) (fun _ h9 => h9) rfl dX9_readFrom_20 ?_
      refine va_getN (D := D) (ci := 2) (v := .int (L 1 1)) (C := RX2) (T := TX2) (N := 3) hx hb hts hin2 hown hK hP 1 rfl rfl 1 (by decide) (va_Nw.use rfl hKK.2.2.2.2.2.2.2.2.2.2.2.2.2.2.2.2.1) (fun _ h9 => h9) rfl dX9_readFrom_23 ?_
      refine lv_icmp_ge (tgt := 69) hx hb dX9_readFrom_26 (by decide) (fun c42497 => ?_) (fun c42497 => ?_)
      · refine lv_iconst (v := 0) hx hb dX9_readFrom_69 (by decide) ?_
        refine lv_istore_n (lv' := [(2, .int 0), (0, .ref (a 38)), (1, .ref (a (26 + 2 * q)))]) hx hb dX9_readFrom_70 rfl hl (by decide) rfl (fun ls hl => ?_)
        exact lp71 13 (0 : Int32) u _ _ ls (by decide : Rg 0 12 (0 : Int32)) hP hD hS (lv_sub (l' := [(0, .ref (a 38)), (1, .ref (a (26 + 2 * q))), (2, .int 0)]) hl [1, 2, 0] rfl) (me_i (by decide : Rg 0 12 (0 : Int32)) (by decide))
      · have g42498 : Rg 1 12 (L 1 1) := rg_ltr g18_l2 hL.1 (rg_nle c42497) (by decide)
        have g42499 : Rg 0 11 y18_l2 := rg_ltl g18_l2 hL.1 (rg_nle c42497) (by decide)
        refine lv_aload_n hx hb dX9_readFrom_29 rfl (lv_at hl 1 rfl) ?_
        refine lv_iload_n hx hb dX9_readFrom_30 rfl (lv_at hl 2 rfl) ?_
        refine wk_sv (26 + 2 * q) (As := [.int y18_l2]) (rest := []) ⟨hx, hb, hml, hown, hts⟩ (k_X6_at l D cI cS a na nc N L u hL hN q hq y18_l2) hKK hP (ci := 6) rfl (gx_sh hq) (cwV 1 hts gX9_readFrom_X6_at rfl rfl rfl (by decide +kernel) ⟨Nat.le_of_ble_eq_true rfl, Nat.le_of_ble_eq_true rfl⟩) rfl hl.1 rfl (Nat.le_of_ble_eq_true rfl) dX9_readFrom_31 ⟨Nat.le_of_ble_eq_true rfl, Nat.le_of_ble_eq_true rfl⟩ (fun r42500 hr42500 => ?_)
        refine lv_istore_n (lv' := [(3, .int r42500), (0, .ref (a 38)), (1, .ref (a (26 + 2 * q))), (2, .int y18_l2)]) hx hb dX9_readFrom_34 rfl hl (by decide) rfl (fun ls hl => ?_)
        refine lv_iload_n hx hb dX9_readFrom_35 rfl (lv_at hl 0 rfl) ?_
        refine lv_iconst (v := (-1)) hx hb dX9_readFrom_36 (by decide) ?_
        refine lv_icmp_eq (tgt := 63) hx hb dX9_readFrom_37 (by decide) (fun c42501 => ?_) (fun c42501 => ?_)
        · have g42502 : Rg (-1) (-1) r42500 := wk_eql hr42500.1 (by decide : Rg (-1) (-1) ((-1) : Int32)) c42501 (by decide)
          refine wk_iinc (lv' := fun r => [(2, .int r), (3, .int r42500), (0, .ref (a 38)), (1, .ref (a (26 + 2 * q)))]) (e1 := 1) (f := 12) hx hb dX9_readFrom_63 hl (k := 3) rfl (by decide) g42499 (by decide) (fun _ => rfl) (fun r42503 ls hr42503 er42503 hl => ?_)
          refine lv_goto (tgt := 18) hx hb dX9_readFrom_66 (by decide) ?_
          exact ih18 r42503 u _ _ ls (show Rg 0 12 r42503 from rg_w hr42503 (by decide) (by decide)) hP hD hS (lv_sub (l' := [(0, .ref (a 38)), (1, .ref (a (26 + 2 * q))), (2, .int r42503)]) hl [2, 3, 0] rfl) (me_up hm18 er42503 (by decide))
        · refine lv_aload_n hx hb dX9_readFrom_40 rfl (lv_at hl 1 rfl) ?_
          refine va_get (D := D) (ci := 9) (v := .ref (a 1)) (C := RX9) (T := TX9) (N := 6) hx hb hts hin9 hown hK hP 38 rfl rfl 0 (by decide) (hts (.fieldLink RX9 21 "MissedPoints$Told" "net" "LMissedPoints$Net;") (by decide +kernel)) (fun _ h9 => h9) rfl dX9_readFrom_41 ?_
          refine lv_iload_n hx hb dX9_readFrom_44 rfl (lv_at hl 3 rfl) ?_
          refine lv_iload_n hx hb dX9_readFrom_45 rfl (lv_at hl 0 rfl) ?_
          refine wk_sv 1 (As := [.int y18_l2, .int r42500]) (rest := []) ⟨hx, hb, hml, hown, hts⟩ (k_X2_joined l D cI cS a na nc N L u hL hN y18_l2 r42500) hKK hP (ci := 2) rfl rfl (cwV 2 hts gX9_readFrom_X2_joined rfl rfl rfl (by decide +kernel) ⟨Nat.le_of_ble_eq_true rfl, Nat.le_of_ble_eq_true rfl⟩) rfl hl.1 rfl (Nat.le_of_ble_eq_true rfl) dX9_readFrom_46 ⟨Nat.le_of_ble_eq_true rfl, Nat.le_of_ble_eq_true rfl⟩ (fun r42504 hr42504 => ?_)
          refine lv_if_eq (tgt := 61) hx hb dX9_readFrom_49 (by decide) (fun c42505 => ?_) (fun c42505 => ?_)
          · have g42506 : Rg 0 0 r42504 := wk_eql hr42504.1 (by decide : Rg 0 0 (0 : Int32)) c42505 (by decide)
            refine lv_iconst (v := 0) hx hb dX9_readFrom_61 (by decide) ?_
            subst hAe
            exact W.zret (v := 0) hx hb hr (by decide) (fun t ht hW => ⟨⟨_, u, rfl, ⟨(by decide : Rg 0 1 (0 : Int32)), trivial⟩, by rw [ht]; exact hP, hD⟩, hS.F ht⟩) hS.2.2 dX9_readFrom_62
          · have g42507 : Rg 0 11 r42500 := (hr42504.2 c42505).2
            have g42508 : Rg 1 1 r42504 := rg_ne_lo (k := 0) hr42504.1 (by decide) c42505 (by decide)
            refine lv_aload_n hx hb dX9_readFrom_52 rfl (lv_at hl 2 rfl) ?_
            refine lv_iload_n hx hb dX9_readFrom_53 rfl (lv_at hl 0 rfl) ?_
            refine wk_sv (26 + 2 * q) (As := [.int r42500]) (rest := []) ⟨hx, hb, hml, hown, hts⟩ (k_X6_at l D cI cS a na nc N L u hL hN q hq r42500) hKK hP (ci := 6) rfl (gx_sh hq) (cwV 1 hts gX9_readFrom_X6_at rfl rfl rfl (by decide +kernel) ⟨Nat.le_of_ble_eq_true rfl, Nat.le_of_ble_eq_true rfl⟩) rfl hl.1 rfl (Nat.le_of_ble_eq_true rfl) dX9_readFrom_54 ⟨Nat.le_of_ble_eq_true rfl, Nat.le_of_ble_eq_true rfl⟩ (fun r42509 hr42509 => ?_)
            refine lv_iload_n hx hb dX9_readFrom_57 rfl (lv_at hl 3 rfl) ?_
            refine lv_icmp_eq (tgt := 63) hx hb dX9_readFrom_58 (by decide) (fun c42510 => ?_) (fun c42510 => ?_)
            · have g42511 : Rg 0 11 r42509 := wk_eql hr42509.1 g42499 c42510 (by decide)
              refine wk_iinc (lv' := fun r => [(2, .int r), (3, .int r42500), (0, .ref (a 38)), (1, .ref (a (26 + 2 * q)))]) (e1 := 1) (f := 12) hx hb dX9_readFrom_63 hl (k := 3) rfl (by decide) g42499 (by decide) (fun _ => rfl) (fun r42512 ls hr42512 er42512 hl => ?_)
              refine lv_goto (tgt := 18) hx hb dX9_readFrom_66 (by decide) ?_
              exact ih18 r42512 u _ _ ls (show Rg 0 12 r42512 from rg_w hr42512 (by decide) (by decide)) hP hD hS (lv_sub (l' := [(0, .ref (a 38)), (1, .ref (a (26 + 2 * q))), (2, .int r42512)]) hl [2, 3, 0] rfl) (me_up hm18 er42512 (by decide))
            · refine lv_iconst (v := 0) hx hb dX9_readFrom_61 (by decide) ?_
              subst hAe
              exact W.zret (v := 0) hx hb hr (by decide) (fun t ht hW => ⟨⟨_, u, rfl, ⟨(by decide : Rg 0 1 (0 : Int32)), trivial⟩, by rw [ht]; exact hP, hD⟩, hS.F ht⟩) hS.2.2 dX9_readFrom_62
  refine lv_aload_n hx hb dX9_readFrom_0 rfl (lv_at hl 1 rfl) ?_
  refine va_getN (D := D) (ci := 6) (v := .int ((L (26 + 2 * q) 2))) (C := RX6) (T := TX6) (N := 3) hx hb hts hin6 hown hK hP (26 + 2 * q) (gx_sh hq) rfl 2 (by decide) (va_Nw.use rfl hKK.2.2.2.2.2.2.2.2.2.2.2.2.2.2.2.1) (fun _ h9 => h9) rfl dX9_readFrom_1 ?_
  refine lv_aload_n hx hb dX9_readFrom_4 rfl (lv_at hl 0 rfl) ?_
  refine va_get (D := D) (ci := 9) (v := .ref (a 1)) (C := RX9) (T := TX9) (N := 6) hx hb hts hin9 hown hK hP 38 rfl rfl 0 (by decide) (hts (.fieldLink RX9 21 "MissedPoints$Told" "net" "LMissedPoints$Net;") (by decide +kernel)) (fun _ h9 => h9) rfl dX9_readFrom_5 ?_
  refine va_getN (D := D) (ci := 2) (v := .int (L 1 1)) (C := RX2) (T := TX2) (N := 3) hx hb hts hin2 hown hK hP 1 rfl rfl 1 (by decide) (va_Nw.use rfl hKK.2.2.2.2.2.2.2.2.2.2.2.2.2.2.2.2.1) (fun _ h9 => h9) rfl dX9_readFrom_8 ?_
  refine lv_icmp_eq (tgt := 16) hx hb dX9_readFrom_11 (by decide) (fun c42513 => ?_) (fun c42513 => ?_)
  · have g42514 : Rg 0 12 ((L (26 + 2 * q) 2)) := wk_eql (hL.sh hq) hL.1 c42513 (by decide)
    refine lv_iconst (v := 0) hx hb dX9_readFrom_16 (by decide) ?_
    refine lv_istore_n (lv' := [(2, .int 0), (0, .ref (a 38)), (1, .ref (a (26 + 2 * q)))]) hx hb dX9_readFrom_17 rfl hl (by decide) rfl (fun ls hl => ?_)
    exact lp18 13 (0 : Int32) u _ _ ls (by decide : Rg 0 12 (0 : Int32)) hP hD hS (lv_sub (l' := [(0, .ref (a 38)), (1, .ref (a (26 + 2 * q))), (2, .int 0)]) hl [1, 2, 0] rfl) (me_i (by decide : Rg 0 12 (0 : Int32)) (by decide))
  · refine lv_iconst (v := 0) hx hb dX9_readFrom_14 (by decide) ?_
    subst hAe
    exact W.zret (v := 0) hx hb hr (by decide) (fun t ht hW => ⟨⟨_, u, rfl, ⟨(by decide : Rg 0 1 (0 : Int32)), trivial⟩, by rw [ht]; exact hP, hD⟩, hS.F ht⟩) hS.2.2 dX9_readFrom_15
set_option maxRecDepth 20000 in
theorem ggX9_hasWayOf_X9_goOn : GoodIn wsX9_hasWayOf wsX9_goOn := goodIn_r _ [8, 1, 3, 2, 9, 10, 11, 12, 13, 14, 15, 16, 17, 18, 19, 4, 5, 6, 7, 20, 21, 22, 23, 24, 25, 26, 27, 28] rfl (by decide +kernel)
set_option maxRecDepth 20000 in
theorem gX9_hasWayOf_X9_goOn : GoodIn wsX9_hasWayOf (wsV RX9 84 RX9 yX9_goOn wsX9_goOn) := goodIn_app (goodIn_of _ (by decide +kernel)) ggX9_hasWayOf_X9_goOn
theorem dX9_hasWayOf_0 : decode cX9_hasWayOf 0 = .ok (.iconst 0, 1) := by decide +kernel
theorem dX9_hasWayOf_1 : decode cX9_hasWayOf 1 = .ok (.istore_n 2, 1) := by decide +kernel
theorem dX9_hasWayOf_10 : decode cX9_hasWayOf 10 = .ok (.if_icmp .ge 39, 3) := by decide +kernel
theorem dX9_hasWayOf_13 : decode cX9_hasWayOf 13 = .ok (.aload_n 0, 1) := by decide +kernel
theorem dX9_hasWayOf_14 : decode cX9_hasWayOf 14 = .ok (.getfield 9, 3) := by decide +kernel
theorem dX9_hasWayOf_17 : decode cX9_hasWayOf 17 = .ok (.iload_n 2, 1) := by decide +kernel
theorem dX9_hasWayOf_18 : decode cX9_hasWayOf 18 = .ok (.iaload, 1) := by decide +kernel
theorem dX9_hasWayOf_19 : decode cX9_hasWayOf 19 = .ok (.ifCond .ge 24, 3) := by decide +kernel
theorem dX9_hasWayOf_2 : decode cX9_hasWayOf 2 = .ok (.iload_n 2, 1) := by decide +kernel
theorem dX9_hasWayOf_22 : decode cX9_hasWayOf 22 = .ok (.aload_n 0, 1) := by decide +kernel
theorem dX9_hasWayOf_23 : decode cX9_hasWayOf 23 = .ok (.getfield 15, 3) := by decide +kernel
theorem dX9_hasWayOf_26 : decode cX9_hasWayOf 26 = .ok (.iconst 0, 1) := by decide +kernel
theorem dX9_hasWayOf_27 : decode cX9_hasWayOf 27 = .ok (.iload_n 2, 1) := by decide +kernel
theorem dX9_hasWayOf_28 : decode cX9_hasWayOf 28 = .ok (.iastore, 1) := by decide +kernel
theorem dX9_hasWayOf_29 : decode cX9_hasWayOf 29 = .ok (.aload_n 0, 1) := by decide +kernel
theorem dX9_hasWayOf_3 : decode cX9_hasWayOf 3 = .ok (.aload_n 0, 1) := by decide +kernel
theorem dX9_hasWayOf_30 : decode cX9_hasWayOf 30 = .ok (.iconst 1, 1) := by decide +kernel
theorem dX9_hasWayOf_31 : decode cX9_hasWayOf 31 = .ok (.iload_n 1, 1) := by decide +kernel
theorem dX9_hasWayOf_32 : decode cX9_hasWayOf 32 = .ok (.iconst 1, 1) := by decide +kernel
theorem dX9_hasWayOf_33 : decode cX9_hasWayOf 33 = .ok (.iload_n 2, 1) := by decide +kernel
theorem dX9_hasWayOf_34 : decode cX9_hasWayOf 34 = .ok (.ishl, 1) := by decide +kernel
theorem dX9_hasWayOf_35 : decode cX9_hasWayOf 35 = .ok (.invokevirtual 84, 3) := by decide +kernel
theorem dX9_hasWayOf_38 : decode cX9_hasWayOf 38 = .ok (.ifCond .eq 5, 3) := by decide +kernel
theorem dX9_hasWayOf_4 : decode cX9_hasWayOf 4 = .ok (.getfield 21, 3) := by decide +kernel
theorem dX9_hasWayOf_41 : decode cX9_hasWayOf 41 = .ok (.iconst 1, 1) := by decide +kernel
theorem dX9_hasWayOf_42 : decode cX9_hasWayOf 42 = .ok (.ireturn, 1) := by decide +kernel
theorem dX9_hasWayOf_43 : decode cX9_hasWayOf 43 = .ok (.iinc 2 1, 3) := by decide +kernel
theorem dX9_hasWayOf_46 : decode cX9_hasWayOf 46 = .ok (.goto (-44), 3) := by decide +kernel
theorem dX9_hasWayOf_49 : decode cX9_hasWayOf 49 = .ok (.iconst 0, 1) := by decide +kernel
theorem dX9_hasWayOf_50 : decode cX9_hasWayOf 50 = .ok (.ireturn, 1) := by decide +kernel
theorem dX9_hasWayOf_7 : decode cX9_hasWayOf 7 = .ok (.getfield 41, 3) := by decide +kernel
set_option maxHeartbeats 4000000 in
set_option maxRecDepth 100000 in
theorem k_X9_hasWayOf (l : Launch) (D : va_G) (cI cS : ClassId) (sz : Nat) (a : Nat → Nat) (na nc N : Nat) (L u0 : SU) (hL : TyX L) (hN : N = 0 ∨ N = 24576) (x0 : Int32) : Met l yX9_hasWayOf wsX9_hasWayOf ({ frames := 15, cells := 0, slots := 0, locals := 600 }) (PQ D cI cS (wX cI cS a na nc N L u0) sz [.ref (a 34), .int x0]) (QF (S := SU) D (wX cI cS a na nc N L u0) (wX cI cS a na nc N L) sz (fun r _ => Rg 0 1 r ∧ True)) 0 0 (va_A (wX cI cS a na nc N L u0) sz) := by
  refine Met.ofW (cc := cX9_hasWayOf) (maxL := 3) (ret := (some .boolean)) (by decide) rfl ?_
  intro p e s m args below meth c s₁ B hml hv
  obtain ⟨rfl, hsz, hP, hKK, hD0⟩ := hv
  have hx := B.exec
  have hb := B.bytes
  have hr := B.returns
  have hts := atoms_spec (ws := wsX9_hasWayOf) B.pre
  have hown : s.vm.findClass RX9 = some m.cls := findClass_of_methodNamed B.named
  have hlocks := B.notSynchronized
  have hK := hKK.1
  have hin2 : ∀ w ∈ wsX20, w ∈ wsX9_hasWayOf := by decide +kernel
  have hin9 : ∀ w ∈ wsX90, w ∈ wsX9_hasWayOf := by decide +kernel
  subst hsz
  have hD := hD0.self (sz := s.heap.size)
  obtain ⟨A, hAe⟩ : ∃ A, A = va_A (wX cI cS a na nc N L u0) s.heap.size := ⟨_, rfl⟩
  rw [← hAe] at hD
  have hA : ∀ q : Nat, s.heap.size ≤ q → A q := fun q h => by rw [hAe]; exact Or.inr h
  have hS : va_S A s.heap s.heap [] := va_S.rf
  have hl := lv_entry ([.ref (a 34), .int x0]) (n := 3) (Nat.le_of_ble_eq_true rfl)
  rw [lg_entry_eq]
  generalize (lg_sl ([.ref (a 34), .int x0]) ++ List.replicate (3 - (lg_sl ([.ref (a 34), .int x0])).length) Slot.unset).toArray = ls at hl ⊢
  have hl : lv_has ls 3 [(0, .ref (a 34)), (1, .int x0)] := hl
  obtain ⟨u, hu9⟩ : ∃ u : SU, u = u0 := ⟨_, rfl⟩
  rw [← hu9] at hP hD
  have lp2 : ∀ (n2 : Nat) (y2_l2 : Int32) (u : SU) (H : Heap) (locs : List Loc) (ls : Array Slot), Rg 0 12 y2_l2 → va_P D cls (wX cI cS a na nc N L u) H → va_D A (wX cI cS a na nc N L u) → va_S A s.heap H locs → lv_has ls 3 [(0, .ref (a 34)), (1, .int x0), (2, .int y2_l2)] → 12 - y2_l2.toInt < (n2 : Int) → W p l e (headSpec wsX9_hasWayOf ({ frames := 15, cells := 0, slots := 0, locals := 600 })).room s m ([.ref (a 34), .int x0]).toArray below meth c H locs 0 0 (MQ below (QF (S := SU) D (wX cI cS a na nc N L u0) (wX cI cS a na nc N L) s.heap.size (fun r _ => Rg 0 1 r ∧ True)) ([.ref (a 34), .int x0]).toArray s 0 0 (va_A (wX cI cS a na nc N L u0) s.heap.size)) (F0 m 2 ls []) := by
    intro n2
    induction n2 with
    | zero =>
      intro y2_l2 u H locs ls g2_l2 hP hD hS hl hm2
      exact absurd rfl (me_z g2_l2 hm2)
    | succ n2 ih2 =>
      intro y2_l2 u H locs ls g2_l2 hP hD hS hl hm2
      refine lv_iload_n hx hb dX9_hasWayOf_2 rfl (lv_at hl 2 rfl) ?_
      refine lv_aload_n hx hb dX9_hasWayOf_3 rfl (lv_at hl 0 rfl) ?_
      refine va_get (D := D) (ci := 9) (v := .ref (a 1)) (C := RX9) (T := TX9) (N := 6) hx hb hts hin9 hown hK hP 34 rfl rfl 0 (by decide) (hts (.fieldLink RX9 21 "MissedPoints$Told" "net" "LMissedPoints$Net;") (by decide +kernel)) (fun _ h9 => h9) rfl dX9_hasWayOf_4 ?_
      refine va_getN (D := D) (ci := 2) (v := .int (L 1 1)) (C := RX2) (T := TX2) (N := 3) hx hb hts hin2 hown hK hP 1 rfl rfl 1 (by decide) (va_Nw.use rfl hKK.2.2.2.2.2.2.2.2.2.2.2.2.2.2.2.2.1) (fun _ h9 => h9) rfl dX9_hasWayOf_7 ?_
      refine lv_icmp_ge (tgt := 49) hx hb dX9_hasWayOf_10 (by decide) (fun c42634 => ?_) (fun c42634 => ?_)
      · refine lv_iconst (v := 0) hx hb dX9_hasWayOf_49 (by decide) ?_
        subst hAe
        exact W.zret (v := 0) hx hb hr (by decide) (fun t ht hW => ⟨⟨_, u, rfl, ⟨(by decide : Rg 0 1 (0 : Int32)), trivial⟩, by rw [ht]; exact hP, hD⟩, hS.F ht⟩) hS.2.2 dX9_hasWayOf_50
      · have g42635 : Rg 1 12 (L 1 1) := rg_ltr g2_l2 hL.1 (rg_nle c42634) (by decide)
        have g42636 : Rg 0 11 y2_l2 := rg_ltl g2_l2 hL.1 (rg_nle c42634) (by decide)
        refine lv_aload_n hx hb dX9_hasWayOf_13 rfl (lv_at hl 0 rfl) ?_
        refine va_get (D := D) (ci := 9) (v := .ref (a 35)) (C := RX9) (T := TX9) (N := 6) hx hb hts hin9 hown hK hP 34 rfl rfl 2 (by decide) (hts (.fieldLink RX9 9 "MissedPoints$Told" "mates" "[I") (by decide +kernel)) (fun _ h9 => h9) rfl dX9_hasWayOf_14 ?_
        refine lv_iload_n hx hb dX9_hasWayOf_17 rfl (lv_at hl 2 rfl) ?_
        refine wk_aldA hx hb hK hP 35 0 rfl rfl (rg_in g42636 (by decide) (by decide)) dX9_hasWayOf_18 (fun r42637 => ?_)
        refine lv_if_ge (tgt := 43) hx hb dX9_hasWayOf_19 (by decide) (fun c42638 => ?_) (fun c42638 => ?_)
        · have g42639 : Rg 0 2147483647 r42637 := rg_ler (by decide : Rg 0 0 (0 : Int32)) (rg_any r42637) c42638 (by decide)
          refine wk_iinc (lv' := fun r => [(2, .int r), (0, .ref (a 34)), (1, .int x0)]) (e1 := 1) (f := 12) hx hb dX9_hasWayOf_43 hl (k := 2) rfl (by decide) g42636 (by decide) (fun _ => rfl) (fun r42640 ls hr42640 er42640 hl => ?_)
          refine lv_goto (tgt := 2) hx hb dX9_hasWayOf_46 (by decide) ?_
          exact ih2 r42640 u _ _ ls (show Rg 0 12 r42640 from rg_w hr42640 (by decide) (by decide)) hP hD hS (lv_sub (l' := [(0, .ref (a 34)), (1, .int x0), (2, .int r42640)]) hl [1, 2, 0] rfl) (me_up hm2 er42640 (by decide))
        · have g42641 : Rg (-2147483648) (-1) r42637 := rg_ltl (rg_any r42637) (by decide : Rg 0 0 (0 : Int32)) (rg_nle c42638) (by decide)
          refine lv_aload_n hx hb dX9_hasWayOf_22 rfl (lv_at hl 0 rfl) ?_
          refine va_get (D := D) (ci := 9) (v := .ref (a 36)) (C := RX9) (T := TX9) (N := 6) hx hb hts hin9 hown hK hP 34 rfl rfl 3 (by decide) (hts (.fieldLink RX9 15 "MissedPoints$Told" "row" "[I") (by decide +kernel)) (fun _ h9 => h9) rfl dX9_hasWayOf_23 ?_
          refine lv_iconst (v := 0) hx hb dX9_hasWayOf_26 (by decide) ?_
          refine lv_iload_n hx hb dX9_hasWayOf_27 rfl (lv_at hl 2 rfl) ?_
          refine ks_ast hx hb hK hP hD hS rfl (k := 36) rfl sx_36 (rg_in (by decide : Rg 0 0 (0 : Int32)) (by decide) (by decide)) dX9_hasWayOf_28 (fun u H locs hP hD hS => ?_)
          refine lv_aload_n hx hb dX9_hasWayOf_29 rfl (lv_at hl 0 rfl) ?_
          refine lv_iconst (v := 1) hx hb dX9_hasWayOf_30 (by decide) ?_
          refine lv_iload_n hx hb dX9_hasWayOf_31 rfl (lv_at hl 1 rfl) ?_
          refine lv_iconst (v := 1) hx hb dX9_hasWayOf_32 (by decide) ?_
          refine lv_iload_n hx hb dX9_hasWayOf_33 rfl (lv_at hl 2 rfl) ?_
          refine wk_ishl1 (f := 2048) hx hb dX9_hasWayOf_34 g42636 (by decide) (fun r42642 hr42642 qr42642 => ?_)
          refine wk_qi (wX cI cS a na nc N L) u (As := [.int 1, .int x0, .int r42642]) (rest := []) ⟨hx, hb, hml, hown, hts⟩ (k_X9_goOn l D cI cS _ a na nc N L u hL hN (1 : Int32) x0 r42642 (by decide : Rg 1 1 (1 : Int32))) hKK hP hD hS hA 34 (ci := 9) rfl rfl (cwV 3 hts gX9_hasWayOf_X9_goOn rfl rfl rfl (by decide +kernel) ⟨Nat.le_of_ble_eq_true rfl, Nat.le_of_ble_eq_true rfl⟩) rfl hl.1 rfl (Nat.le_of_ble_eq_true rfl) dX9_hasWayOf_35 ⟨Nat.le_of_ble_eq_true rfl, Nat.le_of_ble_eq_true rfl⟩ (fun r42643 u H locs hr42643 hP hD hS => ?_)
          refine lv_if_eq (tgt := 43) hx hb dX9_hasWayOf_38 (by decide) (fun c42644 => ?_) (fun c42644 => ?_)
          · have g42645 : Rg 0 0 r42643 := wk_eql hr42643.1 (by decide : Rg 0 0 (0 : Int32)) c42644 (by decide)
            refine wk_iinc (lv' := fun r => [(2, .int r), (0, .ref (a 34)), (1, .int x0)]) (e1 := 1) (f := 12) hx hb dX9_hasWayOf_43 hl (k := 2) rfl (by decide) g42636 (by decide) (fun _ => rfl) (fun r42646 ls hr42646 er42646 hl => ?_)
            refine lv_goto (tgt := 2) hx hb dX9_hasWayOf_46 (by decide) ?_
            exact ih2 r42646 u _ _ ls (show Rg 0 12 r42646 from rg_w hr42646 (by decide) (by decide)) hP hD hS (lv_sub (l' := [(0, .ref (a 34)), (1, .int x0), (2, .int r42646)]) hl [1, 2, 0] rfl) (me_up hm2 er42646 (by decide))
          · have g42647 : Rg 1 1 r42643 := rg_ne_lo (k := 0) hr42643.1 (by decide) c42644 (by decide)
            refine lv_iconst (v := 1) hx hb dX9_hasWayOf_41 (by decide) ?_
            subst hAe
            exact W.zret (v := 1) hx hb hr (by decide) (fun t ht hW => ⟨⟨_, u, rfl, ⟨(by decide : Rg 0 1 (1 : Int32)), trivial⟩, by rw [ht]; exact hP, hD⟩, hS.F ht⟩) hS.2.2 dX9_hasWayOf_42
  refine lv_iconst (v := 0) hx hb dX9_hasWayOf_0 (by decide) ?_
  refine lv_istore_n (lv' := [(2, .int 0), (0, .ref (a 34)), (1, .int x0)]) hx hb dX9_hasWayOf_1 rfl hl (by decide) rfl (fun ls hl => ?_)
  exact lp2 13 (0 : Int32) u _ _ ls (by decide : Rg 0 12 (0 : Int32)) hP hD hS (lv_sub (l' := [(0, .ref (a 34)), (1, .int x0), (2, .int 0)]) hl [1, 2, 0] rfl) (me_i (by decide : Rg 0 12 (0 : Int32)) (by decide))
set_option maxRecDepth 20000 in
theorem ggX9_seekWay_X2_all : GoodIn wsX9_seekWay wsX2_all := goodIn_r _ [25, 26, 89, 90, 91] rfl (by decide +kernel)
set_option maxRecDepth 20000 in
theorem gX9_seekWay_X2_all : GoodIn wsX9_seekWay (wsV RX9 74 RX2 yX2_all wsX2_all) := goodIn_app (goodIn_of _ (by decide +kernel)) ggX9_seekWay_X2_all
set_option maxRecDepth 20000 in
theorem ggX9_seekWay_X3_best : GoodIn wsX9_seekWay wsX3_best := goodIn_r _ [31, 32, 33, 34, 30, 35, 36, 37, 38, 39, 40, 41, 42, 43, 44, 45, 46, 47, 48, 49, 50, 51, 52, 16, 53, 54, 55, 56, 57, 58, 59, 60, 15, 17, 18, 19, 20, 61, 62, 63, 64, 92, 93, 94, 95, 89, 90, 91, 96, 97] rfl (by decide +kernel)
set_option maxRecDepth 20000 in
theorem gX9_seekWay_X3_best : GoodIn wsX9_seekWay (wsV RX9 77 RX3 yX3_best wsX3_best) := goodIn_app (goodIn_of _ (by decide +kernel)) ggX9_seekWay_X3_best
set_option maxRecDepth 20000 in
theorem ggX9_seekWay_X9_hasWayOf : GoodIn wsX9_seekWay wsX9_hasWayOf := goodIn_r _ [68, 3, 13, 69, 70, 71, 72, 7, 73, 74, 75, 76, 24, 77, 78, 79, 80, 81, 82, 26, 83, 84, 85, 86, 87, 88, 89, 90, 91] rfl (by decide +kernel)
set_option maxRecDepth 20000 in
theorem gX9_seekWay_X9_hasWayOf : GoodIn wsX9_seekWay (wsV RX9 80 RX9 yX9_hasWayOf wsX9_hasWayOf) := goodIn_app (goodIn_of _ (by decide +kernel)) ggX9_seekWay_X9_hasWayOf
set_option maxRecDepth 20000 in
theorem ggX9_seekWay_X9_lineCount : GoodIn wsX9_seekWay wsX9_lineCount := goodIn_r _ [8, 3, 9, 10, 11, 7, 12, 13, 14, 15, 16, 17, 18, 19, 20, 83, 84, 85, 86, 87, 88, 89, 90, 91] rfl (by decide +kernel)
set_option maxRecDepth 20000 in
theorem gX9_seekWay_X9_lineCount : GoodIn wsX9_seekWay (wsV RX9 71 RX9 yX9_lineCount wsX9_lineCount) := goodIn_app (goodIn_of _ (by decide +kernel)) ggX9_seekWay_X9_lineCount
theorem dX9_seekWay_0 : decode cX9_seekWay 0 = .ok (.aload_n 0, 1) := by decide +kernel
theorem dX9_seekWay_1 : decode cX9_seekWay 1 = .ok (.iconst 0, 1) := by decide +kernel
theorem dX9_seekWay_10 : decode cX9_seekWay 10 = .ok (.getfield 25, 3) := by decide +kernel
theorem dX9_seekWay_13 : decode cX9_seekWay 13 = .ok (.aload_n 0, 1) := by decide +kernel
theorem dX9_seekWay_14 : decode cX9_seekWay 14 = .ok (.getfield 21, 3) := by decide +kernel
theorem dX9_seekWay_17 : decode cX9_seekWay 17 = .ok (.invokevirtual 74, 3) := by decide +kernel
theorem dX9_seekWay_2 : decode cX9_seekWay 2 = .ok (.putfield 68, 3) := by decide +kernel
theorem dX9_seekWay_20 : decode cX9_seekWay 20 = .ok (.invokevirtual 77, 3) := by decide +kernel
theorem dX9_seekWay_23 : decode cX9_seekWay 23 = .ok (.if_icmp .lt 5, 3) := by decide +kernel
theorem dX9_seekWay_26 : decode cX9_seekWay 26 = .ok (.iconst 0, 1) := by decide +kernel
theorem dX9_seekWay_27 : decode cX9_seekWay 27 = .ok (.ireturn, 1) := by decide +kernel
theorem dX9_seekWay_28 : decode cX9_seekWay 28 = .ok (.iconst 2, 1) := by decide +kernel
theorem dX9_seekWay_29 : decode cX9_seekWay 29 = .ok (.istore_n 1, 1) := by decide +kernel
theorem dX9_seekWay_30 : decode cX9_seekWay 30 = .ok (.iload_n 1, 1) := by decide +kernel
theorem dX9_seekWay_31 : decode cX9_seekWay 31 = .ok (.aload_n 0, 1) := by decide +kernel
theorem dX9_seekWay_32 : decode cX9_seekWay 32 = .ok (.getfield 21, 3) := by decide +kernel
theorem dX9_seekWay_35 : decode cX9_seekWay 35 = .ok (.getfield 41, 3) := by decide +kernel
theorem dX9_seekWay_38 : decode cX9_seekWay 38 = .ok (.if_icmp .gt 29, 3) := by decide +kernel
theorem dX9_seekWay_41 : decode cX9_seekWay 41 = .ok (.aload_n 0, 1) := by decide +kernel
theorem dX9_seekWay_42 : decode cX9_seekWay 42 = .ok (.getfield 68, 3) := by decide +kernel
theorem dX9_seekWay_45 : decode cX9_seekWay 45 = .ok (.ifCond .ne 22, 3) := by decide +kernel
theorem dX9_seekWay_48 : decode cX9_seekWay 48 = .ok (.aload_n 0, 1) := by decide +kernel
theorem dX9_seekWay_49 : decode cX9_seekWay 49 = .ok (.iload_n 1, 1) := by decide +kernel
theorem dX9_seekWay_5 : decode cX9_seekWay 5 = .ok (.aload_n 0, 1) := by decide +kernel
theorem dX9_seekWay_50 : decode cX9_seekWay 50 = .ok (.invokevirtual 80, 3) := by decide +kernel
theorem dX9_seekWay_53 : decode cX9_seekWay 53 = .ok (.ifCond .eq 8, 3) := by decide +kernel
theorem dX9_seekWay_56 : decode cX9_seekWay 56 = .ok (.aload_n 0, 1) := by decide +kernel
theorem dX9_seekWay_57 : decode cX9_seekWay 57 = .ok (.iload_n 1, 1) := by decide +kernel
theorem dX9_seekWay_58 : decode cX9_seekWay 58 = .ok (.putfield 68, 3) := by decide +kernel
theorem dX9_seekWay_6 : decode cX9_seekWay 6 = .ok (.invokevirtual 71, 3) := by decide +kernel
theorem dX9_seekWay_61 : decode cX9_seekWay 61 = .ok (.iinc 1 2, 3) := by decide +kernel
theorem dX9_seekWay_64 : decode cX9_seekWay 64 = .ok (.goto (-34), 3) := by decide +kernel
theorem dX9_seekWay_67 : decode cX9_seekWay 67 = .ok (.aload_n 0, 1) := by decide +kernel
theorem dX9_seekWay_68 : decode cX9_seekWay 68 = .ok (.getfield 68, 3) := by decide +kernel
theorem dX9_seekWay_71 : decode cX9_seekWay 71 = .ok (.ireturn, 1) := by decide +kernel
theorem dX9_seekWay_9 : decode cX9_seekWay 9 = .ok (.aload_n 0, 1) := by decide +kernel
set_option maxHeartbeats 4000000 in
set_option maxRecDepth 100000 in
theorem k_X9_seekWay (l : Launch) (D : va_G) (cI cS : ClassId) (sz : Nat) (a : Nat → Nat) (na nc N : Nat) (L u0 : SU) (hL : TyX L) (hN : N = 0 ∨ N = 24576) : Met l yX9_seekWay wsX9_seekWay ({ frames := 16, cells := 0, slots := 0, locals := 640 }) (PQ D cI cS (wX cI cS a na nc N L u0) sz [.ref (a 34)]) (QF (S := SU) D (wX cI cS a na nc N L u0) (wX cI cS a na nc N L) sz (fun r _ => Rg (-2147483648) 2147483647 r ∧ True)) 0 0 (va_A (wX cI cS a na nc N L u0) sz) := by
  refine Met.ofW (cc := cX9_seekWay) (maxL := 2) (ret := (some .int)) (by decide) rfl ?_
  intro p e s m args below meth c s₁ B hml hv
  obtain ⟨rfl, hsz, hP, hKK, hD0⟩ := hv
  have hx := B.exec
  have hb := B.bytes
  have hr := B.returns
  have hts := atoms_spec (ws := wsX9_seekWay) B.pre
  have hown : s.vm.findClass RX9 = some m.cls := findClass_of_methodNamed B.named
  have hlocks := B.notSynchronized
  have hK := hKK.1
  have hin2 : ∀ w ∈ wsX20, w ∈ wsX9_seekWay := by decide +kernel
  have hin9 : ∀ w ∈ wsX90, w ∈ wsX9_seekWay := by decide +kernel
  subst hsz
  have hD := hD0.self (sz := s.heap.size)
  obtain ⟨A, hAe⟩ : ∃ A, A = va_A (wX cI cS a na nc N L u0) s.heap.size := ⟨_, rfl⟩
  rw [← hAe] at hD
  have hA : ∀ q : Nat, s.heap.size ≤ q → A q := fun q h => by rw [hAe]; exact Or.inr h
  have hS : va_S A s.heap s.heap [] := va_S.rf
  have hl := lv_entry ([.ref (a 34)]) (n := 2) (Nat.le_of_ble_eq_true rfl)
  rw [lg_entry_eq]
  generalize (lg_sl ([.ref (a 34)]) ++ List.replicate (2 - (lg_sl ([.ref (a 34)])).length) Slot.unset).toArray = ls at hl ⊢
  have hl : lv_has ls 2 [(0, .ref (a 34))] := hl
  obtain ⟨u, hu9⟩ : ∃ u : SU, u = u0 := ⟨_, rfl⟩
  rw [← hu9] at hP hD
  have lp30 : ∀ (n30 : Nat) (y30_l1 : Int32) (u : SU) (H : Heap) (locs : List Loc) (ls : Array Slot), Rg 2 20 y30_l1 → va_P D cls (wX cI cS a na nc N L u) H → va_D A (wX cI cS a na nc N L u) → va_S A s.heap H locs → lv_has ls 2 [(0, .ref (a 34)), (1, .int y30_l1)] → 20 - y30_l1.toInt < (n30 : Int) → W p l e (headSpec wsX9_seekWay ({ frames := 16, cells := 0, slots := 0, locals := 640 })).room s m ([.ref (a 34)]).toArray below meth c H locs 0 0 (MQ below (QF (S := SU) D (wX cI cS a na nc N L u0) (wX cI cS a na nc N L) s.heap.size (fun r _ => Rg (-2147483648) 2147483647 r ∧ True)) ([.ref (a 34)]).toArray s 0 0 (va_A (wX cI cS a na nc N L u0) s.heap.size)) (F0 m 30 ls []) := by
    intro n30
    induction n30 with
    | zero =>
      intro y30_l1 u H locs ls g30_l1 hP hD hS hl hm30
      exact absurd rfl (me_z g30_l1 hm30)
    | succ n30 ih30 =>
      intro y30_l1 u H locs ls g30_l1 hP hD hS hl hm30
      refine lv_iload_n hx hb dX9_seekWay_30 rfl (lv_at hl 1 rfl) ?_
      refine lv_aload_n hx hb dX9_seekWay_31 rfl (lv_at hl 0 rfl) ?_
      refine va_get (D := D) (ci := 9) (v := .ref (a 1)) (C := RX9) (T := TX9) (N := 6) hx hb hts hin9 hown hK hP 34 rfl rfl 0 (by decide) (hts (.fieldLink RX9 21 "MissedPoints$Told" "net" "LMissedPoints$Net;") (by decide +kernel)) (fun _ h9 => h9) rfl dX9_seekWay_32 ?_
      refine va_getN (D := D) (ci := 2) (v := .int (L 1 1)) (C := RX2) (T := TX2) (N := 3) hx hb hts hin2 hown hK hP 1 rfl rfl 1 (by decide) (va_Nw.use rfl hKK.2.2.2.2.2.2.2.2.2.2.2.2.2.2.2.2.1) (fun _ h9 => h9) rfl dX9_seekWay_35 ?_
      refine lv_icmp_gt (tgt := 67) hx hb dX9_seekWay_38 (by decide) (fun c42786 => ?_) (fun c42786 => ?_)
      · refine lv_aload_n hx hb dX9_seekWay_67 rfl (lv_at hl 0 rfl) ?_
        refine va_get (D := D) (ci := 9) (v := .int (u 34 5)) (C := RX9) (T := TX9) (N := 6) hx hb hts hin9 hown hK hP 34 rfl rfl 5 (by decide) (hts (.fieldLink RX9 68 "MissedPoints$Told" "rowLength" "I") (by decide +kernel)) (fun _ h9 => h9) rfl dX9_seekWay_68 ?_
        refine wk_any (fun r42787 => ?_)
        subst hAe
        exact W.iret (v := r42787) hx hb hr (fun t ht hW => ⟨⟨_, u, rfl, ⟨(rg_any r42787), trivial⟩, by rw [ht]; exact hP, hD⟩, hS.F ht⟩) hS.2.2 dX9_seekWay_71
      · have g42788 : Rg 2 12 (L 1 1) := rg_ler g30_l1 hL.1 (rg_nlt c42786) (by decide)
        have g42789 : Rg 2 12 y30_l1 := rg_lel g30_l1 hL.1 (rg_nlt c42786) (by decide)
        refine lv_aload_n hx hb dX9_seekWay_41 rfl (lv_at hl 0 rfl) ?_
        refine va_get (D := D) (ci := 9) (v := .int (u 34 5)) (C := RX9) (T := TX9) (N := 6) hx hb hts hin9 hown hK hP 34 rfl rfl 5 (by decide) (hts (.fieldLink RX9 68 "MissedPoints$Told" "rowLength" "I") (by decide +kernel)) (fun _ h9 => h9) rfl dX9_seekWay_42 ?_
        refine wk_any (fun r42790 => ?_)
        refine lv_if_ne (tgt := 67) hx hb dX9_seekWay_45 (by decide) (fun c42791 => ?_) (fun c42791 => ?_)
        · refine lv_aload_n hx hb dX9_seekWay_67 rfl (lv_at hl 0 rfl) ?_
          refine va_get (D := D) (ci := 9) (v := .int (u 34 5)) (C := RX9) (T := TX9) (N := 6) hx hb hts hin9 hown hK hP 34 rfl rfl 5 (by decide) (hts (.fieldLink RX9 68 "MissedPoints$Told" "rowLength" "I") (by decide +kernel)) (fun _ h9 => h9) rfl dX9_seekWay_68 ?_
          refine wk_any (fun r42792 => ?_)
          subst hAe
          exact W.iret (v := r42792) hx hb hr (fun t ht hW => ⟨⟨_, u, rfl, ⟨(rg_any r42792), trivial⟩, by rw [ht]; exact hP, hD⟩, hS.F ht⟩) hS.2.2 dX9_seekWay_71
        · have g42793 : Rg 0 0 r42790 := wk_eql (rg_any r42790) (by decide : Rg 0 0 (0 : Int32)) c42791 (by decide)
          refine lv_aload_n hx hb dX9_seekWay_48 rfl (lv_at hl 0 rfl) ?_
          refine lv_iload_n hx hb dX9_seekWay_49 rfl (lv_at hl 1 rfl) ?_
          refine wk_qi (wX cI cS a na nc N L) u (As := [.int y30_l1]) (rest := []) ⟨hx, hb, hml, hown, hts⟩ (k_X9_hasWayOf l D cI cS _ a na nc N L u hL hN y30_l1) hKK hP hD hS hA 34 (ci := 9) rfl rfl (cwV 1 hts gX9_seekWay_X9_hasWayOf rfl rfl rfl (by decide +kernel) ⟨Nat.le_of_ble_eq_true rfl, Nat.le_of_ble_eq_true rfl⟩) rfl hl.1 rfl (Nat.le_of_ble_eq_true rfl) dX9_seekWay_50 ⟨Nat.le_of_ble_eq_true rfl, Nat.le_of_ble_eq_true rfl⟩ (fun r42794 u H locs hr42794 hP hD hS => ?_)
          refine lv_if_eq (tgt := 61) hx hb dX9_seekWay_53 (by decide) (fun c42795 => ?_) (fun c42795 => ?_)
          · have g42796 : Rg 0 0 r42794 := wk_eql hr42794.1 (by decide : Rg 0 0 (0 : Int32)) c42795 (by decide)
            refine wk_iinc (lv' := fun r => [(1, .int r), (0, .ref (a 34))]) (e1 := 4) (f := 14) hx hb dX9_seekWay_61 hl (k := 1) rfl (by decide) g42789 (by decide) (fun _ => rfl) (fun r42797 ls hr42797 er42797 hl => ?_)
            refine lv_goto (tgt := 30) hx hb dX9_seekWay_64 (by decide) ?_
            exact ih30 r42797 u _ _ ls (show Rg 2 20 r42797 from rg_w hr42797 (by decide) (by decide)) hP hD hS (lv_sub (l' := [(0, .ref (a 34)), (1, .int r42797)]) hl [1, 0] rfl) (me_up hm30 er42797 (by decide))
          · have g42798 : Rg 1 1 r42794 := rg_ne_lo (k := 0) hr42794.1 (by decide) c42795 (by decide)
            refine lv_aload_n hx hb dX9_seekWay_56 rfl (lv_at hl 0 rfl) ?_
            refine lv_iload_n hx hb dX9_seekWay_57 rfl (lv_at hl 1 rfl) ?_
            refine va_put (D := D) (ci := 9) (v := .int y30_l1) (ty := .int) (C := RX9) (T := TX9) (N := 6) hx hb hts hin9 tyX9 tyX9_ok nmX9 hown hK hP hD hS 34 rfl rfl 5 (by decide) (hts (.fieldLink RX9 68 "MissedPoints$Told" "rowLength" "I") (by decide +kernel)) (fun _ h9 => h9) rfl (by decide +kernel) rfl rfl (Nat.le_of_ble_eq_true rfl) dX9_seekWay_58 (fun H locs hP hD hS => ?_)
            rw [sxf_34_5] at hP hD
            generalize sU u 34 _ = u at hP hD
            refine wk_iinc (lv' := fun r => [(1, .int r), (0, .ref (a 34))]) (e1 := 4) (f := 14) hx hb dX9_seekWay_61 hl (k := 1) rfl (by decide) g42789 (by decide) (fun _ => rfl) (fun r42799 ls hr42799 er42799 hl => ?_)
            refine lv_goto (tgt := 30) hx hb dX9_seekWay_64 (by decide) ?_
            exact ih30 r42799 u _ _ ls (show Rg 2 20 r42799 from rg_w hr42799 (by decide) (by decide)) hP hD hS (lv_sub (l' := [(0, .ref (a 34)), (1, .int r42799)]) hl [1, 0] rfl) (me_up hm30 er42799 (by decide))
  refine lv_aload_n hx hb dX9_seekWay_0 rfl (lv_at hl 0 rfl) ?_
  refine lv_iconst (v := 0) hx hb dX9_seekWay_1 (by decide) ?_
  refine va_put (D := D) (ci := 9) (v := .int 0) (ty := .int) (C := RX9) (T := TX9) (N := 6) hx hb hts hin9 tyX9 tyX9_ok nmX9 hown hK hP hD hS 34 rfl rfl 5 (by decide) (hts (.fieldLink RX9 68 "MissedPoints$Told" "rowLength" "I") (by decide +kernel)) (fun _ h9 => h9) rfl (by decide +kernel) rfl rfl (Nat.le_of_ble_eq_true rfl) dX9_seekWay_2 (fun H locs hP hD hS => ?_)
  rw [sxf_34_5] at hP hD
  generalize sU u 34 _ = u at hP hD
  refine lv_aload_n hx hb dX9_seekWay_5 rfl (lv_at hl 0 rfl) ?_
  refine wk_sv 34 (As := []) (rest := []) ⟨hx, hb, hml, hown, hts⟩ (k_X9_lineCount l D cI cS a na nc N L u hL hN) hKK hP (ci := 9) rfl rfl (cwV 0 hts gX9_seekWay_X9_lineCount rfl rfl rfl (by decide +kernel) ⟨Nat.le_of_ble_eq_true rfl, Nat.le_of_ble_eq_true rfl⟩) rfl hl.1 rfl (Nat.le_of_ble_eq_true rfl) dX9_seekWay_6 ⟨Nat.le_of_ble_eq_true rfl, Nat.le_of_ble_eq_true rfl⟩ (fun r42800 hr42800 => ?_)
  refine lv_aload_n hx hb dX9_seekWay_9 rfl (lv_at hl 0 rfl) ?_
  refine va_get (D := D) (ci := 9) (v := .ref (a 7)) (C := RX9) (T := TX9) (N := 6) hx hb hts hin9 hown hK hP 34 rfl rfl 1 (by decide) (hts (.fieldLink RX9 25 "MissedPoints$Told" "pairs" "LMissedPoints$Pairs;") (by decide +kernel)) (fun _ h9 => h9) rfl dX9_seekWay_10 ?_
  refine lv_aload_n hx hb dX9_seekWay_13 rfl (lv_at hl 0 rfl) ?_
  refine va_get (D := D) (ci := 9) (v := .ref (a 1)) (C := RX9) (T := TX9) (N := 6) hx hb hts hin9 hown hK hP 34 rfl rfl 0 (by decide) (hts (.fieldLink RX9 21 "MissedPoints$Told" "net" "LMissedPoints$Net;") (by decide +kernel)) (fun _ h9 => h9) rfl dX9_seekWay_14 ?_
  refine wk_sv 1 (As := []) (rest := [.ref (a 7), .int r42800]) ⟨hx, hb, hml, hown, hts⟩ (k_X2_all l D cI cS a na nc N L u hL hN) hKK hP (ci := 2) rfl rfl (cwV 0 hts gX9_seekWay_X2_all rfl rfl rfl (by decide +kernel) ⟨Nat.le_of_ble_eq_true rfl, Nat.le_of_ble_eq_true rfl⟩) rfl hl.1 rfl (Nat.le_of_ble_eq_true rfl) dX9_seekWay_17 ⟨Nat.le_of_ble_eq_true rfl, Nat.le_of_ble_eq_true rfl⟩ (fun r42801 hr42801 => ?_)
  refine wk_qi (wX cI cS a na nc N L) u (As := [.int r42801]) (rest := [.int r42800]) ⟨hx, hb, hml, hown, hts⟩ (k_X3_best l D cI cS _ a na nc N L u hL hN r42801) hKK hP hD hS hA 7 (ci := 3) rfl rfl (cwV 1 hts gX9_seekWay_X3_best rfl rfl rfl (by decide +kernel) ⟨Nat.le_of_ble_eq_true rfl, Nat.le_of_ble_eq_true rfl⟩) rfl hl.1 rfl (Nat.le_of_ble_eq_true rfl) dX9_seekWay_20 ⟨Nat.le_of_ble_eq_true rfl, Nat.le_of_ble_eq_true rfl⟩ (fun r42802 u H locs hr42802 hP hD hS => ?_)
  refine lv_icmp_lt (tgt := 28) hx hb dX9_seekWay_23 (by decide) (fun c42803 => ?_) (fun c42803 => ?_)
  · have g42804 : Rg (-2147483648) 65548 r42800 := rg_ltl hr42800.1 hr42802.1 c42803 (by decide)
    refine lv_iconst (v := 2) hx hb dX9_seekWay_28 (by decide) ?_
    refine lv_istore_n (lv' := [(1, .int 2), (0, .ref (a 34))]) hx hb dX9_seekWay_29 rfl hl (by decide) rfl (fun ls hl => ?_)
    exact lp30 19 (2 : Int32) u _ _ ls (by decide : Rg 2 20 (2 : Int32)) hP hD hS (lv_sub (l' := [(0, .ref (a 34)), (1, .int 2)]) hl [1, 0] rfl) (me_i (by decide : Rg 2 20 (2 : Int32)) (by decide))
  · have g42805 : Rg 0 2147483647 r42800 := rg_ler hr42802.1 hr42800.1 (rg_nlt c42803) (by decide)
    refine lv_iconst (v := 0) hx hb dX9_seekWay_26 (by decide) ?_
    subst hAe
    exact W.iret (v := 0) hx hb hr (fun t ht hW => ⟨⟨_, u, rfl, ⟨(by decide : Rg (-2147483648) 2147483647 (0 : Int32)), trivial⟩, by rw [ht]; exact hP, hD⟩, hS.F ht⟩) hS.2.2 dX9_seekWay_27
theorem dX9_wayAt_0 : decode cX9_wayAt 0 = .ok (.iload_n 1, 1) := by decide +kernel
theorem dX9_wayAt_1 : decode cX9_wayAt 1 = .ok (.ifCond .lt 26, 3) := by decide +kernel
theorem dX9_wayAt_12 : decode cX9_wayAt 12 = .ok (.iload_n 1, 1) := by decide +kernel
theorem dX9_wayAt_13 : decode cX9_wayAt 13 = .ok (.bipush 12, 2) := by decide +kernel
theorem dX9_wayAt_15 : decode cX9_wayAt 15 = .ok (.if_icmp .ge 12, 3) := by decide +kernel
theorem dX9_wayAt_18 : decode cX9_wayAt 18 = .ok (.aload_n 0, 1) := by decide +kernel
theorem dX9_wayAt_19 : decode cX9_wayAt 19 = .ok (.getfield 15, 3) := by decide +kernel
theorem dX9_wayAt_22 : decode cX9_wayAt 22 = .ok (.iload_n 1, 1) := by decide +kernel
theorem dX9_wayAt_23 : decode cX9_wayAt 23 = .ok (.iaload, 1) := by decide +kernel
theorem dX9_wayAt_24 : decode cX9_wayAt 24 = .ok (.goto 4, 3) := by decide +kernel
theorem dX9_wayAt_27 : decode cX9_wayAt 27 = .ok (.iconst (-1), 1) := by decide +kernel
theorem dX9_wayAt_28 : decode cX9_wayAt 28 = .ok (.ireturn, 1) := by decide +kernel
theorem dX9_wayAt_4 : decode cX9_wayAt 4 = .ok (.iload_n 1, 1) := by decide +kernel
theorem dX9_wayAt_5 : decode cX9_wayAt 5 = .ok (.aload_n 0, 1) := by decide +kernel
theorem dX9_wayAt_6 : decode cX9_wayAt 6 = .ok (.getfield 68, 3) := by decide +kernel
theorem dX9_wayAt_9 : decode cX9_wayAt 9 = .ok (.if_icmp .ge 18, 3) := by decide +kernel
set_option maxHeartbeats 4000000 in
set_option maxRecDepth 100000 in
theorem k_X9_wayAt (l : Launch) (D : va_G) (cI cS : ClassId) (a : Nat → Nat) (na nc N : Nat) (L u : SU) (hL : TyX L) (hN : N = 0 ∨ N = 24576) (x0 : Int32) : Met l yX9_wayAt wsX9_wayAt ({ frames := 0, cells := 0, slots := 0, locals := 0 }) (PS D cI cS (wX cI cS a na nc N L u) [.ref (a 34), .int x0]) (vp_Si (fun r => Rg (-2147483648) 2147483647 r ∧ True)) 0 0 (fun _ => False) := by
  refine Met.ofW (cc := cX9_wayAt) (maxL := 2) (ret := (some .int)) (by decide) rfl ?_
  intro p e s m args below meth c s₁ B hml hv
  obtain ⟨rfl, hP, hKK⟩ := hv
  have hx := B.exec
  have hb := B.bytes
  have hr := B.returns
  have hts := atoms_spec (ws := wsX9_wayAt) B.pre
  have hown : s.vm.findClass RX9 = some m.cls := findClass_of_methodNamed B.named
  have hlocks := B.notSynchronized
  have hK := hKK.1
  have hin9 : ∀ w ∈ wsX90, w ∈ wsX9_wayAt := by decide +kernel
  have hl := lv_entry ([.ref (a 34), .int x0]) (n := 2) (Nat.le_of_ble_eq_true rfl)
  rw [lg_entry_eq]
  generalize (lg_sl ([.ref (a 34), .int x0]) ++ List.replicate (2 - (lg_sl ([.ref (a 34), .int x0])).length) Slot.unset).toArray = ls at hl ⊢
  have hl : lv_has ls 2 [(0, .ref (a 34)), (1, .int x0)] := hl
  refine lv_iload_n hx hb dX9_wayAt_0 rfl (lv_at hl 1 rfl) ?_
  refine lv_if_lt (tgt := 27) hx hb dX9_wayAt_1 (by decide) (fun c42817 => ?_) (fun c42817 => ?_)
  · have g42818 : Rg (-2147483648) (-1) x0 := rg_ltl (rg_any x0) (by decide : Rg 0 0 (0 : Int32)) c42817 (by decide)
    refine lv_iconst (v := (-1)) hx hb dX9_wayAt_27 (by decide) ?_
    exact W.iret (v := (-1)) hx hb hr (fun t ht hW => ⟨_, rfl, ⟨(by decide : Rg (-2147483648) 2147483647 ((-1) : Int32)), trivial⟩, ht⟩) (fun q hq => absurd hq List.not_mem_nil) dX9_wayAt_28
  · have g42819 : Rg 0 2147483647 x0 := rg_ler (by decide : Rg 0 0 (0 : Int32)) (rg_any x0) (rg_nlt c42817) (by decide)
    refine lv_iload_n hx hb dX9_wayAt_4 rfl (lv_at hl 1 rfl) ?_
    refine lv_aload_n hx hb dX9_wayAt_5 rfl (lv_at hl 0 rfl) ?_
    refine va_get (D := D) (ci := 9) (v := .int (u 34 5)) (C := RX9) (T := TX9) (N := 6) hx hb hts hin9 hown hK hP 34 rfl rfl 5 (by decide) (hts (.fieldLink RX9 68 "MissedPoints$Told" "rowLength" "I") (by decide +kernel)) (fun _ h9 => h9) rfl dX9_wayAt_6 ?_
    refine wk_any (fun r42820 => ?_)
    refine lv_icmp_ge (tgt := 27) hx hb dX9_wayAt_9 (by decide) (fun c42821 => ?_) (fun c42821 => ?_)
    · refine lv_iconst (v := (-1)) hx hb dX9_wayAt_27 (by decide) ?_
      exact W.iret (v := (-1)) hx hb hr (fun t ht hW => ⟨_, rfl, ⟨(by decide : Rg (-2147483648) 2147483647 ((-1) : Int32)), trivial⟩, ht⟩) (fun q hq => absurd hq List.not_mem_nil) dX9_wayAt_28
    · have g42822 : Rg 1 2147483647 r42820 := rg_ltr g42819 (rg_any r42820) (rg_nle c42821) (by decide)
      have g42823 : Rg 0 2147483646 x0 := rg_ltl g42819 (rg_any r42820) (rg_nle c42821) (by decide)
      refine lv_iload_n hx hb dX9_wayAt_12 rfl (lv_at hl 1 rfl) ?_
      refine lv_bipush (v := 12) hx hb dX9_wayAt_13 (by decide) ?_
      refine lv_icmp_ge (tgt := 27) hx hb dX9_wayAt_15 (by decide) (fun c42824 => ?_) (fun c42824 => ?_)
      · have g42825 : Rg 12 2147483646 x0 := rg_ler (by decide : Rg 12 12 (12 : Int32)) g42823 c42824 (by decide)
        refine lv_iconst (v := (-1)) hx hb dX9_wayAt_27 (by decide) ?_
        exact W.iret (v := (-1)) hx hb hr (fun t ht hW => ⟨_, rfl, ⟨(by decide : Rg (-2147483648) 2147483647 ((-1) : Int32)), trivial⟩, ht⟩) (fun q hq => absurd hq List.not_mem_nil) dX9_wayAt_28
      · have g42826 : Rg 0 11 x0 := rg_ltl g42823 (by decide : Rg 12 12 (12 : Int32)) (rg_nle c42824) (by decide)
        refine lv_aload_n hx hb dX9_wayAt_18 rfl (lv_at hl 0 rfl) ?_
        refine va_get (D := D) (ci := 9) (v := .ref (a 36)) (C := RX9) (T := TX9) (N := 6) hx hb hts hin9 hown hK hP 34 rfl rfl 3 (by decide) (hts (.fieldLink RX9 15 "MissedPoints$Told" "row" "[I") (by decide +kernel)) (fun _ h9 => h9) rfl dX9_wayAt_19 ?_
        refine lv_iload_n hx hb dX9_wayAt_22 rfl (lv_at hl 1 rfl) ?_
        refine wk_aldA hx hb hK hP 36 0 rfl rfl (rg_in g42826 (by decide) (by decide)) dX9_wayAt_23 (fun r42827 => ?_)
        refine lv_goto (tgt := 28) hx hb dX9_wayAt_24 (by decide) ?_
        exact W.iret (v := r42827) hx hb hr (fun t ht hW => ⟨_, rfl, ⟨(rg_any r42827), trivial⟩, ht⟩) (fun q hq => absurd hq List.not_mem_nil) dX9_wayAt_28
set_option maxRecDepth 20000 in
theorem ggX9_turnWay_X2_areTwo : GoodIn wsX9_turnWay wsX2_areTwo := goodIn_r _ [9, 10, 11, 12, 8, 13, 14, 21, 22, 23] rfl (by decide +kernel)
set_option maxRecDepth 20000 in
theorem gX9_turnWay_X2_areTwo : GoodIn wsX9_turnWay (wsV RX9 91 RX2 yX2_areTwo wsX2_areTwo) := goodIn_app (goodIn_of _ (by decide +kernel)) ggX9_turnWay_X2_areTwo
theorem dX9_turnWay_0 : decode cX9_turnWay 0 = .ok (.iconst 0, 1) := by decide +kernel
theorem dX9_turnWay_1 : decode cX9_turnWay 1 = .ok (.istore_n 1, 1) := by decide +kernel
theorem dX9_turnWay_12 : decode cX9_turnWay 12 = .ok (.iload_n 1, 1) := by decide +kernel
theorem dX9_turnWay_13 : decode cX9_turnWay 13 = .ok (.iconst 1, 1) := by decide +kernel
theorem dX9_turnWay_14 : decode cX9_turnWay 14 = .ok (.iadd, 1) := by decide +kernel
theorem dX9_turnWay_15 : decode cX9_turnWay 15 = .ok (.bipush 12, 2) := by decide +kernel
theorem dX9_turnWay_17 : decode cX9_turnWay 17 = .ok (.if_icmp .ge 51, 3) := by decide +kernel
theorem dX9_turnWay_2 : decode cX9_turnWay 2 = .ok (.iload_n 1, 1) := by decide +kernel
theorem dX9_turnWay_20 : decode cX9_turnWay 20 = .ok (.aload_n 0, 1) := by decide +kernel
theorem dX9_turnWay_21 : decode cX9_turnWay 21 = .ok (.getfield 15, 3) := by decide +kernel
theorem dX9_turnWay_24 : decode cX9_turnWay 24 = .ok (.iload_n 1, 1) := by decide +kernel
theorem dX9_turnWay_25 : decode cX9_turnWay 25 = .ok (.iaload, 1) := by decide +kernel
theorem dX9_turnWay_26 : decode cX9_turnWay 26 = .ok (.istore_n 2, 1) := by decide +kernel
theorem dX9_turnWay_27 : decode cX9_turnWay 27 = .ok (.aload_n 0, 1) := by decide +kernel
theorem dX9_turnWay_28 : decode cX9_turnWay 28 = .ok (.getfield 15, 3) := by decide +kernel
theorem dX9_turnWay_3 : decode cX9_turnWay 3 = .ok (.iconst 1, 1) := by decide +kernel
theorem dX9_turnWay_31 : decode cX9_turnWay 31 = .ok (.iload_n 1, 1) := by decide +kernel
theorem dX9_turnWay_32 : decode cX9_turnWay 32 = .ok (.iconst 1, 1) := by decide +kernel
theorem dX9_turnWay_33 : decode cX9_turnWay 33 = .ok (.iadd, 1) := by decide +kernel
theorem dX9_turnWay_34 : decode cX9_turnWay 34 = .ok (.iaload, 1) := by decide +kernel
theorem dX9_turnWay_35 : decode cX9_turnWay 35 = .ok (.istore_n 3, 1) := by decide +kernel
theorem dX9_turnWay_36 : decode cX9_turnWay 36 = .ok (.aload_n 0, 1) := by decide +kernel
theorem dX9_turnWay_37 : decode cX9_turnWay 37 = .ok (.getfield 21, 3) := by decide +kernel
theorem dX9_turnWay_4 : decode cX9_turnWay 4 = .ok (.iadd, 1) := by decide +kernel
theorem dX9_turnWay_40 : decode cX9_turnWay 40 = .ok (.iload_n 2, 1) := by decide +kernel
theorem dX9_turnWay_41 : decode cX9_turnWay 41 = .ok (.iload_n 3, 1) := by decide +kernel
theorem dX9_turnWay_42 : decode cX9_turnWay 42 = .ok (.invokevirtual 91, 3) := by decide +kernel
theorem dX9_turnWay_45 : decode cX9_turnWay 45 = .ok (.ifCond .eq 17, 3) := by decide +kernel
theorem dX9_turnWay_48 : decode cX9_turnWay 48 = .ok (.aload_n 0, 1) := by decide +kernel
theorem dX9_turnWay_49 : decode cX9_turnWay 49 = .ok (.getfield 9, 3) := by decide +kernel
theorem dX9_turnWay_5 : decode cX9_turnWay 5 = .ok (.aload_n 0, 1) := by decide +kernel
theorem dX9_turnWay_52 : decode cX9_turnWay 52 = .ok (.iload_n 2, 1) := by decide +kernel
theorem dX9_turnWay_53 : decode cX9_turnWay 53 = .ok (.iload_n 3, 1) := by decide +kernel
theorem dX9_turnWay_54 : decode cX9_turnWay 54 = .ok (.iastore, 1) := by decide +kernel
theorem dX9_turnWay_55 : decode cX9_turnWay 55 = .ok (.aload_n 0, 1) := by decide +kernel
theorem dX9_turnWay_56 : decode cX9_turnWay 56 = .ok (.getfield 9, 3) := by decide +kernel
theorem dX9_turnWay_59 : decode cX9_turnWay 59 = .ok (.iload_n 3, 1) := by decide +kernel
theorem dX9_turnWay_6 : decode cX9_turnWay 6 = .ok (.getfield 68, 3) := by decide +kernel
theorem dX9_turnWay_60 : decode cX9_turnWay 60 = .ok (.iload_n 2, 1) := by decide +kernel
theorem dX9_turnWay_61 : decode cX9_turnWay 61 = .ok (.iastore, 1) := by decide +kernel
theorem dX9_turnWay_62 : decode cX9_turnWay 62 = .ok (.iinc 1 2, 3) := by decide +kernel
theorem dX9_turnWay_65 : decode cX9_turnWay 65 = .ok (.goto (-63), 3) := by decide +kernel
theorem dX9_turnWay_68 : decode cX9_turnWay 68 = .ok (.return_, 1) := by decide +kernel
theorem dX9_turnWay_9 : decode cX9_turnWay 9 = .ok (.if_icmp .ge 59, 3) := by decide +kernel
set_option maxHeartbeats 4000000 in
set_option maxRecDepth 100000 in
theorem k_X9_turnWay (l : Launch) (D : va_G) (cI cS : ClassId) (sz : Nat) (a : Nat → Nat) (na nc N : Nat) (L u0 : SU) (hL : TyX L) (hN : N = 0 ∨ N = 24576) : Met l yX9_turnWay wsX9_turnWay ({ frames := 2, cells := 0, slots := 0, locals := 80 }) (PQ D cI cS (wX cI cS a na nc N L u0) sz [.ref (a 34)]) (QE (S := SU) D (wX cI cS a na nc N L u0) (wX cI cS a na nc N L) sz (fun _ => True)) 0 0 (va_A (wX cI cS a na nc N L u0) sz) := by
  refine Met.ofW (cc := cX9_turnWay) (maxL := 4) (ret := none) (by decide) rfl ?_
  intro p e s m args below meth c s₁ B hml hv
  obtain ⟨rfl, hsz, hP, hKK, hD0⟩ := hv
  have hx := B.exec
  have hb := B.bytes
  have hr := B.returns
  have hts := atoms_spec (ws := wsX9_turnWay) B.pre
  have hown : s.vm.findClass RX9 = some m.cls := findClass_of_methodNamed B.named
  have hlocks := B.notSynchronized
  have hK := hKK.1
  have hin9 : ∀ w ∈ wsX90, w ∈ wsX9_turnWay := by decide +kernel
  subst hsz
  have hD := hD0.self (sz := s.heap.size)
  obtain ⟨A, hAe⟩ : ∃ A, A = va_A (wX cI cS a na nc N L u0) s.heap.size := ⟨_, rfl⟩
  rw [← hAe] at hD
  have hA : ∀ q : Nat, s.heap.size ≤ q → A q := fun q h => by rw [hAe]; exact Or.inr h
  have hS : va_S A s.heap s.heap [] := va_S.rf
  have hl := lv_entry ([.ref (a 34)]) (n := 4) (Nat.le_of_ble_eq_true rfl)
  rw [lg_entry_eq]
  generalize (lg_sl ([.ref (a 34)]) ++ List.replicate (4 - (lg_sl ([.ref (a 34)])).length) Slot.unset).toArray = ls at hl ⊢
  have hl : lv_has ls 4 [(0, .ref (a 34))] := hl
  obtain ⟨u, hu9⟩ : ∃ u : SU, u = u0 := ⟨_, rfl⟩
  rw [← hu9] at hP hD
  have lp2 : ∀ (n2 : Nat) (y2_l1 : Int32) (u : SU) (H : Heap) (locs : List Loc) (ls : Array Slot), Rg 0 12 y2_l1 → va_P D cls (wX cI cS a na nc N L u) H → va_D A (wX cI cS a na nc N L u) → va_S A s.heap H locs → lv_has ls 4 [(0, .ref (a 34)), (1, .int y2_l1)] → 12 - y2_l1.toInt < (n2 : Int) → W p l e (headSpec wsX9_turnWay ({ frames := 2, cells := 0, slots := 0, locals := 80 })).room s m ([.ref (a 34)]).toArray below meth c H locs 0 0 (MQ below (QE (S := SU) D (wX cI cS a na nc N L u0) (wX cI cS a na nc N L) s.heap.size (fun _ => True)) ([.ref (a 34)]).toArray s 0 0 (va_A (wX cI cS a na nc N L u0) s.heap.size)) (F0 m 2 ls []) := by
    intro n2
    induction n2 with
    | zero =>
      intro y2_l1 u H locs ls g2_l1 hP hD hS hl hm2
      exact absurd rfl (me_z g2_l1 hm2)
    | succ n2 ih2 =>
      intro y2_l1 u H locs ls g2_l1 hP hD hS hl hm2
      refine lv_iload_n hx hb dX9_turnWay_2 rfl (lv_at hl 1 rfl) ?_
      refine lv_iconst (v := 1) hx hb dX9_turnWay_3 (by decide) ?_
      refine wk_iadd (e1 := 1) (f := 13) hx hb dX9_turnWay_4 g2_l1 (by decide : Rg 1 1 (1 : Int32)) (by decide) (fun r42937 hr42937 er42937 qr42937 => ?_)
      refine lv_aload_n hx hb dX9_turnWay_5 rfl (lv_at hl 0 rfl) ?_
      refine va_get (D := D) (ci := 9) (v := .int (u 34 5)) (C := RX9) (T := TX9) (N := 6) hx hb hts hin9 hown hK hP 34 rfl rfl 5 (by decide) (hts (.fieldLink RX9 68 "MissedPoints$Told" "rowLength" "I") (by decide +kernel)) (fun _ h9 => h9) rfl dX9_turnWay_6 ?_
      refine wk_any (fun r42938 => ?_)
      refine lv_icmp_ge (tgt := 68) hx hb dX9_turnWay_9 (by decide) (fun c42939 => ?_) (fun c42939 => ?_)
      · have g42940 : Rg (-2147483648) 13 r42938 := rg_lel (rg_any r42938) hr42937 c42939 (by decide)
        subst hAe
        exact W.vret hx hb hr (fun t ht hW => ⟨⟨u, rfl, trivial, by rw [ht]; exact hP, hD⟩, hS.F ht⟩) hS.2.2 dX9_turnWay_68
      · have g42941 : Rg 2 2147483647 r42938 := rg_ltr hr42937 (rg_any r42938) (rg_nle c42939) (by decide)
        refine lv_iload_n hx hb dX9_turnWay_12 rfl (lv_at hl 1 rfl) ?_
        refine lv_iconst (v := 1) hx hb dX9_turnWay_13 (by decide) ?_
        refine wk_iadd (e1 := 1) (f := 13) hx hb dX9_turnWay_14 g2_l1 (by decide : Rg 1 1 (1 : Int32)) (by decide) (fun r42942 hr42942 er42942 qr42942 => ?_)
        refine lv_bipush (v := 12) hx hb dX9_turnWay_15 (by decide) ?_
        refine lv_icmp_ge (tgt := 68) hx hb dX9_turnWay_17 (by decide) (fun c42943 => ?_) (fun c42943 => ?_)
        · have g42944 : Rg 12 13 r42942 := rg_ler (by decide : Rg 12 12 (12 : Int32)) hr42942 c42943 (by decide)
          have g42945 : Rg 11 12 y2_l1 := wk_sha (k := 1) g42944 g2_l1 er42942 (by decide)
          subst hAe
          exact W.vret hx hb hr (fun t ht hW => ⟨⟨u, rfl, trivial, by rw [ht]; exact hP, hD⟩, hS.F ht⟩) hS.2.2 dX9_turnWay_68
        · have g42946 : Rg 1 11 r42942 := rg_ltl hr42942 (by decide : Rg 12 12 (12 : Int32)) (rg_nle c42943) (by decide)
          have g42947 : Rg 0 10 y2_l1 := wk_sha (k := 1) g42946 g2_l1 er42942 (by decide)
          refine lv_aload_n hx hb dX9_turnWay_20 rfl (lv_at hl 0 rfl) ?_
          refine va_get (D := D) (ci := 9) (v := .ref (a 36)) (C := RX9) (T := TX9) (N := 6) hx hb hts hin9 hown hK hP 34 rfl rfl 3 (by decide) (hts (.fieldLink RX9 15 "MissedPoints$Told" "row" "[I") (by decide +kernel)) (fun _ h9 => h9) rfl dX9_turnWay_21 ?_
          refine lv_iload_n hx hb dX9_turnWay_24 rfl (lv_at hl 1 rfl) ?_
          refine wk_aldA hx hb hK hP 36 0 rfl rfl (rg_in g42947 (by decide) (by decide)) dX9_turnWay_25 (fun r42948 => ?_)
          refine lv_istore_n (lv' := [(2, .int r42948), (0, .ref (a 34)), (1, .int y2_l1)]) hx hb dX9_turnWay_26 rfl hl (by decide) rfl (fun ls hl => ?_)
          refine lv_aload_n hx hb dX9_turnWay_27 rfl (lv_at hl 1 rfl) ?_
          refine va_get (D := D) (ci := 9) (v := .ref (a 36)) (C := RX9) (T := TX9) (N := 6) hx hb hts hin9 hown hK hP 34 rfl rfl 3 (by decide) (hts (.fieldLink RX9 15 "MissedPoints$Told" "row" "[I") (by decide +kernel)) (fun _ h9 => h9) rfl dX9_turnWay_28 ?_
          refine lv_iload_n hx hb dX9_turnWay_31 rfl (lv_at hl 2 rfl) ?_
          refine lv_iconst (v := 1) hx hb dX9_turnWay_32 (by decide) ?_
          refine wk_iadd (e1 := 1) (f := 11) hx hb dX9_turnWay_33 g42947 (by decide : Rg 1 1 (1 : Int32)) (by decide) (fun r42949 hr42949 er42949 qr42949 => ?_)
          refine wk_aldA hx hb hK hP 36 0 rfl rfl (rg_in hr42949 (by decide) (by decide)) dX9_turnWay_34 (fun r42950 => ?_)
          refine lv_istore_n (lv' := [(3, .int r42950), (2, .int r42948), (0, .ref (a 34)), (1, .int y2_l1)]) hx hb dX9_turnWay_35 rfl hl (by decide) rfl (fun ls hl => ?_)
          refine lv_aload_n hx hb dX9_turnWay_36 rfl (lv_at hl 2 rfl) ?_
          refine va_get (D := D) (ci := 9) (v := .ref (a 1)) (C := RX9) (T := TX9) (N := 6) hx hb hts hin9 hown hK hP 34 rfl rfl 0 (by decide) (hts (.fieldLink RX9 21 "MissedPoints$Told" "net" "LMissedPoints$Net;") (by decide +kernel)) (fun _ h9 => h9) rfl dX9_turnWay_37 ?_
          refine lv_iload_n hx hb dX9_turnWay_40 rfl (lv_at hl 1 rfl) ?_
          refine lv_iload_n hx hb dX9_turnWay_41 rfl (lv_at hl 0 rfl) ?_
          refine wk_sv 1 (As := [.int r42948, .int r42950]) (rest := []) ⟨hx, hb, hml, hown, hts⟩ (k_X2_areTwo l D cI cS a na nc N L u hL hN r42948 r42950) hKK hP (ci := 2) rfl rfl (cwV 2 hts gX9_turnWay_X2_areTwo rfl rfl rfl (by decide +kernel) ⟨Nat.le_of_ble_eq_true rfl, Nat.le_of_ble_eq_true rfl⟩) rfl hl.1 rfl (Nat.le_of_ble_eq_true rfl) dX9_turnWay_42 ⟨Nat.le_of_ble_eq_true rfl, Nat.le_of_ble_eq_true rfl⟩ (fun r42951 hr42951 => ?_)
          refine lv_if_eq (tgt := 62) hx hb dX9_turnWay_45 (by decide) (fun c42952 => ?_) (fun c42952 => ?_)
          · have g42953 : Rg 0 0 r42951 := wk_eql hr42951.1 (by decide : Rg 0 0 (0 : Int32)) c42952 (by decide)
            refine wk_iinc (lv' := fun r => [(1, .int r), (3, .int r42950), (2, .int r42948), (0, .ref (a 34))]) (e1 := 2) (f := 12) hx hb dX9_turnWay_62 hl (k := 3) rfl (by decide) g42947 (by decide) (fun _ => rfl) (fun r42954 ls hr42954 er42954 hl => ?_)
            refine lv_goto (tgt := 2) hx hb dX9_turnWay_65 (by decide) ?_
            exact ih2 r42954 u _ _ ls (show Rg 0 12 r42954 from rg_w hr42954 (by decide) (by decide)) hP hD hS (lv_sub (l' := [(0, .ref (a 34)), (1, .int r42954)]) hl [3, 0] rfl) (me_up hm2 er42954 (by decide))
          · have g42955 : Rg 0 11 r42948 := (hr42951.2 c42952).1
            have g42956 : Rg 0 11 r42950 := (hr42951.2 c42952).2
            have g42957 : Rg 1 1 r42951 := rg_ne_lo (k := 0) hr42951.1 (by decide) c42952 (by decide)
            refine lv_aload_n hx hb dX9_turnWay_48 rfl (lv_at hl 2 rfl) ?_
            refine va_get (D := D) (ci := 9) (v := .ref (a 35)) (C := RX9) (T := TX9) (N := 6) hx hb hts hin9 hown hK hP 34 rfl rfl 2 (by decide) (hts (.fieldLink RX9 9 "MissedPoints$Told" "mates" "[I") (by decide +kernel)) (fun _ h9 => h9) rfl dX9_turnWay_49 ?_
            refine lv_iload_n hx hb dX9_turnWay_52 rfl (lv_at hl 1 rfl) ?_
            refine lv_iload_n hx hb dX9_turnWay_53 rfl (lv_at hl 0 rfl) ?_
            refine ks_ast hx hb hK hP hD hS rfl (k := 35) rfl sx_35 (rg_in g42955 (by decide) (by decide)) dX9_turnWay_54 (fun u H locs hP hD hS => ?_)
            refine lv_aload_n hx hb dX9_turnWay_55 rfl (lv_at hl 2 rfl) ?_
            refine va_get (D := D) (ci := 9) (v := .ref (a 35)) (C := RX9) (T := TX9) (N := 6) hx hb hts hin9 hown hK hP 34 rfl rfl 2 (by decide) (hts (.fieldLink RX9 9 "MissedPoints$Told" "mates" "[I") (by decide +kernel)) (fun _ h9 => h9) rfl dX9_turnWay_56 ?_
            refine lv_iload_n hx hb dX9_turnWay_59 rfl (lv_at hl 0 rfl) ?_
            refine lv_iload_n hx hb dX9_turnWay_60 rfl (lv_at hl 1 rfl) ?_
            refine ks_ast hx hb hK hP hD hS rfl (k := 35) rfl sx_35 (rg_in g42956 (by decide) (by decide)) dX9_turnWay_61 (fun u H locs hP hD hS => ?_)
            refine wk_iinc (lv' := fun r => [(1, .int r), (3, .int r42950), (2, .int r42948), (0, .ref (a 34))]) (e1 := 2) (f := 12) hx hb dX9_turnWay_62 hl (k := 3) rfl (by decide) g42947 (by decide) (fun _ => rfl) (fun r42958 ls hr42958 er42958 hl => ?_)
            refine lv_goto (tgt := 2) hx hb dX9_turnWay_65 (by decide) ?_
            exact ih2 r42958 u _ _ ls (show Rg 0 12 r42958 from rg_w hr42958 (by decide) (by decide)) hP hD hS (lv_sub (l' := [(0, .ref (a 34)), (1, .int r42958)]) hl [3, 0] rfl) (me_up hm2 er42958 (by decide))
  refine lv_iconst (v := 0) hx hb dX9_turnWay_0 (by decide) ?_
  refine lv_istore_n (lv' := [(1, .int 0), (0, .ref (a 34))]) hx hb dX9_turnWay_1 rfl hl (by decide) rfl (fun ls hl => ?_)
  exact lp2 13 (0 : Int32) u _ _ ls (by decide : Rg 0 12 (0 : Int32)) hP hD hS (lv_sub (l' := [(0, .ref (a 34)), (1, .int 0)]) hl [1, 0] rfl) (me_i (by decide : Rg 0 12 (0 : Int32)) (by decide))
theorem dX9_bitOf_0 : decode cX9_bitOf 0 = .ok (.iload_n 0, 1) := by decide +kernel
theorem dX9_bitOf_1 : decode cX9_bitOf 1 = .ok (.ifCond .ge 7, 3) := by decide +kernel
theorem dX9_bitOf_10 : decode cX9_bitOf 10 = .ok (.ishl, 1) := by decide +kernel
theorem dX9_bitOf_11 : decode cX9_bitOf 11 = .ok (.ireturn, 1) := by decide +kernel
theorem dX9_bitOf_4 : decode cX9_bitOf 4 = .ok (.iconst 0, 1) := by decide +kernel
theorem dX9_bitOf_5 : decode cX9_bitOf 5 = .ok (.goto 6, 3) := by decide +kernel
theorem dX9_bitOf_8 : decode cX9_bitOf 8 = .ok (.iconst 1, 1) := by decide +kernel
theorem dX9_bitOf_9 : decode cX9_bitOf 9 = .ok (.iload_n 0, 1) := by decide +kernel
set_option maxHeartbeats 4000000 in
set_option maxRecDepth 100000 in
theorem k_X9_bitOf (l : Launch) (D : va_G) (cI cS : ClassId) (x0 : Int32) : Met l yX9_bitOf wsX9_bitOf ({ frames := 0, cells := 0, slots := 0, locals := 0 }) (PS D cI cS [] [.int x0]) (vp_Si (fun r => Rg (-2147483648) 2147483647 r ∧ True)) 0 0 (fun _ => False) := by
  refine Met.ofW (cc := cX9_bitOf) (maxL := 1) (ret := (some .int)) (by decide) rfl ?_
  intro p e s m args below meth c s₁ B hml hv
  obtain ⟨rfl, hP, hKK⟩ := hv
  have hx := B.exec
  have hb := B.bytes
  have hr := B.returns
  have hts := atoms_spec (ws := wsX9_bitOf) B.pre
  have hown : s.vm.findClass RX9 = some m.cls := findClass_of_methodNamed B.named
  have hlocks := B.notSynchronized
  have hK := hKK.1
  have hl := lv_entry ([.int x0]) (n := 1) (Nat.le_of_ble_eq_true rfl)
  rw [lg_entry_eq]
  generalize (lg_sl ([.int x0]) ++ List.replicate (1 - (lg_sl ([.int x0])).length) Slot.unset).toArray = ls at hl ⊢
  have hl : lv_has ls 1 [(0, .int x0)] := hl
  refine lv_iload_n hx hb dX9_bitOf_0 rfl (lv_at hl 0 rfl) ?_
  refine lv_if_ge (tgt := 8) hx hb dX9_bitOf_1 (by decide) (fun c42963 => ?_) (fun c42963 => ?_)
  · have g42964 : Rg 0 2147483647 x0 := rg_ler (by decide : Rg 0 0 (0 : Int32)) (rg_any x0) c42963 (by decide)
    refine lv_iconst (v := 1) hx hb dX9_bitOf_8 (by decide) ?_
    refine lv_iload_n hx hb dX9_bitOf_9 rfl (lv_at hl 0 rfl) ?_
    refine lv_ishl hx hb dX9_bitOf_10 ?_
    refine wk_topP (P := fun r => r = (1 : Int32) <<< (x0 &&& 31)) rfl (fun r42965 qr42965 => ?_)
    exact W.iret (v := r42965) hx hb hr (fun t ht hW => ⟨_, rfl, ⟨(rg_any r42965), trivial⟩, ht⟩) (fun q hq => absurd hq List.not_mem_nil) dX9_bitOf_11
  · have g42966 : Rg (-2147483648) (-1) x0 := rg_ltl (rg_any x0) (by decide : Rg 0 0 (0 : Int32)) (rg_nle c42963) (by decide)
    refine lv_iconst (v := 0) hx hb dX9_bitOf_4 (by decide) ?_
    refine lv_goto (tgt := 11) hx hb dX9_bitOf_5 (by decide) ?_
    exact W.iret (v := 0) hx hb hr (fun t ht hW => ⟨_, rfl, ⟨(by decide : Rg (-2147483648) 2147483647 (0 : Int32)), trivial⟩, ht⟩) (fun q hq => absurd hq List.not_mem_nil) dX9_bitOf_11
set_option maxRecDepth 20000 in
theorem ggX9_unlikeLines_J6_bitCount_0f7a4 : GoodIn wsX9_unlikeLines wsJ6_bitCount_0f7a4 := goodIn_r _ [6, 7, 8, 9] rfl (by decide +kernel)
set_option maxRecDepth 20000 in
theorem gX9_unlikeLines_J6_bitCount_0f7a4 : GoodIn wsX9_unlikeLines (va_wsS RX9 63 yJ6_bitCount_0f7a4 wsJ6_bitCount_0f7a4) := goodIn_app (goodIn_of _ (by decide +kernel)) ggX9_unlikeLines_J6_bitCount_0f7a4
theorem dX9_unlikeLines_0 : decode cX9_unlikeLines 0 = .ok (.iconst 0, 1) := by decide +kernel
theorem dX9_unlikeLines_1 : decode cX9_unlikeLines 1 = .ok (.istore_n 2, 1) := by decide +kernel
theorem dX9_unlikeLines_12 : decode cX9_unlikeLines 12 = .ok (.if_icmp .ge 29, 3) := by decide +kernel
theorem dX9_unlikeLines_15 : decode cX9_unlikeLines 15 = .ok (.iload_n 1, 1) := by decide +kernel
theorem dX9_unlikeLines_16 : decode cX9_unlikeLines 16 = .ok (.iload_n 3, 1) := by decide +kernel
theorem dX9_unlikeLines_17 : decode cX9_unlikeLines 17 = .ok (.ishr, 1) := by decide +kernel
theorem dX9_unlikeLines_18 : decode cX9_unlikeLines 18 = .ok (.iconst 1, 1) := by decide +kernel
theorem dX9_unlikeLines_19 : decode cX9_unlikeLines 19 = .ok (.iand, 1) := by decide +kernel
theorem dX9_unlikeLines_2 : decode cX9_unlikeLines 2 = .ok (.iconst 0, 1) := by decide +kernel
theorem dX9_unlikeLines_20 : decode cX9_unlikeLines 20 = .ok (.ifCond .eq 15, 3) := by decide +kernel
theorem dX9_unlikeLines_23 : decode cX9_unlikeLines 23 = .ok (.iload_n 2, 1) := by decide +kernel
theorem dX9_unlikeLines_24 : decode cX9_unlikeLines 24 = .ok (.aload_n 0, 1) := by decide +kernel
theorem dX9_unlikeLines_25 : decode cX9_unlikeLines 25 = .ok (.getfield 18, 3) := by decide +kernel
theorem dX9_unlikeLines_28 : decode cX9_unlikeLines 28 = .ok (.iload_n 3, 1) := by decide +kernel
theorem dX9_unlikeLines_29 : decode cX9_unlikeLines 29 = .ok (.iaload, 1) := by decide +kernel
theorem dX9_unlikeLines_3 : decode cX9_unlikeLines 3 = .ok (.istore_n 3, 1) := by decide +kernel
theorem dX9_unlikeLines_30 : decode cX9_unlikeLines 30 = .ok (.invokestatic 63, 3) := by decide +kernel
theorem dX9_unlikeLines_33 : decode cX9_unlikeLines 33 = .ok (.iadd, 1) := by decide +kernel
theorem dX9_unlikeLines_34 : decode cX9_unlikeLines 34 = .ok (.istore_n 2, 1) := by decide +kernel
theorem dX9_unlikeLines_35 : decode cX9_unlikeLines 35 = .ok (.iinc 3 1, 3) := by decide +kernel
theorem dX9_unlikeLines_38 : decode cX9_unlikeLines 38 = .ok (.goto (-34), 3) := by decide +kernel
theorem dX9_unlikeLines_4 : decode cX9_unlikeLines 4 = .ok (.iload_n 3, 1) := by decide +kernel
theorem dX9_unlikeLines_41 : decode cX9_unlikeLines 41 = .ok (.iload_n 2, 1) := by decide +kernel
theorem dX9_unlikeLines_42 : decode cX9_unlikeLines 42 = .ok (.iconst 2, 1) := by decide +kernel
theorem dX9_unlikeLines_43 : decode cX9_unlikeLines 43 = .ok (.idiv, 1) := by decide +kernel
theorem dX9_unlikeLines_44 : decode cX9_unlikeLines 44 = .ok (.ireturn, 1) := by decide +kernel
theorem dX9_unlikeLines_5 : decode cX9_unlikeLines 5 = .ok (.aload_n 0, 1) := by decide +kernel
theorem dX9_unlikeLines_6 : decode cX9_unlikeLines 6 = .ok (.getfield 21, 3) := by decide +kernel
theorem dX9_unlikeLines_9 : decode cX9_unlikeLines 9 = .ok (.getfield 41, 3) := by decide +kernel
set_option maxHeartbeats 4000000 in
set_option maxRecDepth 100000 in
theorem k_X9_unlikeLines (l : Launch) (D : va_G) (cI cS : ClassId) (a : Nat → Nat) (na nc N : Nat) (L u : SU) (hL : TyX L) (hN : N = 0 ∨ N = 24576) (x0 : Int32) : Met l yX9_unlikeLines wsX9_unlikeLines ({ frames := 1, cells := 0, slots := 0, locals := 40 }) (PS D cI cS (wX cI cS a na nc N L u) [.ref (a 34), .int x0]) (vp_Si (fun r => Rg (-2147483648) 2147483647 r ∧ True)) 0 0 (fun _ => False) := by
  refine Met.ofW (cc := cX9_unlikeLines) (maxL := 4) (ret := (some .int)) (by decide) rfl ?_
  intro p e s m args below meth c s₁ B hml hv
  obtain ⟨rfl, hP, hKK⟩ := hv
  have hx := B.exec
  have hb := B.bytes
  have hr := B.returns
  have hts := atoms_spec (ws := wsX9_unlikeLines) B.pre
  have hown : s.vm.findClass RX9 = some m.cls := findClass_of_methodNamed B.named
  have hlocks := B.notSynchronized
  have hK := hKK.1
  have hin2 : ∀ w ∈ wsX20, w ∈ wsX9_unlikeLines := by decide +kernel
  have hin9 : ∀ w ∈ wsX90, w ∈ wsX9_unlikeLines := by decide +kernel
  have hl := lv_entry ([.ref (a 34), .int x0]) (n := 4) (Nat.le_of_ble_eq_true rfl)
  rw [lg_entry_eq]
  generalize (lg_sl ([.ref (a 34), .int x0]) ++ List.replicate (4 - (lg_sl ([.ref (a 34), .int x0])).length) Slot.unset).toArray = ls at hl ⊢
  have hl : lv_has ls 4 [(0, .ref (a 34)), (1, .int x0)] := hl
  have lp4 : ∀ (n4 : Nat) (y4_l2 : Int32) (y4_l3 : Int32) (ls : Array Slot), Rg 0 12 y4_l3 → lv_has ls 4 [(0, .ref (a 34)), (1, .int x0), (2, .int y4_l2), (3, .int y4_l3)] → 12 - y4_l3.toInt < (n4 : Int) → W p l e (headSpec wsX9_unlikeLines ({ frames := 1, cells := 0, slots := 0, locals := 40 })).room s m ([.ref (a 34), .int x0]).toArray below meth c s.heap [] 0 0 (MQ below (vp_Si (fun r => Rg (-2147483648) 2147483647 r ∧ True)) ([.ref (a 34), .int x0]).toArray s 0 0 (fun _ => False)) (F0 m 4 ls []) := by
    intro n4
    induction n4 with
    | zero =>
      intro y4_l2 y4_l3 ls g4_l3 hl hm4
      exact absurd rfl (me_z g4_l3 hm4)
    | succ n4 ih4 =>
      intro y4_l2 y4_l3 ls g4_l3 hl hm4
      refine lv_iload_n hx hb dX9_unlikeLines_4 rfl (lv_at hl 3 rfl) ?_
      refine lv_aload_n hx hb dX9_unlikeLines_5 rfl (lv_at hl 0 rfl) ?_
      refine va_get (D := D) (ci := 9) (v := .ref (a 1)) (C := RX9) (T := TX9) (N := 6) hx hb hts hin9 hown hK hP 34 rfl rfl 0 (by decide) (hts (.fieldLink RX9 21 "MissedPoints$Told" "net" "LMissedPoints$Net;") (by decide +kernel)) (fun _ h9 => h9) rfl dX9_unlikeLines_6 ?_
      refine va_getN (D := D) (ci := 2) (v := .int (L 1 1)) (C := RX2) (T := TX2) (N := 3) hx hb hts hin2 hown hK hP 1 rfl rfl 1 (by decide) (va_Nw.use rfl hKK.2.2.2.2.2.2.2.2.2.2.2.2.2.2.2.2.1) (fun _ h9 => h9) rfl dX9_unlikeLines_9 ?_
      refine lv_icmp_ge (tgt := 41) hx hb dX9_unlikeLines_12 (by decide) (fun c43088 => ?_) (fun c43088 => ?_)
      · refine lv_iload_n hx hb dX9_unlikeLines_41 rfl (lv_at hl 2 rfl) ?_
        refine lv_iconst (v := 2) hx hb dX9_unlikeLines_42 (by decide) ?_
        refine lv_idiv hx hb dX9_unlikeLines_43 (by decide) ?_
        refine wk_any (fun r43089 => ?_)
        exact W.iret (v := r43089) hx hb hr (fun t ht hW => ⟨_, rfl, ⟨(rg_any r43089), trivial⟩, ht⟩) (fun q hq => absurd hq List.not_mem_nil) dX9_unlikeLines_44
      · have g43090 : Rg 1 12 (L 1 1) := rg_ltr g4_l3 hL.1 (rg_nle c43088) (by decide)
        have g43091 : Rg 0 11 y4_l3 := rg_ltl g4_l3 hL.1 (rg_nle c43088) (by decide)
        refine lv_iload_n hx hb dX9_unlikeLines_15 rfl (lv_at hl 1 rfl) ?_
        refine lv_iload_n hx hb dX9_unlikeLines_16 rfl (lv_at hl 3 rfl) ?_
        refine lv_ishr hx hb dX9_unlikeLines_17 ?_
        refine wk_topP (P := fun r => r = x0 >>> (y4_l3 &&& 31)) rfl (fun r43092 qr43092 => ?_)
        refine lv_iconst (v := 1) hx hb dX9_unlikeLines_18 (by decide) ?_
        refine wk_iandr hx hb dX9_unlikeLines_19 (by decide : Rg 1 1 (1 : Int32)) (by decide) (fun r43093 hr43093 qr43093 => ?_)
        refine lv_if_eq (tgt := 35) hx hb dX9_unlikeLines_20 (by decide) (fun c43094 => ?_) (fun c43094 => ?_)
        · have g43095 : Rg 0 0 r43093 := wk_eql hr43093 (by decide : Rg 0 0 (0 : Int32)) c43094 (by decide)
          refine wk_iinc (lv' := fun r => [(3, .int r), (0, .ref (a 34)), (1, .int x0), (2, .int y4_l2)]) (e1 := 1) (f := 12) hx hb dX9_unlikeLines_35 hl (k := 3) rfl (by decide) g43091 (by decide) (fun _ => rfl) (fun r43096 ls hr43096 er43096 hl => ?_)
          refine lv_goto (tgt := 4) hx hb dX9_unlikeLines_38 (by decide) ?_
          exact ih4 y4_l2 r43096 ls (show Rg 0 12 r43096 from rg_w hr43096 (by decide) (by decide)) (lv_sub (l' := [(0, .ref (a 34)), (1, .int x0), (2, .int y4_l2), (3, .int r43096)]) hl [1, 2, 3, 0] rfl) (me_up hm4 er43096 (by decide))
        · have g43097 : Rg 1 1 r43093 := rg_ne_lo (k := 0) hr43093 (by decide) c43094 (by decide)
          refine lv_iload_n hx hb dX9_unlikeLines_23 rfl (lv_at hl 2 rfl) ?_
          refine lv_aload_n hx hb dX9_unlikeLines_24 rfl (lv_at hl 0 rfl) ?_
          refine va_get (D := D) (ci := 9) (v := .ref (a 37)) (C := RX9) (T := TX9) (N := 6) hx hb hts hin9 hown hK hP 34 rfl rfl 4 (by decide) (hts (.fieldLink RX9 18 "MissedPoints$Told" "unlike" "[I") (by decide +kernel)) (fun _ h9 => h9) rfl dX9_unlikeLines_25 ?_
          refine lv_iload_n hx hb dX9_unlikeLines_28 rfl (lv_at hl 3 rfl) ?_
          refine wk_aldA hx hb hK hP 37 0 rfl rfl (rg_in g43091 (by decide) (by decide)) dX9_unlikeLines_29 (fun r43098 => ?_)
          refine lz_ss (As := [.int r43098]) (rest := [.int y4_l2]) ⟨hx, hb, hml, hown, hts⟩ (k_J6_bitCount_0f7a4 l D cI cS r43098) hKK (hP.sub (ws' := []) [] rfl) (va_cwS 1 hts gX9_unlikeLines_J6_bitCount_0f7a4 rfl rfl rfl (by decide +kernel) ⟨Nat.le_of_ble_eq_true rfl, Nat.le_of_ble_eq_true rfl⟩) rfl hl.1 rfl (Nat.le_of_ble_eq_true rfl) dX9_unlikeLines_30 ⟨Nat.le_of_ble_eq_true rfl, Nat.le_of_ble_eq_true rfl⟩ (fun r43099 hr43099 => ?_)
          refine lv_iadd hx hb dX9_unlikeLines_33 ?_
          refine wk_topP (P := fun r => r = y4_l2 + r43099) rfl (fun r43100 qr43100 => ?_)
          refine lv_istore_n (lv' := [(2, .int r43100), (0, .ref (a 34)), (1, .int x0), (3, .int y4_l3)]) hx hb dX9_unlikeLines_34 rfl hl (by decide) rfl (fun ls hl => ?_)
          refine wk_iinc (lv' := fun r => [(3, .int r), (2, .int r43100), (0, .ref (a 34)), (1, .int x0)]) (e1 := 1) (f := 12) hx hb dX9_unlikeLines_35 hl (k := 3) rfl (by decide) g43091 (by decide) (fun _ => rfl) (fun r43101 ls hr43101 er43101 hl => ?_)
          refine lv_goto (tgt := 4) hx hb dX9_unlikeLines_38 (by decide) ?_
          exact ih4 r43100 r43101 ls (show Rg 0 12 r43101 from rg_w hr43101 (by decide) (by decide)) (lv_sub (l' := [(0, .ref (a 34)), (1, .int x0), (2, .int r43100), (3, .int r43101)]) hl [2, 3, 1, 0] rfl) (me_up hm4 er43101 (by decide))
  refine lv_iconst (v := 0) hx hb dX9_unlikeLines_0 (by decide) ?_
  refine lv_istore_n (lv' := [(2, .int 0), (0, .ref (a 34)), (1, .int x0)]) hx hb dX9_unlikeLines_1 rfl hl (by decide) rfl (fun ls hl => ?_)
  refine lv_iconst (v := 0) hx hb dX9_unlikeLines_2 (by decide) ?_
  refine lv_istore_n (lv' := [(3, .int 0), (2, .int 0), (0, .ref (a 34)), (1, .int x0)]) hx hb dX9_unlikeLines_3 rfl hl (by decide) rfl (fun ls hl => ?_)
  exact lp4 13 (0 : Int32) (0 : Int32) ls (by decide : Rg 0 12 (0 : Int32)) (lv_sub (l' := [(0, .ref (a 34)), (1, .int x0), (2, .int 0), (3, .int 0)]) hl [2, 3, 1, 0] rfl) (me_i (by decide : Rg 0 12 (0 : Int32)) (by decide))
set_option maxRecDepth 20000 in
theorem ggX9_layUnlike_X9_bitOf : GoodIn wsX9_layUnlike wsX9_bitOf := goodIn_r _ [7] rfl (by decide +kernel)
set_option maxRecDepth 20000 in
theorem gX9_layUnlike_X9_bitOf : GoodIn wsX9_layUnlike (va_wsS RX9 111 yX9_bitOf wsX9_bitOf) := goodIn_app (goodIn_of _ (by decide +kernel)) ggX9_layUnlike_X9_bitOf
theorem dX9_layUnlike_0 : decode cX9_layUnlike 0 = .ok (.iconst 0, 1) := by decide +kernel
theorem dX9_layUnlike_1 : decode cX9_layUnlike 1 = .ok (.istore_n 2, 1) := by decide +kernel
theorem dX9_layUnlike_12 : decode cX9_layUnlike 12 = .ok (.if_icmp .ge 62, 3) := by decide +kernel
theorem dX9_layUnlike_15 : decode cX9_layUnlike 15 = .ok (.aload_n 0, 1) := by decide +kernel
theorem dX9_layUnlike_16 : decode cX9_layUnlike 16 = .ok (.getfield 18, 3) := by decide +kernel
theorem dX9_layUnlike_19 : decode cX9_layUnlike 19 = .ok (.iload_n 3, 1) := by decide +kernel
theorem dX9_layUnlike_2 : decode cX9_layUnlike 2 = .ok (.iconst 0, 1) := by decide +kernel
theorem dX9_layUnlike_20 : decode cX9_layUnlike 20 = .ok (.iconst 0, 1) := by decide +kernel
theorem dX9_layUnlike_21 : decode cX9_layUnlike 21 = .ok (.iastore, 1) := by decide +kernel
theorem dX9_layUnlike_22 : decode cX9_layUnlike 22 = .ok (.aload_n 0, 1) := by decide +kernel
theorem dX9_layUnlike_23 : decode cX9_layUnlike 23 = .ok (.getfield 9, 3) := by decide +kernel
theorem dX9_layUnlike_26 : decode cX9_layUnlike 26 = .ok (.iload_n 3, 1) := by decide +kernel
theorem dX9_layUnlike_27 : decode cX9_layUnlike 27 = .ok (.iaload, 1) := by decide +kernel
theorem dX9_layUnlike_28 : decode cX9_layUnlike 28 = .ok (.aload_n 1, 1) := by decide +kernel
theorem dX9_layUnlike_29 : decode cX9_layUnlike 29 = .ok (.getfield 9, 3) := by decide +kernel
theorem dX9_layUnlike_3 : decode cX9_layUnlike 3 = .ok (.istore_n 3, 1) := by decide +kernel
theorem dX9_layUnlike_32 : decode cX9_layUnlike 32 = .ok (.iload_n 3, 1) := by decide +kernel
theorem dX9_layUnlike_33 : decode cX9_layUnlike 33 = .ok (.iaload, 1) := by decide +kernel
theorem dX9_layUnlike_34 : decode cX9_layUnlike 34 = .ok (.if_icmp .eq 34, 3) := by decide +kernel
theorem dX9_layUnlike_37 : decode cX9_layUnlike 37 = .ok (.aload_n 0, 1) := by decide +kernel
theorem dX9_layUnlike_38 : decode cX9_layUnlike 38 = .ok (.getfield 18, 3) := by decide +kernel
theorem dX9_layUnlike_4 : decode cX9_layUnlike 4 = .ok (.iload_n 3, 1) := by decide +kernel
theorem dX9_layUnlike_41 : decode cX9_layUnlike 41 = .ok (.iload_n 3, 1) := by decide +kernel
theorem dX9_layUnlike_42 : decode cX9_layUnlike 42 = .ok (.aload_n 0, 1) := by decide +kernel
theorem dX9_layUnlike_43 : decode cX9_layUnlike 43 = .ok (.getfield 9, 3) := by decide +kernel
theorem dX9_layUnlike_46 : decode cX9_layUnlike 46 = .ok (.iload_n 3, 1) := by decide +kernel
theorem dX9_layUnlike_47 : decode cX9_layUnlike 47 = .ok (.iaload, 1) := by decide +kernel
theorem dX9_layUnlike_48 : decode cX9_layUnlike 48 = .ok (.invokestatic 111, 3) := by decide +kernel
theorem dX9_layUnlike_5 : decode cX9_layUnlike 5 = .ok (.aload_n 0, 1) := by decide +kernel
theorem dX9_layUnlike_51 : decode cX9_layUnlike 51 = .ok (.aload_n 1, 1) := by decide +kernel
theorem dX9_layUnlike_52 : decode cX9_layUnlike 52 = .ok (.getfield 9, 3) := by decide +kernel
theorem dX9_layUnlike_55 : decode cX9_layUnlike 55 = .ok (.iload_n 3, 1) := by decide +kernel
theorem dX9_layUnlike_56 : decode cX9_layUnlike 56 = .ok (.iaload, 1) := by decide +kernel
theorem dX9_layUnlike_57 : decode cX9_layUnlike 57 = .ok (.invokestatic 111, 3) := by decide +kernel
theorem dX9_layUnlike_6 : decode cX9_layUnlike 6 = .ok (.getfield 21, 3) := by decide +kernel
theorem dX9_layUnlike_60 : decode cX9_layUnlike 60 = .ok (.ior, 1) := by decide +kernel
theorem dX9_layUnlike_61 : decode cX9_layUnlike 61 = .ok (.iastore, 1) := by decide +kernel
theorem dX9_layUnlike_62 : decode cX9_layUnlike 62 = .ok (.iload_n 2, 1) := by decide +kernel
theorem dX9_layUnlike_63 : decode cX9_layUnlike 63 = .ok (.iconst 1, 1) := by decide +kernel
theorem dX9_layUnlike_64 : decode cX9_layUnlike 64 = .ok (.iload_n 3, 1) := by decide +kernel
theorem dX9_layUnlike_65 : decode cX9_layUnlike 65 = .ok (.ishl, 1) := by decide +kernel
theorem dX9_layUnlike_66 : decode cX9_layUnlike 66 = .ok (.ior, 1) := by decide +kernel
theorem dX9_layUnlike_67 : decode cX9_layUnlike 67 = .ok (.istore_n 2, 1) := by decide +kernel
theorem dX9_layUnlike_68 : decode cX9_layUnlike 68 = .ok (.iinc 3 1, 3) := by decide +kernel
theorem dX9_layUnlike_71 : decode cX9_layUnlike 71 = .ok (.goto (-67), 3) := by decide +kernel
theorem dX9_layUnlike_74 : decode cX9_layUnlike 74 = .ok (.iload_n 2, 1) := by decide +kernel
theorem dX9_layUnlike_75 : decode cX9_layUnlike 75 = .ok (.ireturn, 1) := by decide +kernel
theorem dX9_layUnlike_9 : decode cX9_layUnlike 9 = .ok (.getfield 41, 3) := by decide +kernel
set_option maxHeartbeats 4000000 in
set_option maxRecDepth 100000 in
theorem k_X9_layUnlike (l : Launch) (D : va_G) (cI cS : ClassId) (sz : Nat) (a : Nat → Nat) (na nc N : Nat) (L u0 : SU) (hL : TyX L) (hN : N = 0 ∨ N = 24576) : Met l yX9_layUnlike wsX9_layUnlike ({ frames := 1, cells := 0, slots := 0, locals := 40 }) (PQ D cI cS (wX cI cS a na nc N L u0) sz [.ref (a 34), .ref (a 38)]) (QF (S := SU) D (wX cI cS a na nc N L u0) (wX cI cS a na nc N L) sz (fun r _ => Rg 0 4095 r ∧ True)) 0 0 (va_A (wX cI cS a na nc N L u0) sz) := by
  refine Met.ofW (cc := cX9_layUnlike) (maxL := 4) (ret := (some .int)) (by decide) rfl ?_
  intro p e s m args below meth c s₁ B hml hv
  obtain ⟨rfl, hsz, hP, hKK, hD0⟩ := hv
  have hx := B.exec
  have hb := B.bytes
  have hr := B.returns
  have hts := atoms_spec (ws := wsX9_layUnlike) B.pre
  have hown : s.vm.findClass RX9 = some m.cls := findClass_of_methodNamed B.named
  have hlocks := B.notSynchronized
  have hK := hKK.1
  have hin2 : ∀ w ∈ wsX20, w ∈ wsX9_layUnlike := by decide +kernel
  have hin9 : ∀ w ∈ wsX90, w ∈ wsX9_layUnlike := by decide +kernel
  subst hsz
  have hD := hD0.self (sz := s.heap.size)
  obtain ⟨A, hAe⟩ : ∃ A, A = va_A (wX cI cS a na nc N L u0) s.heap.size := ⟨_, rfl⟩
  rw [← hAe] at hD
  have hA : ∀ q : Nat, s.heap.size ≤ q → A q := fun q h => by rw [hAe]; exact Or.inr h
  have hS : va_S A s.heap s.heap [] := va_S.rf
  have hl := lv_entry ([.ref (a 34), .ref (a 38)]) (n := 4) (Nat.le_of_ble_eq_true rfl)
  rw [lg_entry_eq]
  generalize (lg_sl ([.ref (a 34), .ref (a 38)]) ++ List.replicate (4 - (lg_sl ([.ref (a 34), .ref (a 38)])).length) Slot.unset).toArray = ls at hl ⊢
  have hl : lv_has ls 4 [(0, .ref (a 34)), (1, .ref (a 38))] := hl
  obtain ⟨u, hu9⟩ : ∃ u : SU, u = u0 := ⟨_, rfl⟩
  rw [← hu9] at hP hD
  have lp4 : ∀ (n4 : Nat) (y4_l2 : Int32) (y4_l3 : Int32) (u : SU) (H : Heap) (locs : List Loc) (ls : Array Slot), Rg 0 4095 y4_l2 → Rg 0 12 y4_l3 → va_P D cls (wX cI cS a na nc N L u) H → va_D A (wX cI cS a na nc N L u) → va_S A s.heap H locs → lv_has ls 4 [(0, .ref (a 34)), (1, .ref (a 38)), (2, .int y4_l2), (3, .int y4_l3)] → 12 - y4_l3.toInt < (n4 : Int) → W p l e (headSpec wsX9_layUnlike ({ frames := 1, cells := 0, slots := 0, locals := 40 })).room s m ([.ref (a 34), .ref (a 38)]).toArray below meth c H locs 0 0 (MQ below (QF (S := SU) D (wX cI cS a na nc N L u0) (wX cI cS a na nc N L) s.heap.size (fun r _ => Rg 0 4095 r ∧ True)) ([.ref (a 34), .ref (a 38)]).toArray s 0 0 (va_A (wX cI cS a na nc N L u0) s.heap.size)) (F0 m 4 ls []) := by
    intro n4
    induction n4 with
    | zero =>
      intro y4_l2 y4_l3 u H locs ls g4_l2 g4_l3 hP hD hS hl hm4
      exact absurd rfl (me_z g4_l3 hm4)
    | succ n4 ih4 =>
      intro y4_l2 y4_l3 u H locs ls g4_l2 g4_l3 hP hD hS hl hm4
      refine lv_iload_n hx hb dX9_layUnlike_4 rfl (lv_at hl 3 rfl) ?_
      refine lv_aload_n hx hb dX9_layUnlike_5 rfl (lv_at hl 0 rfl) ?_
      refine va_get (D := D) (ci := 9) (v := .ref (a 1)) (C := RX9) (T := TX9) (N := 6) hx hb hts hin9 hown hK hP 34 rfl rfl 0 (by decide) (hts (.fieldLink RX9 21 "MissedPoints$Told" "net" "LMissedPoints$Net;") (by decide +kernel)) (fun _ h9 => h9) rfl dX9_layUnlike_6 ?_
      refine va_getN (D := D) (ci := 2) (v := .int (L 1 1)) (C := RX2) (T := TX2) (N := 3) hx hb hts hin2 hown hK hP 1 rfl rfl 1 (by decide) (va_Nw.use rfl hKK.2.2.2.2.2.2.2.2.2.2.2.2.2.2.2.2.1) (fun _ h9 => h9) rfl dX9_layUnlike_9 ?_
      refine lv_icmp_ge (tgt := 74) hx hb dX9_layUnlike_12 (by decide) (fun c43229 => ?_) (fun c43229 => ?_)
      · refine lv_iload_n hx hb dX9_layUnlike_74 rfl (lv_at hl 2 rfl) ?_
        subst hAe
        exact W.iret (v := y4_l2) hx hb hr (fun t ht hW => ⟨⟨_, u, rfl, ⟨g4_l2, trivial⟩, by rw [ht]; exact hP, hD⟩, hS.F ht⟩) hS.2.2 dX9_layUnlike_75
      · have g43230 : Rg 1 12 (L 1 1) := rg_ltr g4_l3 hL.1 (rg_nle c43229) (by decide)
        have g43231 : Rg 0 11 y4_l3 := rg_ltl g4_l3 hL.1 (rg_nle c43229) (by decide)
        refine lv_aload_n hx hb dX9_layUnlike_15 rfl (lv_at hl 0 rfl) ?_
        refine va_get (D := D) (ci := 9) (v := .ref (a 37)) (C := RX9) (T := TX9) (N := 6) hx hb hts hin9 hown hK hP 34 rfl rfl 4 (by decide) (hts (.fieldLink RX9 18 "MissedPoints$Told" "unlike" "[I") (by decide +kernel)) (fun _ h9 => h9) rfl dX9_layUnlike_16 ?_
        refine lv_iload_n hx hb dX9_layUnlike_19 rfl (lv_at hl 3 rfl) ?_
        refine lv_iconst (v := 0) hx hb dX9_layUnlike_20 (by decide) ?_
        refine ks_ast hx hb hK hP hD hS rfl (k := 37) rfl sx_37 (rg_in g43231 (by decide) (by decide)) dX9_layUnlike_21 (fun u H locs hP hD hS => ?_)
        refine lv_aload_n hx hb dX9_layUnlike_22 rfl (lv_at hl 0 rfl) ?_
        refine va_get (D := D) (ci := 9) (v := .ref (a 35)) (C := RX9) (T := TX9) (N := 6) hx hb hts hin9 hown hK hP 34 rfl rfl 2 (by decide) (hts (.fieldLink RX9 9 "MissedPoints$Told" "mates" "[I") (by decide +kernel)) (fun _ h9 => h9) rfl dX9_layUnlike_23 ?_
        refine lv_iload_n hx hb dX9_layUnlike_26 rfl (lv_at hl 3 rfl) ?_
        refine wk_aldA hx hb hK hP 35 0 rfl rfl (rg_in g43231 (by decide) (by decide)) dX9_layUnlike_27 (fun r43232 => ?_)
        refine lv_aload_n hx hb dX9_layUnlike_28 rfl (lv_at hl 1 rfl) ?_
        refine va_get (D := D) (ci := 9) (v := .ref (a 39)) (C := RX9) (T := TX9) (N := 6) hx hb hts hin9 hown hK hP 38 rfl rfl 2 (by decide) (hts (.fieldLink RX9 9 "MissedPoints$Told" "mates" "[I") (by decide +kernel)) (fun _ h9 => h9) rfl dX9_layUnlike_29 ?_
        refine lv_iload_n hx hb dX9_layUnlike_32 rfl (lv_at hl 3 rfl) ?_
        refine wk_aldA hx hb hK hP 39 0 rfl rfl (rg_in g43231 (by decide) (by decide)) dX9_layUnlike_33 (fun r43233 => ?_)
        refine lv_icmp_eq (tgt := 68) hx hb dX9_layUnlike_34 (by decide) (fun c43234 => ?_) (fun c43234 => ?_)
        · refine wk_iinc (lv' := fun r => [(3, .int r), (0, .ref (a 34)), (1, .ref (a 38)), (2, .int y4_l2)]) (e1 := 1) (f := 12) hx hb dX9_layUnlike_68 hl (k := 3) rfl (by decide) g43231 (by decide) (fun _ => rfl) (fun r43235 ls hr43235 er43235 hl => ?_)
          refine lv_goto (tgt := 4) hx hb dX9_layUnlike_71 (by decide) ?_
          exact ih4 y4_l2 r43235 u _ _ ls g4_l2 (show Rg 0 12 r43235 from rg_w hr43235 (by decide) (by decide)) hP hD hS (lv_sub (l' := [(0, .ref (a 34)), (1, .ref (a 38)), (2, .int y4_l2), (3, .int r43235)]) hl [1, 2, 3, 0] rfl) (me_up hm4 er43235 (by decide))
        · refine lv_aload_n hx hb dX9_layUnlike_37 rfl (lv_at hl 0 rfl) ?_
          refine va_get (D := D) (ci := 9) (v := .ref (a 37)) (C := RX9) (T := TX9) (N := 6) hx hb hts hin9 hown hK hP 34 rfl rfl 4 (by decide) (hts (.fieldLink RX9 18 "MissedPoints$Told" "unlike" "[I") (by decide +kernel)) (fun _ h9 => h9) rfl dX9_layUnlike_38 ?_
          refine lv_iload_n hx hb dX9_layUnlike_41 rfl (lv_at hl 3 rfl) ?_
          refine lv_aload_n hx hb dX9_layUnlike_42 rfl (lv_at hl 0 rfl) ?_
          refine va_get (D := D) (ci := 9) (v := .ref (a 35)) (C := RX9) (T := TX9) (N := 6) hx hb hts hin9 hown hK hP 34 rfl rfl 2 (by decide) (hts (.fieldLink RX9 9 "MissedPoints$Told" "mates" "[I") (by decide +kernel)) (fun _ h9 => h9) rfl dX9_layUnlike_43 ?_
          refine lv_iload_n hx hb dX9_layUnlike_46 rfl (lv_at hl 3 rfl) ?_
          refine wk_aldA hx hb hK hP 35 0 rfl rfl (rg_in g43231 (by decide) (by decide)) dX9_layUnlike_47 (fun r43236 => ?_)
          refine lz_ss (As := [.int r43236]) (rest := [.int y4_l3, .ref (a 37)]) ⟨hx, hb, hml, hown, hts⟩ (k_X9_bitOf l D cI cS r43236) hKK (hP.sub (ws' := []) [] rfl) (va_cwS 1 hts gX9_layUnlike_X9_bitOf rfl rfl rfl (by decide +kernel) ⟨Nat.le_of_ble_eq_true rfl, Nat.le_of_ble_eq_true rfl⟩) rfl hl.1 rfl (Nat.le_of_ble_eq_true rfl) dX9_layUnlike_48 ⟨Nat.le_of_ble_eq_true rfl, Nat.le_of_ble_eq_true rfl⟩ (fun r43237 hr43237 => ?_)
          refine lv_aload_n hx hb dX9_layUnlike_51 rfl (lv_at hl 1 rfl) ?_
          refine va_get (D := D) (ci := 9) (v := .ref (a 39)) (C := RX9) (T := TX9) (N := 6) hx hb hts hin9 hown hK hP 38 rfl rfl 2 (by decide) (hts (.fieldLink RX9 9 "MissedPoints$Told" "mates" "[I") (by decide +kernel)) (fun _ h9 => h9) rfl dX9_layUnlike_52 ?_
          refine lv_iload_n hx hb dX9_layUnlike_55 rfl (lv_at hl 3 rfl) ?_
          refine wk_aldA hx hb hK hP 39 0 rfl rfl (rg_in g43231 (by decide) (by decide)) dX9_layUnlike_56 (fun r43238 => ?_)
          refine lz_ss (As := [.int r43238]) (rest := [.int r43237, .int y4_l3, .ref (a 37)]) ⟨hx, hb, hml, hown, hts⟩ (k_X9_bitOf l D cI cS r43238) hKK (hP.sub (ws' := []) [] rfl) (va_cwS 1 hts gX9_layUnlike_X9_bitOf rfl rfl rfl (by decide +kernel) ⟨Nat.le_of_ble_eq_true rfl, Nat.le_of_ble_eq_true rfl⟩) rfl hl.1 rfl (Nat.le_of_ble_eq_true rfl) dX9_layUnlike_57 ⟨Nat.le_of_ble_eq_true rfl, Nat.le_of_ble_eq_true rfl⟩ (fun r43239 hr43239 => ?_)
          refine lv_ior hx hb dX9_layUnlike_60 ?_
          refine wk_topP (P := fun r => r = r43237 ||| r43239) rfl (fun r43240 qr43240 => ?_)
          refine ks_ast hx hb hK hP hD hS rfl (k := 37) rfl sx_37 (rg_in g43231 (by decide) (by decide)) dX9_layUnlike_61 (fun u H locs hP hD hS => ?_)
          refine lv_iload_n hx hb dX9_layUnlike_62 rfl (lv_at hl 2 rfl) ?_
          refine lv_iconst (v := 1) hx hb dX9_layUnlike_63 (by decide) ?_
          refine lv_iload_n hx hb dX9_layUnlike_64 rfl (lv_at hl 3 rfl) ?_
          refine wk_ishl1 (f := 2048) hx hb dX9_layUnlike_65 g43231 (by decide) (fun r43241 hr43241 qr43241 => ?_)
          refine wk_ior 12 (e1 := 1) (f := 4095) hx hb dX9_layUnlike_66 g4_l2 hr43241 (by decide) (fun r43242 hr43242 qr43242 => ?_)
          refine lv_istore_n (lv' := [(2, .int r43242), (0, .ref (a 34)), (1, .ref (a 38)), (3, .int y4_l3)]) hx hb dX9_layUnlike_67 rfl hl (by decide) rfl (fun ls hl => ?_)
          refine wk_iinc (lv' := fun r => [(3, .int r), (2, .int r43242), (0, .ref (a 34)), (1, .ref (a 38))]) (e1 := 1) (f := 12) hx hb dX9_layUnlike_68 hl (k := 3) rfl (by decide) g43231 (by decide) (fun _ => rfl) (fun r43243 ls hr43243 er43243 hl => ?_)
          refine lv_goto (tgt := 4) hx hb dX9_layUnlike_71 (by decide) ?_
          exact ih4 r43242 r43243 u _ _ ls (show Rg 0 4095 r43242 from rg_w hr43242 (by decide) (by decide)) (show Rg 0 12 r43243 from rg_w hr43243 (by decide) (by decide)) hP hD hS (lv_sub (l' := [(0, .ref (a 34)), (1, .ref (a 38)), (2, .int r43242), (3, .int r43243)]) hl [2, 3, 1, 0] rfl) (me_up hm4 er43243 (by decide))
  refine lv_iconst (v := 0) hx hb dX9_layUnlike_0 (by decide) ?_
  refine lv_istore_n (lv' := [(2, .int 0), (0, .ref (a 34)), (1, .ref (a 38))]) hx hb dX9_layUnlike_1 rfl hl (by decide) rfl (fun ls hl => ?_)
  refine lv_iconst (v := 0) hx hb dX9_layUnlike_2 (by decide) ?_
  refine lv_istore_n (lv' := [(3, .int 0), (2, .int 0), (0, .ref (a 34)), (1, .ref (a 38))]) hx hb dX9_layUnlike_3 rfl hl (by decide) rfl (fun ls hl => ?_)
  exact lp4 13 (0 : Int32) (0 : Int32) u _ _ ls (by decide : Rg 0 4095 (0 : Int32)) (by decide : Rg 0 12 (0 : Int32)) hP hD hS (lv_sub (l' := [(0, .ref (a 34)), (1, .ref (a 38)), (2, .int 0), (3, .int 0)]) hl [2, 3, 1, 0] rfl) (me_i (by decide : Rg 0 12 (0 : Int32)) (by decide))
set_option maxHeartbeats 4000000 in
set_option maxRecDepth 100000 in
theorem k_X2_firstPiece_37 (l : Launch) (D : va_G) (cI cS : ClassId) (a : Nat → Nat) (na nc N : Nat) (L u : SU) (hL : TyX L) (hN : N = 0 ∨ N = 24576) (x0 : Int32) : Met l yX2_firstPiece wsX2_firstPiece ({ frames := 1, cells := 0, slots := 0, locals := 40 }) (PS D cI cS (wX cI cS a na nc N L u) [.ref (a 37), .int x0]) (vp_Si (fun r => Rg (-2147483648) 2147483647 r ∧ True)) 0 0 (fun _ => False) := by
  refine Met.ofW (cc := cX2_firstPiece) (maxL := 7) (ret := (some .int)) (by decide) rfl ?_
  intro p e s m args below meth c s₁ B hml hv
  obtain ⟨rfl, hP, hKK⟩ := hv
  have hx := B.exec
  have hb := B.bytes
  have hr := B.returns
  have hts := atoms_spec (ws := wsX2_firstPiece) B.pre
  have hown : s.vm.findClass RX2 = some m.cls := findClass_of_methodNamed B.named
  have hlocks := B.notSynchronized
  have hK := hKK.1
  have hl := lv_entry ([.ref (a 37), .int x0]) (n := 7) (Nat.le_of_ble_eq_true rfl)
  rw [lg_entry_eq]
  generalize (lg_sl ([.ref (a 37), .int x0]) ++ List.replicate (7 - (lg_sl ([.ref (a 37), .int x0])).length) Slot.unset).toArray = ls at hl ⊢
  have hl : lv_has ls 7 [(0, .ref (a 37)), (1, .int x0)] := hl
  have lp10 : ∀ (n10 : Nat) (y10_l2 : Int32) (y10_l3 : Int32) (y10_l4 : Int32) (ls : Array Slot), Rg 0 12 y10_l4 → lv_has ls 7 [(0, .ref (a 37)), (1, .int x0), (2, .int y10_l2), (3, .int y10_l3), (4, .int y10_l4)] → 12 - y10_l4.toInt < (n10 : Int) → W p l e (headSpec wsX2_firstPiece ({ frames := 1, cells := 0, slots := 0, locals := 40 })).room s m ([.ref (a 37), .int x0]).toArray below meth c s.heap [] 0 0 (MQ below (vp_Si (fun r => Rg (-2147483648) 2147483647 r ∧ True)) ([.ref (a 37), .int x0]).toArray s 0 0 (fun _ => False)) (F0 m 10 ls []) := by
    intro n10
    induction n10 with
    | zero =>
      intro y10_l2 y10_l3 y10_l4 ls g10_l4 hl hm10
      exact absurd rfl (me_z g10_l4 hm10)
    | succ n10 ih10 =>
      intro y10_l2 y10_l3 y10_l4 ls g10_l4 hl hm10
      refine lv_iload hx hb dX2_firstPiece_10 (lv_at hl 4 rfl) ?_
      refine lv_bipush (v := 12) hx hb dX2_firstPiece_12 (by decide) ?_
      refine lv_icmp_ge (tgt := 70) hx hb dX2_firstPiece_14 (by decide) (fun c43398 => ?_) (fun c43398 => ?_)
      · have g43399 : Rg 12 12 y10_l4 := rg_ler (by decide : Rg 12 12 (12 : Int32)) g10_l4 c43398 (by decide)
        refine lv_iload_n hx hb dX2_firstPiece_70 rfl (lv_at hl 2 rfl) ?_
        exact W.iret (v := y10_l2) hx hb hr (fun t ht hW => ⟨_, rfl, ⟨(rg_any y10_l2), trivial⟩, ht⟩) (fun q hq => absurd hq List.not_mem_nil) dX2_firstPiece_71
      · have g43400 : Rg 0 11 y10_l4 := rg_ltl g10_l4 (by decide : Rg 12 12 (12 : Int32)) (rg_nle c43398) (by decide)
        refine lv_iload_n hx hb dX2_firstPiece_17 rfl (lv_at hl 3 rfl) ?_
        refine lv_if_eq (tgt := 70) hx hb dX2_firstPiece_18 (by decide) (fun c43401 => ?_) (fun c43401 => ?_)
        · have g43402 : Rg 0 0 y10_l3 := wk_eql (rg_any y10_l3) (by decide : Rg 0 0 (0 : Int32)) c43401 (by decide)
          refine lv_iload_n hx hb dX2_firstPiece_70 rfl (lv_at hl 2 rfl) ?_
          exact W.iret (v := y10_l2) hx hb hr (fun t ht hW => ⟨_, rfl, ⟨(rg_any y10_l2), trivial⟩, ht⟩) (fun q hq => absurd hq List.not_mem_nil) dX2_firstPiece_71
        · refine lv_iload_n hx hb dX2_firstPiece_21 rfl (lv_at hl 3 rfl) ?_
          refine lz_ss (As := [.int y10_l3]) (rest := []) ⟨hx, hb, hml, hown, hts⟩ (k_J6_numberOfTrailingZeros_0f7a4 l D cI cS y10_l3) hKK (hP.sub (ws' := []) [] rfl) (va_cwS 1 hts gX2_firstPiece_J6_numberOfTrailingZeros_0f7a4 rfl rfl rfl (by decide +kernel) ⟨Nat.le_of_ble_eq_true rfl, Nat.le_of_ble_eq_true rfl⟩) rfl hl.1 rfl (Nat.le_of_ble_eq_true rfl) dX2_firstPiece_22 ⟨Nat.le_of_ble_eq_true rfl, Nat.le_of_ble_eq_true rfl⟩ (fun r43403 hr43403 => ?_)
          refine lv_istore (lv' := [(5, .int r43403), (0, .ref (a 37)), (1, .int x0), (2, .int y10_l2), (3, .int y10_l3), (4, .int y10_l4)]) hx hb dX2_firstPiece_25 hl (by decide) rfl (fun ls hl => ?_)
          refine lv_iload hx hb dX2_firstPiece_27 (lv_at hl 0 rfl) ?_
          refine lv_aload_n hx hb dX2_firstPiece_29 rfl (lv_at hl 1 rfl) ?_
          refine va_alen hx hb hK hP 37 0 rfl rfl (v := 12) rfl dX2_firstPiece_30 ?_
          refine lv_icmp_lt (tgt := 36) hx hb dX2_firstPiece_31 (by decide) (fun c43404 => ?_) (fun c43404 => ?_)
          · have g43405 : Rg 0 11 r43403 := rg_ltl hr43403.1 (by decide : Rg 12 12 (12 : Int32)) c43404 (by decide)
            refine lv_iload_n hx hb dX2_firstPiece_36 rfl (lv_at hl 4 rfl) ?_
            refine lv_iload_n hx hb dX2_firstPiece_37 rfl (lv_at hl 4 rfl) ?_
            refine lv_iconst (v := 1) hx hb dX2_firstPiece_38 (by decide) ?_
            refine lv_isub hx hb dX2_firstPiece_39 ?_
            refine wk_topP (P := fun r => r = y10_l3 - (1 : Int32)) rfl (fun r43406 qr43406 => ?_)
            refine lv_iand hx hb dX2_firstPiece_40 ?_
            refine wk_topP (P := fun r => r = y10_l3 &&& r43406) rfl (fun r43407 qr43407 => ?_)
            refine lv_istore_n (lv' := [(3, .int r43407), (5, .int r43403), (0, .ref (a 37)), (1, .int x0), (2, .int y10_l2), (4, .int y10_l4)]) hx hb dX2_firstPiece_41 rfl hl (by decide) rfl (fun ls hl => ?_)
            refine lv_aload_n hx hb dX2_firstPiece_42 rfl (lv_at hl 2 rfl) ?_
            refine lv_iload hx hb dX2_firstPiece_43 (lv_at hl 1 rfl) ?_
            refine wk_aldA hx hb hK hP 37 0 rfl rfl (rg_in g43405 (by decide) (by decide)) dX2_firstPiece_45 (fun r43408 => ?_)
            refine lv_iload_n hx hb dX2_firstPiece_46 rfl (lv_at hl 3 rfl) ?_
            refine lv_iand hx hb dX2_firstPiece_47 ?_
            refine wk_topP (P := fun r => r = r43408 &&& x0) rfl (fun r43409 qr43409 => ?_)
            refine lv_iload_n hx hb dX2_firstPiece_48 rfl (lv_at hl 4 rfl) ?_
            refine lv_iconst (v := (-1)) hx hb dX2_firstPiece_49 (by decide) ?_
            refine lv_ixor hx hb dX2_firstPiece_50 ?_
            refine wk_topP (P := fun r => r = y10_l2 ^^^ ((-1) : Int32)) rfl (fun r43410 qr43410 => ?_)
            refine lv_iand hx hb dX2_firstPiece_51 ?_
            refine wk_topP (P := fun r => r = r43409 &&& r43410) rfl (fun r43411 qr43411 => ?_)
            refine lv_istore (lv' := [(6, .int r43411), (3, .int r43407), (5, .int r43403), (0, .ref (a 37)), (1, .int x0), (2, .int y10_l2), (4, .int y10_l4)]) hx hb dX2_firstPiece_52 hl (by decide) rfl (fun ls hl => ?_)
            refine lv_iload_n hx hb dX2_firstPiece_54 rfl (lv_at hl 5 rfl) ?_
            refine lv_iload hx hb dX2_firstPiece_55 (lv_at hl 0 rfl) ?_
            refine lv_ior hx hb dX2_firstPiece_57 ?_
            refine wk_topP (P := fun r => r = y10_l2 ||| r43411) rfl (fun r43412 qr43412 => ?_)
            refine lv_istore_n (lv' := [(2, .int r43412), (6, .int r43411), (3, .int r43407), (5, .int r43403), (0, .ref (a 37)), (1, .int x0), (4, .int y10_l4)]) hx hb dX2_firstPiece_58 rfl hl (by decide) rfl (fun ls hl => ?_)
            refine lv_iload_n hx hb dX2_firstPiece_59 rfl (lv_at hl 2 rfl) ?_
            refine lv_iload hx hb dX2_firstPiece_60 (lv_at hl 1 rfl) ?_
            refine lv_ior hx hb dX2_firstPiece_62 ?_
            refine wk_topP (P := fun r => r = r43407 ||| r43411) rfl (fun r43413 qr43413 => ?_)
            refine lv_istore_n (lv' := [(3, .int r43413), (2, .int r43412), (6, .int r43411), (5, .int r43403), (0, .ref (a 37)), (1, .int x0), (4, .int y10_l4)]) hx hb dX2_firstPiece_63 rfl hl (by decide) rfl (fun ls hl => ?_)
            refine wk_iinc (lv' := fun r => [(4, .int r), (3, .int r43413), (2, .int r43412), (6, .int r43411), (5, .int r43403), (0, .ref (a 37)), (1, .int x0)]) (e1 := 1) (f := 12) hx hb dX2_firstPiece_64 hl (k := 6) rfl (by decide) g43400 (by decide) (fun _ => rfl) (fun r43414 ls hr43414 er43414 hl => ?_)
            refine lv_goto (tgt := 10) hx hb dX2_firstPiece_67 (by decide) ?_
            exact ih10 r43412 r43413 r43414 ls (show Rg 0 12 r43414 from rg_w hr43414 (by decide) (by decide)) (lv_sub (l' := [(0, .ref (a 37)), (1, .int x0), (2, .int r43412), (3, .int r43413), (4, .int r43414)]) hl [5, 6, 2, 1, 0] rfl) (me_up hm10 er43414 (by decide))
          · have g43415 : Rg 12 33 r43403 := rg_ler (by decide : Rg 12 12 (12 : Int32)) hr43403.1 (rg_nlt c43404) (by decide)
            refine lv_iload_n hx hb dX2_firstPiece_34 rfl (lv_at hl 3 rfl) ?_
            exact W.iret (v := y10_l2) hx hb hr (fun t ht hW => ⟨_, rfl, ⟨(rg_any y10_l2), trivial⟩, ht⟩) (fun q hq => absurd hq List.not_mem_nil) dX2_firstPiece_35
  refine lv_iload_n hx hb dX2_firstPiece_0 rfl (lv_at hl 1 rfl) ?_
  refine lz_ss (As := [.int x0]) (rest := []) ⟨hx, hb, hml, hown, hts⟩ (k_J6_lowestOneBit_0f7a4 l D cI cS x0) hKK (hP.sub (ws' := []) [] rfl) (va_cwS 1 hts gX2_firstPiece_J6_lowestOneBit_0f7a4 rfl rfl rfl (by decide +kernel) ⟨Nat.le_of_ble_eq_true rfl, Nat.le_of_ble_eq_true rfl⟩) rfl hl.1 rfl (Nat.le_of_ble_eq_true rfl) dX2_firstPiece_1 ⟨Nat.le_of_ble_eq_true rfl, Nat.le_of_ble_eq_true rfl⟩ (fun r43416 hr43416 => ?_)
  refine lv_istore_n (lv' := [(2, .int r43416), (0, .ref (a 37)), (1, .int x0)]) hx hb dX2_firstPiece_4 rfl hl (by decide) rfl (fun ls hl => ?_)
  refine lv_iload_n hx hb dX2_firstPiece_5 rfl (lv_at hl 0 rfl) ?_
  refine lv_istore_n (lv' := [(3, .int r43416), (2, .int r43416), (0, .ref (a 37)), (1, .int x0)]) hx hb dX2_firstPiece_6 rfl hl (by decide) rfl (fun ls hl => ?_)
  refine lv_iconst (v := 0) hx hb dX2_firstPiece_7 (by decide) ?_
  refine lv_istore (lv' := [(4, .int 0), (3, .int r43416), (2, .int r43416), (0, .ref (a 37)), (1, .int x0)]) hx hb dX2_firstPiece_8 hl (by decide) rfl (fun ls hl => ?_)
  exact lp10 13 r43416 r43416 (0 : Int32) ls (by decide : Rg 0 12 (0 : Int32)) (lv_sub (l' := [(0, .ref (a 37)), (1, .int x0), (2, .int r43416), (3, .int r43416), (4, .int 0)]) hl [3, 4, 2, 1, 0] rfl) (me_i (by decide : Rg 0 12 (0 : Int32)) (by decide))
