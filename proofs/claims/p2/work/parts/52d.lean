set_option maxRecDepth 20000 in
theorem ggX5_readBrackets_J6_bitCount_0f7a4 : GoodIn wsX5_readBrackets wsJ6_bitCount_0f7a4 := goodIn_r _ [45, 46, 47, 48] (by decide +kernel) (by decide +kernel)
set_option maxRecDepth 20000 in
theorem gX5_readBrackets_J6_bitCount_0f7a4 : GoodIn wsX5_readBrackets (va_wsS RX5 70 yJ6_bitCount_0f7a4 wsJ6_bitCount_0f7a4) := goodIn_app (goodIn_of _ (by decide +kernel)) ggX5_readBrackets_J6_bitCount_0f7a4
set_option maxRecDepth 20000 in
theorem ggX5_readBrackets_X5_fail : GoodIn wsX5_readBrackets wsX5_fail := goodIn_r _ [36, 1, 10, 49, 50, 51, 52, 53, 54, 55, 56] (by decide +kernel) (by decide +kernel)
set_option maxRecDepth 20000 in
theorem gX5_readBrackets_X5_fail : GoodIn wsX5_readBrackets (wsV RX5 39 RX5 yX5_fail wsX5_fail) := goodIn_app (goodIn_of _ (by decide +kernel)) ggX5_readBrackets_X5_fail
set_option maxRecDepth 20000 in
theorem ggX5_readBrackets_X5_joinEach : GoodIn wsX5_readBrackets wsX5_joinEach := goodIn_r _ [40, 26, 41, 27, 28, 29, 30, 31, 32, 49, 50, 51, 52, 53, 54, 55, 56, 59, 60, 61] (by decide +kernel) (by decide +kernel)
set_option maxRecDepth 20000 in
theorem gX5_readBrackets_X5_joinEach : GoodIn wsX5_readBrackets (wsV RX5 67 RX5 yX5_joinEach wsX5_joinEach) := goodIn_app (goodIn_of _ (by decide +kernel)) ggX5_readBrackets_X5_joinEach
set_option maxRecDepth 20000 in
theorem ggX5_readBrackets_X5_readPoint : GoodIn wsX5_readBrackets wsX5_readPoint := goodIn_r _ [25, 2, 26, 11, 27, 28, 29, 30, 31, 32, 33, 34, 35, 6, 36, 1, 10, 3, 4, 5, 7, 8, 9, 12, 13, 14, 15, 16, 17, 18, 19, 20, 21, 49, 50, 51, 52, 53, 54, 55, 56, 59, 60, 61, 57, 58] (by decide +kernel) (by decide +kernel)
set_option maxRecDepth 20000 in
theorem gX5_readBrackets_X5_readPoint : GoodIn wsX5_readBrackets (wsV RX5 64 RX5 yX5_readPoint wsX5_readPoint) := goodIn_app (goodIn_of _ (by decide +kernel)) ggX5_readBrackets_X5_readPoint
set_option maxRecDepth 20000 in
theorem ggX5_readBrackets_X5_step : GoodIn wsX5_readBrackets wsX5_step := goodIn_r _ [7, 8, 9, 10, 11, 2, 12, 13, 14, 15, 16, 17, 18, 19, 20, 6, 21, 49, 50, 51, 52, 53, 54, 55, 56, 57, 58] (by decide +kernel) (by decide +kernel)
set_option maxRecDepth 20000 in
theorem gX5_readBrackets_X5_step : GoodIn wsX5_readBrackets (wsV RX5 30 RX5 yX5_step wsX5_step) := goodIn_app (goodIn_of _ (by decide +kernel)) ggX5_readBrackets_X5_step
theorem dX5_readBrackets_0 : decode cX5_readBrackets 0 = .ok (.iload_n 2, 1) := by decide +kernel
theorem dX5_readBrackets_1 : decode cX5_readBrackets 1 = .ok (.bipush 41, 2) := by decide +kernel
theorem dX5_readBrackets_10 : decode cX5_readBrackets 10 = .ok (.iconst 0, 1) := by decide +kernel
theorem dX5_readBrackets_101 : decode cX5_readBrackets 101 = .ok (.iload 4, 2) := by decide +kernel
theorem dX5_readBrackets_103 : decode cX5_readBrackets 103 = .ok (.istore 4, 2) := by decide +kernel
theorem dX5_readBrackets_105 : decode cX5_readBrackets 105 = .ok (.iload 6, 2) := by decide +kernel
theorem dX5_readBrackets_107 : decode cX5_readBrackets 107 = .ok (.iload 5, 2) := by decide +kernel
theorem dX5_readBrackets_109 : decode cX5_readBrackets 109 = .ok (.ior, 1) := by decide +kernel
theorem dX5_readBrackets_11 : decode cX5_readBrackets 11 = .ok (.istore_n 3, 1) := by decide +kernel
theorem dX5_readBrackets_110 : decode cX5_readBrackets 110 = .ok (.istore 6, 2) := by decide +kernel
theorem dX5_readBrackets_112 : decode cX5_readBrackets 112 = .ok (.iinc 8 1, 3) := by decide +kernel
theorem dX5_readBrackets_115 : decode cX5_readBrackets 115 = .ok (.goto (-84), 3) := by decide +kernel
theorem dX5_readBrackets_118 : decode cX5_readBrackets 118 = .ok (.iload 6, 2) := by decide +kernel
theorem dX5_readBrackets_12 : decode cX5_readBrackets 12 = .ok (.iconst 0, 1) := by decide +kernel
theorem dX5_readBrackets_120 : decode cX5_readBrackets 120 = .ok (.invokestatic 70, 3) := by decide +kernel
theorem dX5_readBrackets_123 : decode cX5_readBrackets 123 = .ok (.iload_n 1, 1) := by decide +kernel
theorem dX5_readBrackets_124 : decode cX5_readBrackets 124 = .ok (.if_icmp .lt 11, 3) := by decide +kernel
theorem dX5_readBrackets_127 : decode cX5_readBrackets 127 = .ok (.aload_n 0, 1) := by decide +kernel
theorem dX5_readBrackets_128 : decode cX5_readBrackets 128 = .ok (.getfield 36, 3) := by decide +kernel
theorem dX5_readBrackets_13 : decode cX5_readBrackets 13 = .ok (.istore 4, 2) := by decide +kernel
theorem dX5_readBrackets_131 : decode cX5_readBrackets 131 = .ok (.iload_n 2, 1) := by decide +kernel
theorem dX5_readBrackets_132 : decode cX5_readBrackets 132 = .ok (.if_icmp .eq 8, 3) := by decide +kernel
theorem dX5_readBrackets_135 : decode cX5_readBrackets 135 = .ok (.aload_n 0, 1) := by decide +kernel
theorem dX5_readBrackets_136 : decode cX5_readBrackets 136 = .ok (.invokevirtual 39, 3) := by decide +kernel
theorem dX5_readBrackets_139 : decode cX5_readBrackets 139 = .ok (.return_, 1) := by decide +kernel
theorem dX5_readBrackets_140 : decode cX5_readBrackets 140 = .ok (.iload_n 3, 1) := by decide +kernel
theorem dX5_readBrackets_141 : decode cX5_readBrackets 141 = .ok (.ifCond .eq 11, 3) := by decide +kernel
theorem dX5_readBrackets_144 : decode cX5_readBrackets 144 = .ok (.aload_n 0, 1) := by decide +kernel
theorem dX5_readBrackets_145 : decode cX5_readBrackets 145 = .ok (.iload 4, 2) := by decide +kernel
theorem dX5_readBrackets_147 : decode cX5_readBrackets 147 = .ok (.iload 7, 2) := by decide +kernel
theorem dX5_readBrackets_149 : decode cX5_readBrackets 149 = .ok (.invokevirtual 67, 3) := by decide +kernel
theorem dX5_readBrackets_15 : decode cX5_readBrackets 15 = .ok (.iconst 0, 1) := by decide +kernel
theorem dX5_readBrackets_152 : decode cX5_readBrackets 152 = .ok (.aload_n 0, 1) := by decide +kernel
theorem dX5_readBrackets_153 : decode cX5_readBrackets 153 = .ok (.invokevirtual 30, 3) := by decide +kernel
theorem dX5_readBrackets_156 : decode cX5_readBrackets 156 = .ok (.return_, 1) := by decide +kernel
theorem dX5_readBrackets_16 : decode cX5_readBrackets 16 = .ok (.istore 5, 2) := by decide +kernel
theorem dX5_readBrackets_18 : decode cX5_readBrackets 18 = .ok (.iconst 0, 1) := by decide +kernel
theorem dX5_readBrackets_19 : decode cX5_readBrackets 19 = .ok (.istore 6, 2) := by decide +kernel
theorem dX5_readBrackets_21 : decode cX5_readBrackets 21 = .ok (.iconst (-1), 1) := by decide +kernel
theorem dX5_readBrackets_22 : decode cX5_readBrackets 22 = .ok (.istore 7, 2) := by decide +kernel
theorem dX5_readBrackets_24 : decode cX5_readBrackets 24 = .ok (.aload_n 0, 1) := by decide +kernel
theorem dX5_readBrackets_25 : decode cX5_readBrackets 25 = .ok (.invokevirtual 30, 3) := by decide +kernel
theorem dX5_readBrackets_28 : decode cX5_readBrackets 28 = .ok (.iconst 0, 1) := by decide +kernel
theorem dX5_readBrackets_29 : decode cX5_readBrackets 29 = .ok (.istore 8, 2) := by decide +kernel
theorem dX5_readBrackets_3 : decode cX5_readBrackets 3 = .ok (.if_icmp .ne 7, 3) := by decide +kernel
theorem dX5_readBrackets_31 : decode cX5_readBrackets 31 = .ok (.iload 8, 2) := by decide +kernel
theorem dX5_readBrackets_33 : decode cX5_readBrackets 33 = .ok (.bipush 120, 2) := by decide +kernel
theorem dX5_readBrackets_35 : decode cX5_readBrackets 35 = .ok (.if_icmp .ge 83, 3) := by decide +kernel
theorem dX5_readBrackets_38 : decode cX5_readBrackets 38 = .ok (.aload_n 0, 1) := by decide +kernel
theorem dX5_readBrackets_39 : decode cX5_readBrackets 39 = .ok (.getfield 27, 3) := by decide +kernel
theorem dX5_readBrackets_42 : decode cX5_readBrackets 42 = .ok (.ifCond .ge 76, 3) := by decide +kernel
theorem dX5_readBrackets_45 : decode cX5_readBrackets 45 = .ok (.aload_n 0, 1) := by decide +kernel
theorem dX5_readBrackets_46 : decode cX5_readBrackets 46 = .ok (.getfield 36, 3) := by decide +kernel
theorem dX5_readBrackets_49 : decode cX5_readBrackets 49 = .ok (.bipush (-2), 2) := by decide +kernel
theorem dX5_readBrackets_51 : decode cX5_readBrackets 51 = .ok (.if_icmp .ne 67, 3) := by decide +kernel
theorem dX5_readBrackets_54 : decode cX5_readBrackets 54 = .ok (.aload_n 0, 1) := by decide +kernel
theorem dX5_readBrackets_55 : decode cX5_readBrackets 55 = .ok (.iload 6, 2) := by decide +kernel
theorem dX5_readBrackets_57 : decode cX5_readBrackets 57 = .ok (.invokevirtual 64, 3) := by decide +kernel
theorem dX5_readBrackets_6 : decode cX5_readBrackets 6 = .ok (.iconst 1, 1) := by decide +kernel
theorem dX5_readBrackets_60 : decode cX5_readBrackets 60 = .ok (.istore 7, 2) := by decide +kernel
theorem dX5_readBrackets_62 : decode cX5_readBrackets 62 = .ok (.iload 7, 2) := by decide +kernel
theorem dX5_readBrackets_64 : decode cX5_readBrackets 64 = .ok (.ifCond .ge 4, 3) := by decide +kernel
theorem dX5_readBrackets_67 : decode cX5_readBrackets 67 = .ok (.return_, 1) := by decide +kernel
theorem dX5_readBrackets_68 : decode cX5_readBrackets 68 = .ok (.aload_n 0, 1) := by decide +kernel
theorem dX5_readBrackets_69 : decode cX5_readBrackets 69 = .ok (.iload_n 3, 1) := by decide +kernel
theorem dX5_readBrackets_7 : decode cX5_readBrackets 7 = .ok (.goto 4, 3) := by decide +kernel
theorem dX5_readBrackets_70 : decode cX5_readBrackets 70 = .ok (.ifCond .eq 8, 3) := by decide +kernel
theorem dX5_readBrackets_73 : decode cX5_readBrackets 73 = .ok (.iload 5, 2) := by decide +kernel
theorem dX5_readBrackets_75 : decode cX5_readBrackets 75 = .ok (.goto 5, 3) := by decide +kernel
theorem dX5_readBrackets_78 : decode cX5_readBrackets 78 = .ok (.iload 6, 2) := by decide +kernel
theorem dX5_readBrackets_80 : decode cX5_readBrackets 80 = .ok (.iload 7, 2) := by decide +kernel
theorem dX5_readBrackets_82 : decode cX5_readBrackets 82 = .ok (.invokevirtual 67, 3) := by decide +kernel
theorem dX5_readBrackets_85 : decode cX5_readBrackets 85 = .ok (.iconst 1, 1) := by decide +kernel
theorem dX5_readBrackets_86 : decode cX5_readBrackets 86 = .ok (.iload 7, 2) := by decide +kernel
theorem dX5_readBrackets_88 : decode cX5_readBrackets 88 = .ok (.ishl, 1) := by decide +kernel
theorem dX5_readBrackets_89 : decode cX5_readBrackets 89 = .ok (.istore 5, 2) := by decide +kernel
theorem dX5_readBrackets_91 : decode cX5_readBrackets 91 = .ok (.iload 6, 2) := by decide +kernel
theorem dX5_readBrackets_93 : decode cX5_readBrackets 93 = .ok (.ifCond .ne 8, 3) := by decide +kernel
theorem dX5_readBrackets_96 : decode cX5_readBrackets 96 = .ok (.iload 5, 2) := by decide +kernel
theorem dX5_readBrackets_98 : decode cX5_readBrackets 98 = .ok (.goto 5, 3) := by decide +kernel
set_option maxHeartbeats 4000000 in
set_option maxRecDepth 100000 in
theorem k_X5_readBrackets (l : Launch) (D : va_G) (cI cS : ClassId) (sz : Nat) (a : Nat → Nat) (na nc N : Nat) (L u0 : SU) (hL : TyX L) (hN : N = 0 ∨ N = 24576) (x0 x1 : Int32) : Met l yX5_readBrackets wsX5_readBrackets ({ frames := 3, cells := 0, slots := 0, locals := 120 }) (PQ D cI cS (wX cI cS a na nc N L u0) sz [.ref (a 23), .int x0, .int x1]) (QE (S := SU) D (wX cI cS a na nc N L u0) (wX cI cS a na nc N L) sz (fun _ => True)) 0 0 (va_A (wX cI cS a na nc N L u0) sz) := by
  refine Met.ofW (cc := cX5_readBrackets) (maxL := 9) (ret := none) (by decide) rfl ?_
  intro p e s m args below meth c s₁ B hml hv
  obtain ⟨rfl, hsz, hP, hKK, hD0⟩ := hv
  have hx := B.exec
  have hb := B.bytes
  have hr := B.returns
  have hts := atoms_spec (ws := wsX5_readBrackets) B.pre
  have hown : s.vm.findClass RX5 = some m.cls := findClass_of_methodNamed B.named
  have hlocks := B.notSynchronized
  have hK := hKK.1
  have hin5 : ∀ w ∈ wsX50, w ∈ wsX5_readBrackets := by decide +kernel
  subst hsz
  have hD := hD0.self (sz := s.heap.size)
  obtain ⟨A, hAe⟩ : ∃ A, A = va_A (wX cI cS a na nc N L u0) s.heap.size := ⟨_, rfl⟩
  rw [← hAe] at hD
  have hA : ∀ q : Nat, s.heap.size ≤ q → A q := fun q h => by rw [hAe]; exact Or.inr h
  have hS : va_S A s.heap s.heap [] := va_S.rf
  have hl := lv_entry ([.ref (a 23), .int x0, .int x1]) (n := 9) (Nat.le_of_ble_eq_true rfl)
  rw [lg_entry_eq]
  generalize (lg_sl ([.ref (a 23), .int x0, .int x1]) ++ List.replicate (9 - (lg_sl ([.ref (a 23), .int x0, .int x1])).length) Slot.unset).toArray = ls at hl ⊢
  have hl : lv_has ls 9 [(0, .ref (a 23)), (1, .int x0), (2, .int x1)] := hl
  obtain ⟨u, hu9⟩ : ∃ u : SU, u = u0 := ⟨_, rfl⟩
  rw [← hu9] at hP hD
  have ct118 : ∀ (y118_l3 : Int32) (y118_l4 : Int32) (y118_l6 : Int32) (y118_l7 : Int32) (u : SU) (H : Heap) (locs : List Loc) (ls : Array Slot), Rg 0 1 y118_l3 → Rg (-1) 2147483647 y118_l7 → va_P D cls (wX cI cS a na nc N L u) H → va_D A (wX cI cS a na nc N L u) → va_S A s.heap H locs → lv_has ls 9 [(0, .ref (a 23)), (1, .int x0), (2, .int x1), (3, .int y118_l3), (4, .int y118_l4), (6, .int y118_l6), (7, .int y118_l7)] → W p l e (headSpec wsX5_readBrackets ({ frames := 3, cells := 0, slots := 0, locals := 120 })).room s m ([.ref (a 23), .int x0, .int x1]).toArray below meth c H locs 0 0 (MQ below (QE (S := SU) D (wX cI cS a na nc N L u0) (wX cI cS a na nc N L) s.heap.size (fun _ => True)) ([.ref (a 23), .int x0, .int x1]).toArray s 0 0 (va_A (wX cI cS a na nc N L u0) s.heap.size)) (F0 m 118 ls []) := by
    intro y118_l3 y118_l4 y118_l6 y118_l7 u H locs ls g118_l3 g118_l7 hP hD hS hl
    refine lv_iload hx hb dX5_readBrackets_118 (lv_at hl 5 rfl) ?_
    refine lz_ss (As := [.int y118_l6]) (rest := []) ⟨hx, hb, hml, hown, hts⟩ (k_J6_bitCount_0f7a4 l D cI cS y118_l6) hKK (hP.sub (ws' := []) [] rfl) (va_cwS 1 hts gX5_readBrackets_J6_bitCount_0f7a4 rfl rfl rfl (by decide +kernel) ⟨Nat.le_of_ble_eq_true rfl, Nat.le_of_ble_eq_true rfl⟩) rfl hl.1 rfl (Nat.le_of_ble_eq_true rfl) dX5_readBrackets_120 ⟨Nat.le_of_ble_eq_true rfl, Nat.le_of_ble_eq_true rfl⟩ (fun r10245 hr10245 => ?_)
    refine lv_iload_n hx hb dX5_readBrackets_123 rfl (lv_at hl 1 rfl) ?_
    refine lv_icmp_lt (tgt := 135) hx hb dX5_readBrackets_124 (by decide) (fun c10246 => ?_) (fun c10246 => ?_)
    · refine lv_aload_n hx hb dX5_readBrackets_135 rfl (lv_at hl 0 rfl) ?_
      refine wk_qv (wX cI cS a na nc N L) u (As := []) (rest := []) ⟨hx, hb, hml, hown, hts⟩ (k_X5_fail l D cI cS _ a na nc N L u hL hN) hKK hP hD hS hA 23 (ci := 5) rfl rfl (cwV 0 hts gX5_readBrackets_X5_fail rfl rfl rfl (by decide +kernel) ⟨Nat.le_of_ble_eq_true rfl, Nat.le_of_ble_eq_true rfl⟩) rfl hl.1 rfl (Nat.le_of_ble_eq_true rfl) dX5_readBrackets_136 ⟨Nat.le_of_ble_eq_true rfl, Nat.le_of_ble_eq_true rfl⟩ (fun u H locs hr10247 hP hD hS => ?_)
      subst hAe
      exact W.vret hx hb hr (fun t ht hW => ⟨⟨u, rfl, trivial, by rw [ht]; exact hP, hD⟩, hS.F ht⟩) hS.2.2 dX5_readBrackets_139
    · refine lv_aload_n hx hb dX5_readBrackets_127 rfl (lv_at hl 0 rfl) ?_
      refine va_get (D := D) (ci := 5) (v := .int (u 23 5)) (C := RX5) (T := TX5) (N := 8) hx hb hts hin5 hown hK hP 23 rfl rfl 5 (by decide) (hts (.fieldLink RX5 36 "MissedPoints$Reader" "token" "I") (by decide +kernel)) (fun _ h9 => h9) rfl dX5_readBrackets_128 ?_
      refine wk_any (fun r10248 => ?_)
      refine lv_iload_n hx hb dX5_readBrackets_131 rfl (lv_at hl 2 rfl) ?_
      refine lv_icmp_eq (tgt := 140) hx hb dX5_readBrackets_132 (by decide) (fun c10249 => ?_) (fun c10249 => ?_)
      · refine lv_iload_n hx hb dX5_readBrackets_140 rfl (lv_at hl 3 rfl) ?_
        refine lv_if_eq (tgt := 152) hx hb dX5_readBrackets_141 (by decide) (fun c10250 => ?_) (fun c10250 => ?_)
        · have g10251 : Rg 0 0 y118_l3 := wk_eql g118_l3 (by decide : Rg 0 0 (0 : Int32)) c10250 (by decide)
          refine lv_aload_n hx hb dX5_readBrackets_152 rfl (lv_at hl 0 rfl) ?_
          refine wk_qv (wX cI cS a na nc N L) u (As := []) (rest := []) ⟨hx, hb, hml, hown, hts⟩ (k_X5_step l D cI cS _ a na nc N L u hL hN) hKK hP hD hS hA 23 (ci := 5) rfl rfl (cwV 0 hts gX5_readBrackets_X5_step rfl rfl rfl (by decide +kernel) ⟨Nat.le_of_ble_eq_true rfl, Nat.le_of_ble_eq_true rfl⟩) rfl hl.1 rfl (Nat.le_of_ble_eq_true rfl) dX5_readBrackets_153 ⟨Nat.le_of_ble_eq_true rfl, Nat.le_of_ble_eq_true rfl⟩ (fun u H locs hr10252 hP hD hS => ?_)
          subst hAe
          exact W.vret hx hb hr (fun t ht hW => ⟨⟨u, rfl, trivial, by rw [ht]; exact hP, hD⟩, hS.F ht⟩) hS.2.2 dX5_readBrackets_156
        · have g10253 : Rg 1 1 y118_l3 := rg_ne_lo (k := 0) g118_l3 (by decide) c10250 (by decide)
          refine lv_aload_n hx hb dX5_readBrackets_144 rfl (lv_at hl 0 rfl) ?_
          refine lv_iload hx hb dX5_readBrackets_145 (lv_at hl 4 rfl) ?_
          refine lv_iload hx hb dX5_readBrackets_147 (lv_at hl 6 rfl) ?_
          refine wk_qv (wX cI cS a na nc N L) u (As := [.int y118_l4, .int y118_l7]) (rest := []) ⟨hx, hb, hml, hown, hts⟩ (k_X5_joinEach l D cI cS _ a na nc N L u hL hN y118_l4 y118_l7) hKK hP hD hS hA 23 (ci := 5) rfl rfl (cwV 2 hts gX5_readBrackets_X5_joinEach rfl rfl rfl (by decide +kernel) ⟨Nat.le_of_ble_eq_true rfl, Nat.le_of_ble_eq_true rfl⟩) rfl hl.1 rfl (Nat.le_of_ble_eq_true rfl) dX5_readBrackets_149 ⟨Nat.le_of_ble_eq_true rfl, Nat.le_of_ble_eq_true rfl⟩ (fun u H locs hr10254 hP hD hS => ?_)
          refine lv_aload_n hx hb dX5_readBrackets_152 rfl (lv_at hl 0 rfl) ?_
          refine wk_qv (wX cI cS a na nc N L) u (As := []) (rest := []) ⟨hx, hb, hml, hown, hts⟩ (k_X5_step l D cI cS _ a na nc N L u hL hN) hKK hP hD hS hA 23 (ci := 5) rfl rfl (cwV 0 hts gX5_readBrackets_X5_step rfl rfl rfl (by decide +kernel) ⟨Nat.le_of_ble_eq_true rfl, Nat.le_of_ble_eq_true rfl⟩) rfl hl.1 rfl (Nat.le_of_ble_eq_true rfl) dX5_readBrackets_153 ⟨Nat.le_of_ble_eq_true rfl, Nat.le_of_ble_eq_true rfl⟩ (fun u H locs hr10255 hP hD hS => ?_)
          subst hAe
          exact W.vret hx hb hr (fun t ht hW => ⟨⟨u, rfl, trivial, by rw [ht]; exact hP, hD⟩, hS.F ht⟩) hS.2.2 dX5_readBrackets_156
      · refine lv_aload_n hx hb dX5_readBrackets_135 rfl (lv_at hl 0 rfl) ?_
        refine wk_qv (wX cI cS a na nc N L) u (As := []) (rest := []) ⟨hx, hb, hml, hown, hts⟩ (k_X5_fail l D cI cS _ a na nc N L u hL hN) hKK hP hD hS hA 23 (ci := 5) rfl rfl (cwV 0 hts gX5_readBrackets_X5_fail rfl rfl rfl (by decide +kernel) ⟨Nat.le_of_ble_eq_true rfl, Nat.le_of_ble_eq_true rfl⟩) rfl hl.1 rfl (Nat.le_of_ble_eq_true rfl) dX5_readBrackets_136 ⟨Nat.le_of_ble_eq_true rfl, Nat.le_of_ble_eq_true rfl⟩ (fun u H locs hr10256 hP hD hS => ?_)
        subst hAe
        exact W.vret hx hb hr (fun t ht hW => ⟨⟨u, rfl, trivial, by rw [ht]; exact hP, hD⟩, hS.F ht⟩) hS.2.2 dX5_readBrackets_139
  have lp31 : ∀ (n31 : Nat) (y31_l3 : Int32) (y31_l4 : Int32) (y31_l5 : Int32) (y31_l6 : Int32) (y31_l7 : Int32) (y31_l8 : Int32) (u : SU) (H : Heap) (locs : List Loc) (ls : Array Slot), Rg 0 1 y31_l3 → Rg (-1) 2147483647 y31_l7 → Rg 0 120 y31_l8 → va_P D cls (wX cI cS a na nc N L u) H → va_D A (wX cI cS a na nc N L u) → va_S A s.heap H locs → lv_has ls 9 [(0, .ref (a 23)), (1, .int x0), (2, .int x1), (3, .int y31_l3), (4, .int y31_l4), (5, .int y31_l5), (6, .int y31_l6), (7, .int y31_l7), (8, .int y31_l8)] → 120 - y31_l8.toInt < (n31 : Int) → W p l e (headSpec wsX5_readBrackets ({ frames := 3, cells := 0, slots := 0, locals := 120 })).room s m ([.ref (a 23), .int x0, .int x1]).toArray below meth c H locs 0 0 (MQ below (QE (S := SU) D (wX cI cS a na nc N L u0) (wX cI cS a na nc N L) s.heap.size (fun _ => True)) ([.ref (a 23), .int x0, .int x1]).toArray s 0 0 (va_A (wX cI cS a na nc N L u0) s.heap.size)) (F0 m 31 ls []) := by
    intro n31
    induction n31 with
    | zero =>
      intro y31_l3 y31_l4 y31_l5 y31_l6 y31_l7 y31_l8 u H locs ls g31_l3 g31_l7 g31_l8 hP hD hS hl hm31
      exact absurd rfl (me_z g31_l8 hm31)
    | succ n31 ih31 =>
      intro y31_l3 y31_l4 y31_l5 y31_l6 y31_l7 y31_l8 u H locs ls g31_l3 g31_l7 g31_l8 hP hD hS hl hm31
      have ct80 : ∀ (y80_l7 : Int32) (y80_s0 : Int32) (u : SU) (H : Heap) (locs : List Loc) (ls : Array Slot), Rg 0 1 y31_l3 → Rg 0 2147483647 y80_l7 → Rg 0 119 y31_l8 → va_P D cls (wX cI cS a na nc N L u) H → va_D A (wX cI cS a na nc N L u) → va_S A s.heap H locs → lv_has ls 9 [(0, .ref (a 23)), (1, .int x0), (2, .int x1), (3, .int y31_l3), (4, .int y31_l4), (6, .int y31_l6), (7, .int y80_l7), (8, .int y31_l8)] → W p l e (headSpec wsX5_readBrackets ({ frames := 3, cells := 0, slots := 0, locals := 120 })).room s m ([.ref (a 23), .int x0, .int x1]).toArray below meth c H locs 0 0 (MQ below (QE (S := SU) D (wX cI cS a na nc N L u0) (wX cI cS a na nc N L) s.heap.size (fun _ => True)) ([.ref (a 23), .int x0, .int x1]).toArray s 0 0 (va_A (wX cI cS a na nc N L u0) s.heap.size)) (F0 m 80 ls [.int y80_s0, .ref (a 23)]) := by
        intro y80_l7 y80_s0 u H locs ls g80_l3 g80_l7 g80_l8 hP hD hS hl
        refine lv_iload hx hb dX5_readBrackets_80 (lv_at hl 6 rfl) ?_
        refine wk_qv (wX cI cS a na nc N L) u (As := [.int y80_s0, .int y80_l7]) (rest := []) ⟨hx, hb, hml, hown, hts⟩ (k_X5_joinEach l D cI cS _ a na nc N L u hL hN y80_s0 y80_l7) hKK hP hD hS hA 23 (ci := 5) rfl rfl (cwV 2 hts gX5_readBrackets_X5_joinEach rfl rfl rfl (by decide +kernel) ⟨Nat.le_of_ble_eq_true rfl, Nat.le_of_ble_eq_true rfl⟩) rfl hl.1 rfl (Nat.le_of_ble_eq_true rfl) dX5_readBrackets_82 ⟨Nat.le_of_ble_eq_true rfl, Nat.le_of_ble_eq_true rfl⟩ (fun u H locs hr10257 hP hD hS => ?_)
        refine lv_iconst (v := 1) hx hb dX5_readBrackets_85 (by decide) ?_
        refine lv_iload hx hb dX5_readBrackets_86 (lv_at hl 6 rfl) ?_
        refine lv_ishl hx hb dX5_readBrackets_88 ?_
        refine wk_topP (P := fun r => r = (1 : Int32) <<< (y80_l7 &&& 31)) rfl (fun r10258 qr10258 => ?_)
        refine lv_istore (lv' := [(5, .int r10258), (0, .ref (a 23)), (1, .int x0), (2, .int x1), (3, .int y31_l3), (4, .int y31_l4), (6, .int y31_l6), (7, .int y80_l7), (8, .int y31_l8)]) hx hb dX5_readBrackets_89 hl (by decide) rfl (fun ls hl => ?_)
        refine lv_iload hx hb dX5_readBrackets_91 (lv_at hl 6 rfl) ?_
        refine lv_if_ne (tgt := 101) hx hb dX5_readBrackets_93 (by decide) (fun c10259 => ?_) (fun c10259 => ?_)
        · refine lv_iload hx hb dX5_readBrackets_101 (lv_at hl 5 rfl) ?_
          refine lv_istore (lv' := [(4, .int y31_l4), (5, .int r10258), (0, .ref (a 23)), (1, .int x0), (2, .int x1), (3, .int y31_l3), (6, .int y31_l6), (7, .int y80_l7), (8, .int y31_l8)]) hx hb dX5_readBrackets_103 hl (by decide) rfl (fun ls hl => ?_)
          refine lv_iload hx hb dX5_readBrackets_105 (lv_at hl 6 rfl) ?_
          refine lv_iload hx hb dX5_readBrackets_107 (lv_at hl 1 rfl) ?_
          refine lv_ior hx hb dX5_readBrackets_109 ?_
          refine wk_topP (P := fun r => r = y31_l6 ||| r10258) rfl (fun r10260 qr10260 => ?_)
          refine lv_istore (lv' := [(6, .int r10260), (4, .int y31_l4), (5, .int r10258), (0, .ref (a 23)), (1, .int x0), (2, .int x1), (3, .int y31_l3), (7, .int y80_l7), (8, .int y31_l8)]) hx hb dX5_readBrackets_110 hl (by decide) rfl (fun ls hl => ?_)
          refine wk_iinc (lv' := fun r => [(8, .int r), (6, .int r10260), (4, .int y31_l4), (5, .int r10258), (0, .ref (a 23)), (1, .int x0), (2, .int x1), (3, .int y31_l3), (7, .int y80_l7)]) (e1 := 1) (f := 120) hx hb dX5_readBrackets_112 hl (k := 8) rfl (by decide) g80_l8 (by decide) (fun _ => rfl) (fun r10261 ls hr10261 er10261 hl => ?_)
          refine lv_goto (tgt := 31) hx hb dX5_readBrackets_115 (by decide) ?_
          exact ih31 y31_l3 y31_l4 r10258 r10260 y80_l7 r10261 u _ _ ls g80_l3 (show Rg (-1) 2147483647 y80_l7 from rg_w g80_l7 (by decide) (by decide)) (show Rg 0 120 r10261 from rg_w hr10261 (by decide) (by decide)) hP hD hS (lv_sub (l' := [(0, .ref (a 23)), (1, .int x0), (2, .int x1), (3, .int y31_l3), (4, .int y31_l4), (5, .int r10258), (6, .int r10260), (7, .int y80_l7), (8, .int r10261)]) hl [4, 5, 6, 7, 2, 3, 1, 8, 0] rfl) (me_up hm31 er10261 (by decide))
        · have g10262 : Rg 0 0 y31_l6 := wk_eql (rg_any y31_l6) (by decide : Rg 0 0 (0 : Int32)) c10259 (by decide)
          refine lv_iload hx hb dX5_readBrackets_96 (lv_at hl 0 rfl) ?_
          refine lv_goto (tgt := 103) hx hb dX5_readBrackets_98 (by decide) ?_
          refine lv_istore (lv' := [(4, .int r10258), (5, .int r10258), (0, .ref (a 23)), (1, .int x0), (2, .int x1), (3, .int y31_l3), (6, .int y31_l6), (7, .int y80_l7), (8, .int y31_l8)]) hx hb dX5_readBrackets_103 hl (by decide) rfl (fun ls hl => ?_)
          refine lv_iload hx hb dX5_readBrackets_105 (lv_at hl 6 rfl) ?_
          refine lv_iload hx hb dX5_readBrackets_107 (lv_at hl 1 rfl) ?_
          refine lv_ior hx hb dX5_readBrackets_109 ?_
          refine wk_topP (P := fun r => r = y31_l6 ||| r10258) rfl (fun r10263 qr10263 => ?_)
          refine lv_istore (lv' := [(6, .int r10263), (4, .int r10258), (5, .int r10258), (0, .ref (a 23)), (1, .int x0), (2, .int x1), (3, .int y31_l3), (7, .int y80_l7), (8, .int y31_l8)]) hx hb dX5_readBrackets_110 hl (by decide) rfl (fun ls hl => ?_)
          refine wk_iinc (lv' := fun r => [(8, .int r), (6, .int r10263), (4, .int r10258), (5, .int r10258), (0, .ref (a 23)), (1, .int x0), (2, .int x1), (3, .int y31_l3), (7, .int y80_l7)]) (e1 := 1) (f := 120) hx hb dX5_readBrackets_112 hl (k := 8) rfl (by decide) g80_l8 (by decide) (fun _ => rfl) (fun r10264 ls hr10264 er10264 hl => ?_)
          refine lv_goto (tgt := 31) hx hb dX5_readBrackets_115 (by decide) ?_
          exact ih31 y31_l3 r10258 r10258 r10263 y80_l7 r10264 u _ _ ls g80_l3 (show Rg (-1) 2147483647 y80_l7 from rg_w g80_l7 (by decide) (by decide)) (show Rg 0 120 r10264 from rg_w hr10264 (by decide) (by decide)) hP hD hS (lv_sub (l' := [(0, .ref (a 23)), (1, .int x0), (2, .int x1), (3, .int y31_l3), (4, .int r10258), (5, .int r10258), (6, .int r10263), (7, .int y80_l7), (8, .int r10264)]) hl [4, 5, 6, 7, 2, 3, 1, 8, 0] rfl) (me_up hm31 er10264 (by decide))
      refine lv_iload hx hb dX5_readBrackets_31 (lv_at hl 8 rfl) ?_
      refine lv_bipush (v := 120) hx hb dX5_readBrackets_33 (by decide) ?_
      refine lv_icmp_ge (tgt := 118) hx hb dX5_readBrackets_35 (by decide) (fun c10265 => ?_) (fun c10265 => ?_)
      · have g10266 : Rg 120 120 y31_l8 := rg_ler (by decide : Rg 120 120 (120 : Int32)) g31_l8 c10265 (by decide)
        exact ct118 y31_l3 y31_l4 y31_l6 y31_l7 u _ _ ls g31_l3 g31_l7 hP hD hS (lv_sub (l' := [(0, .ref (a 23)), (1, .int x0), (2, .int x1), (3, .int y31_l3), (4, .int y31_l4), (6, .int y31_l6), (7, .int y31_l7)]) hl [0, 1, 2, 3, 4, 6, 7] rfl)
      · have g10267 : Rg 0 119 y31_l8 := rg_ltl g31_l8 (by decide : Rg 120 120 (120 : Int32)) (rg_nle c10265) (by decide)
        refine lv_aload_n hx hb dX5_readBrackets_38 rfl (lv_at hl 0 rfl) ?_
        refine va_get (D := D) (ci := 5) (v := .int (u 23 7)) (C := RX5) (T := TX5) (N := 8) hx hb hts hin5 hown hK hP 23 rfl rfl 7 (by decide) (hts (.fieldLink RX5 27 "MissedPoints$Reader" "fault" "I") (by decide +kernel)) (fun _ h9 => h9) rfl dX5_readBrackets_39 ?_
        refine wk_any (fun r10268 => ?_)
        refine lv_if_ge (tgt := 118) hx hb dX5_readBrackets_42 (by decide) (fun c10269 => ?_) (fun c10269 => ?_)
        · have g10270 : Rg 0 2147483647 r10268 := rg_ler (by decide : Rg 0 0 (0 : Int32)) (rg_any r10268) c10269 (by decide)
          exact ct118 y31_l3 y31_l4 y31_l6 y31_l7 u _ _ ls g31_l3 g31_l7 hP hD hS (lv_sub (l' := [(0, .ref (a 23)), (1, .int x0), (2, .int x1), (3, .int y31_l3), (4, .int y31_l4), (6, .int y31_l6), (7, .int y31_l7)]) hl [0, 1, 2, 3, 4, 6, 7] rfl)
        · have g10271 : Rg (-2147483648) (-1) r10268 := rg_ltl (rg_any r10268) (by decide : Rg 0 0 (0 : Int32)) (rg_nle c10269) (by decide)
          refine lv_aload_n hx hb dX5_readBrackets_45 rfl (lv_at hl 0 rfl) ?_
          refine va_get (D := D) (ci := 5) (v := .int (u 23 5)) (C := RX5) (T := TX5) (N := 8) hx hb hts hin5 hown hK hP 23 rfl rfl 5 (by decide) (hts (.fieldLink RX5 36 "MissedPoints$Reader" "token" "I") (by decide +kernel)) (fun _ h9 => h9) rfl dX5_readBrackets_46 ?_
          refine wk_any (fun r10272 => ?_)
          refine lv_bipush (v := (-2)) hx hb dX5_readBrackets_49 (by decide) ?_
          refine lv_icmp_ne (tgt := 118) hx hb dX5_readBrackets_51 (by decide) (fun c10273 => ?_) (fun c10273 => ?_)
          · exact ct118 y31_l3 y31_l4 y31_l6 y31_l7 u _ _ ls g31_l3 g31_l7 hP hD hS (lv_sub (l' := [(0, .ref (a 23)), (1, .int x0), (2, .int x1), (3, .int y31_l3), (4, .int y31_l4), (6, .int y31_l6), (7, .int y31_l7)]) hl [0, 1, 2, 3, 4, 6, 7] rfl)
          · have g10274 : Rg (-2) (-2) r10272 := wk_eql (rg_any r10272) (by decide : Rg (-2) (-2) ((-2) : Int32)) c10273 (by decide)
            refine lv_aload_n hx hb dX5_readBrackets_54 rfl (lv_at hl 0 rfl) ?_
            refine lv_iload hx hb dX5_readBrackets_55 (lv_at hl 6 rfl) ?_
            refine wk_qi (wX cI cS a na nc N L) u (As := [.int y31_l6]) (rest := []) ⟨hx, hb, hml, hown, hts⟩ (k_X5_readPoint l D cI cS _ a na nc N L u hL hN y31_l6) hKK hP hD hS hA 23 (ci := 5) rfl rfl (cwV 1 hts gX5_readBrackets_X5_readPoint rfl rfl rfl (by decide +kernel) ⟨Nat.le_of_ble_eq_true rfl, Nat.le_of_ble_eq_true rfl⟩) rfl hl.1 rfl (Nat.le_of_ble_eq_true rfl) dX5_readBrackets_57 ⟨Nat.le_of_ble_eq_true rfl, Nat.le_of_ble_eq_true rfl⟩ (fun r10275 u H locs hr10275 hP hD hS => ?_)
            refine lv_istore (lv' := [(7, .int r10275), (0, .ref (a 23)), (1, .int x0), (2, .int x1), (3, .int y31_l3), (4, .int y31_l4), (5, .int y31_l5), (6, .int y31_l6), (8, .int y31_l8)]) hx hb dX5_readBrackets_60 hl (by decide) rfl (fun ls hl => ?_)
            refine lv_iload hx hb dX5_readBrackets_62 (lv_at hl 0 rfl) ?_
            refine lv_if_ge (tgt := 68) hx hb dX5_readBrackets_64 (by decide) (fun c10276 => ?_) (fun c10276 => ?_)
            · have g10277 : Rg 0 2147483647 r10275 := rg_ler (by decide : Rg 0 0 (0 : Int32)) hr10275.1 c10276 (by decide)
              refine lv_aload_n hx hb dX5_readBrackets_68 rfl (lv_at hl 1 rfl) ?_
              refine lv_iload_n hx hb dX5_readBrackets_69 rfl (lv_at hl 4 rfl) ?_
              refine lv_if_eq (tgt := 78) hx hb dX5_readBrackets_70 (by decide) (fun c10278 => ?_) (fun c10278 => ?_)
              · have g10279 : Rg 0 0 y31_l3 := wk_eql g31_l3 (by decide : Rg 0 0 (0 : Int32)) c10278 (by decide)
                refine lv_iload hx hb dX5_readBrackets_78 (lv_at hl 7 rfl) ?_
                exact ct80 r10275 y31_l6 u _ _ ls (show Rg 0 1 y31_l3 from rg_w g10279 (by decide) (by decide)) g10277 g10267 hP hD hS (lv_sub (l' := [(0, .ref (a 23)), (1, .int x0), (2, .int x1), (3, .int y31_l3), (4, .int y31_l4), (6, .int y31_l6), (7, .int r10275), (8, .int y31_l8)]) hl [1, 2, 3, 4, 5, 7, 0, 8] rfl)
              · have g10280 : Rg 1 1 y31_l3 := rg_ne_lo (k := 0) g31_l3 (by decide) c10278 (by decide)
                refine lv_iload hx hb dX5_readBrackets_73 (lv_at hl 6 rfl) ?_
                refine lv_goto (tgt := 80) hx hb dX5_readBrackets_75 (by decide) ?_
                exact ct80 r10275 y31_l5 u _ _ ls (show Rg 0 1 y31_l3 from rg_w g10280 (by decide) (by decide)) g10277 g10267 hP hD hS (lv_sub (l' := [(0, .ref (a 23)), (1, .int x0), (2, .int x1), (3, .int y31_l3), (4, .int y31_l4), (6, .int y31_l6), (7, .int r10275), (8, .int y31_l8)]) hl [1, 2, 3, 4, 5, 7, 0, 8] rfl)
            · have g10281 : Rg (-2147483648) (-1) r10275 := rg_ltl hr10275.1 (by decide : Rg 0 0 (0 : Int32)) (rg_nle c10276) (by decide)
              subst hAe
              exact W.vret hx hb hr (fun t ht hW => ⟨⟨u, rfl, trivial, by rw [ht]; exact hP, hD⟩, hS.F ht⟩) hS.2.2 dX5_readBrackets_67
  refine lv_iload_n hx hb dX5_readBrackets_0 rfl (lv_at hl 2 rfl) ?_
  refine lv_bipush (v := 41) hx hb dX5_readBrackets_1 (by decide) ?_
  refine lv_icmp_ne (tgt := 10) hx hb dX5_readBrackets_3 (by decide) (fun c10282 => ?_) (fun c10282 => ?_)
  · refine lv_iconst (v := 0) hx hb dX5_readBrackets_10 (by decide) ?_
    refine lv_istore_n (lv' := [(3, .int 0), (0, .ref (a 23)), (1, .int x0), (2, .int x1)]) hx hb dX5_readBrackets_11 rfl hl (by decide) rfl (fun ls hl => ?_)
    refine lv_iconst (v := 0) hx hb dX5_readBrackets_12 (by decide) ?_
    refine lv_istore (lv' := [(4, .int 0), (3, .int 0), (0, .ref (a 23)), (1, .int x0), (2, .int x1)]) hx hb dX5_readBrackets_13 hl (by decide) rfl (fun ls hl => ?_)
    refine lv_iconst (v := 0) hx hb dX5_readBrackets_15 (by decide) ?_
    refine lv_istore (lv' := [(5, .int 0), (4, .int 0), (3, .int 0), (0, .ref (a 23)), (1, .int x0), (2, .int x1)]) hx hb dX5_readBrackets_16 hl (by decide) rfl (fun ls hl => ?_)
    refine lv_iconst (v := 0) hx hb dX5_readBrackets_18 (by decide) ?_
    refine lv_istore (lv' := [(6, .int 0), (5, .int 0), (4, .int 0), (3, .int 0), (0, .ref (a 23)), (1, .int x0), (2, .int x1)]) hx hb dX5_readBrackets_19 hl (by decide) rfl (fun ls hl => ?_)
    refine lv_iconst (v := (-1)) hx hb dX5_readBrackets_21 (by decide) ?_
    refine lv_istore (lv' := [(7, .int (-1)), (6, .int 0), (5, .int 0), (4, .int 0), (3, .int 0), (0, .ref (a 23)), (1, .int x0), (2, .int x1)]) hx hb dX5_readBrackets_22 hl (by decide) rfl (fun ls hl => ?_)
    refine lv_aload_n hx hb dX5_readBrackets_24 rfl (lv_at hl 5 rfl) ?_
    refine wk_qv (wX cI cS a na nc N L) u (As := []) (rest := []) ⟨hx, hb, hml, hown, hts⟩ (k_X5_step l D cI cS _ a na nc N L u hL hN) hKK hP hD hS hA 23 (ci := 5) rfl rfl (cwV 0 hts gX5_readBrackets_X5_step rfl rfl rfl (by decide +kernel) ⟨Nat.le_of_ble_eq_true rfl, Nat.le_of_ble_eq_true rfl⟩) rfl hl.1 rfl (Nat.le_of_ble_eq_true rfl) dX5_readBrackets_25 ⟨Nat.le_of_ble_eq_true rfl, Nat.le_of_ble_eq_true rfl⟩ (fun u H locs hr10283 hP hD hS => ?_)
    refine lv_iconst (v := 0) hx hb dX5_readBrackets_28 (by decide) ?_
    refine lv_istore (lv' := [(8, .int 0), (7, .int (-1)), (6, .int 0), (5, .int 0), (4, .int 0), (3, .int 0), (0, .ref (a 23)), (1, .int x0), (2, .int x1)]) hx hb dX5_readBrackets_29 hl (by decide) rfl (fun ls hl => ?_)
    exact lp31 121 (0 : Int32) (0 : Int32) (0 : Int32) (0 : Int32) (((-1) : Int32)) (0 : Int32) u _ _ ls (by decide : Rg 0 1 (0 : Int32)) (by decide : Rg (-1) 2147483647 ((-1) : Int32)) (by decide : Rg 0 120 (0 : Int32)) hP hD hS (lv_sub (l' := [(0, .ref (a 23)), (1, .int x0), (2, .int x1), (3, .int 0), (4, .int 0), (5, .int 0), (6, .int 0), (7, .int (-1)), (8, .int 0)]) hl [6, 7, 8, 5, 4, 3, 2, 1, 0] rfl) (me_i (by decide : Rg 0 120 (0 : Int32)) (by decide))
  · have g10284 : Rg 41 41 x1 := wk_eql (rg_any x1) (by decide : Rg 41 41 (41 : Int32)) c10282 (by decide)
    refine lv_iconst (v := 1) hx hb dX5_readBrackets_6 (by decide) ?_
    refine lv_goto (tgt := 11) hx hb dX5_readBrackets_7 (by decide) ?_
    refine lv_istore_n (lv' := [(3, .int 1), (0, .ref (a 23)), (1, .int x0), (2, .int x1)]) hx hb dX5_readBrackets_11 rfl hl (by decide) rfl (fun ls hl => ?_)
    refine lv_iconst (v := 0) hx hb dX5_readBrackets_12 (by decide) ?_
    refine lv_istore (lv' := [(4, .int 0), (3, .int 1), (0, .ref (a 23)), (1, .int x0), (2, .int x1)]) hx hb dX5_readBrackets_13 hl (by decide) rfl (fun ls hl => ?_)
    refine lv_iconst (v := 0) hx hb dX5_readBrackets_15 (by decide) ?_
    refine lv_istore (lv' := [(5, .int 0), (4, .int 0), (3, .int 1), (0, .ref (a 23)), (1, .int x0), (2, .int x1)]) hx hb dX5_readBrackets_16 hl (by decide) rfl (fun ls hl => ?_)
    refine lv_iconst (v := 0) hx hb dX5_readBrackets_18 (by decide) ?_
    refine lv_istore (lv' := [(6, .int 0), (5, .int 0), (4, .int 0), (3, .int 1), (0, .ref (a 23)), (1, .int x0), (2, .int x1)]) hx hb dX5_readBrackets_19 hl (by decide) rfl (fun ls hl => ?_)
    refine lv_iconst (v := (-1)) hx hb dX5_readBrackets_21 (by decide) ?_
    refine lv_istore (lv' := [(7, .int (-1)), (6, .int 0), (5, .int 0), (4, .int 0), (3, .int 1), (0, .ref (a 23)), (1, .int x0), (2, .int x1)]) hx hb dX5_readBrackets_22 hl (by decide) rfl (fun ls hl => ?_)
    refine lv_aload_n hx hb dX5_readBrackets_24 rfl (lv_at hl 5 rfl) ?_
    refine wk_qv (wX cI cS a na nc N L) u (As := []) (rest := []) ⟨hx, hb, hml, hown, hts⟩ (k_X5_step l D cI cS _ a na nc N L u hL hN) hKK hP hD hS hA 23 (ci := 5) rfl rfl (cwV 0 hts gX5_readBrackets_X5_step rfl rfl rfl (by decide +kernel) ⟨Nat.le_of_ble_eq_true rfl, Nat.le_of_ble_eq_true rfl⟩) rfl hl.1 rfl (Nat.le_of_ble_eq_true rfl) dX5_readBrackets_25 ⟨Nat.le_of_ble_eq_true rfl, Nat.le_of_ble_eq_true rfl⟩ (fun u H locs hr10285 hP hD hS => ?_)
    refine lv_iconst (v := 0) hx hb dX5_readBrackets_28 (by decide) ?_
    refine lv_istore (lv' := [(8, .int 0), (7, .int (-1)), (6, .int 0), (5, .int 0), (4, .int 0), (3, .int 1), (0, .ref (a 23)), (1, .int x0), (2, .int x1)]) hx hb dX5_readBrackets_29 hl (by decide) rfl (fun ls hl => ?_)
    exact lp31 121 (1 : Int32) (0 : Int32) (0 : Int32) (0 : Int32) (((-1) : Int32)) (0 : Int32) u _ _ ls (by decide : Rg 0 1 (1 : Int32)) (by decide : Rg (-1) 2147483647 ((-1) : Int32)) (by decide : Rg 0 120 (0 : Int32)) hP hD hS (lv_sub (l' := [(0, .ref (a 23)), (1, .int x0), (2, .int x1), (3, .int 1), (4, .int 0), (5, .int 0), (6, .int 0), (7, .int (-1)), (8, .int 0)]) hl [6, 7, 8, 5, 4, 3, 2, 1, 0] rfl) (me_i (by decide : Rg 0 120 (0 : Int32)) (by decide))
set_option maxRecDepth 20000 in
theorem ggX5_readItem_X5_readBrackets : GoodIn wsX5_readItem wsX5_readBrackets := goodIn_r _ [49, 23, 1, 25, 26, 27, 5, 28, 29, 30, 24, 12, 31, 32, 33, 34, 35, 36, 37, 38, 39, 40, 7, 8, 9, 10, 11, 13, 14, 15, 16, 17, 18, 19, 20, 21, 22, 41, 42, 43, 44, 45, 50, 51, 52, 53, 54, 55, 56, 57, 58, 59, 60, 61, 62, 63, 64, 68, 69, 65, 66, 67] (by decide +kernel) (by decide +kernel)
set_option maxRecDepth 20000 in
theorem gX5_readItem_X5_readBrackets : GoodIn wsX5_readItem (wsV RX5 60 RX5 yX5_readBrackets wsX5_readBrackets) := goodIn_app (goodIn_of _ (by decide +kernel)) ggX5_readItem_X5_readBrackets
set_option maxRecDepth 20000 in
theorem ggX5_readItem_X5_readRow : GoodIn wsX5_readItem wsX5_readRow := goodIn_r _ [6, 1, 7, 8, 9, 5, 10, 11, 12, 13, 14, 15, 16, 17, 18, 19, 20, 21, 22, 23, 24, 25, 26, 27, 28, 29, 30, 31, 32, 33, 34, 35, 36, 37, 38, 39, 40, 41, 42, 43, 44, 45, 57, 58, 59, 60, 61, 62, 63, 64, 65, 66, 67, 68, 69] (by decide +kernel) (by decide +kernel)
set_option maxRecDepth 20000 in
theorem gX5_readItem_X5_readRow : GoodIn wsX5_readItem (wsV RX5 57 RX5 yX5_readRow wsX5_readRow) := goodIn_app (goodIn_of _ (by decide +kernel)) ggX5_readItem_X5_readRow
theorem dX5_readItem_10 : decode cX5_readItem 10 = .ok (.invokevirtual 57, 3) := by decide +kernel
theorem dX5_readItem_13 : decode cX5_readItem 13 = .ok (.goto 45, 3) := by decide +kernel
theorem dX5_readItem_25 : decode cX5_readItem 25 = .ok (.aload_n 0, 1) := by decide +kernel
theorem dX5_readItem_26 : decode cX5_readItem 26 = .ok (.iconst 3, 1) := by decide +kernel
theorem dX5_readItem_27 : decode cX5_readItem 27 = .ok (.bipush 41, 2) := by decide +kernel
theorem dX5_readItem_29 : decode cX5_readItem 29 = .ok (.invokevirtual 60, 3) := by decide +kernel
theorem dX5_readItem_32 : decode cX5_readItem 32 = .ok (.goto 26, 3) := by decide +kernel
theorem dX5_readItem_44 : decode cX5_readItem 44 = .ok (.aload_n 0, 1) := by decide +kernel
theorem dX5_readItem_45 : decode cX5_readItem 45 = .ok (.iconst 2, 1) := by decide +kernel
theorem dX5_readItem_46 : decode cX5_readItem 46 = .ok (.bipush 93, 2) := by decide +kernel
theorem dX5_readItem_48 : decode cX5_readItem 48 = .ok (.invokevirtual 60, 3) := by decide +kernel
theorem dX5_readItem_51 : decode cX5_readItem 51 = .ok (.goto 7, 3) := by decide +kernel
theorem dX5_readItem_9 : decode cX5_readItem 9 = .ok (.aload_n 0, 1) := by decide +kernel
set_option maxHeartbeats 4000000 in
set_option maxRecDepth 100000 in
theorem k_X5_readItem (l : Launch) (D : va_G) (cI cS : ClassId) (sz : Nat) (a : Nat → Nat) (na nc N : Nat) (L u0 : SU) (hL : TyX L) (hN : N = 0 ∨ N = 24576) : Met l yX5_readItem wsX5_readItem ({ frames := 4, cells := 0, slots := 0, locals := 160 }) (PQ D cI cS (wX cI cS a na nc N L u0) sz [.ref (a 23)]) (QE (S := SU) D (wX cI cS a na nc N L u0) (wX cI cS a na nc N L) sz (fun _ => True)) 0 0 (va_A (wX cI cS a na nc N L u0) sz) := by
  refine Met.ofW (cc := cX5_readItem) (maxL := 1) (ret := none) (by decide) rfl ?_
  intro p e s m args below meth c s₁ B hml hv
  obtain ⟨rfl, hsz, hP, hKK, hD0⟩ := hv
  have hx := B.exec
  have hb := B.bytes
  have hr := B.returns
  have hts := atoms_spec (ws := wsX5_readItem) B.pre
  have hown : s.vm.findClass RX5 = some m.cls := findClass_of_methodNamed B.named
  have hlocks := B.notSynchronized
  have hK := hKK.1
  have hin5 : ∀ w ∈ wsX50, w ∈ wsX5_readItem := by decide +kernel
  subst hsz
  have hD := hD0.self (sz := s.heap.size)
  obtain ⟨A, hAe⟩ : ∃ A, A = va_A (wX cI cS a na nc N L u0) s.heap.size := ⟨_, rfl⟩
  rw [← hAe] at hD
  have hA : ∀ q : Nat, s.heap.size ≤ q → A q := fun q h => by rw [hAe]; exact Or.inr h
  have hS : va_S A s.heap s.heap [] := va_S.rf
  have hl := lv_entry ([.ref (a 23)]) (n := 1) (Nat.le_of_ble_eq_true rfl)
  rw [lg_entry_eq]
  generalize (lg_sl ([.ref (a 23)]) ++ List.replicate (1 - (lg_sl ([.ref (a 23)])).length) Slot.unset).toArray = ls at hl ⊢
  have hl : lv_has ls 1 [(0, .ref (a 23))] := hl
  obtain ⟨u, hu9⟩ : ∃ u : SU, u = u0 := ⟨_, rfl⟩
  rw [← hu9] at hP hD
  refine lv_aload_n hx hb dX5_readItem_0 rfl (lv_at hl 0 rfl) ?_
  refine va_get (D := D) (ci := 5) (v := .int (u 23 5)) (C := RX5) (T := TX5) (N := 8) hx hb hts hin5 hown hK hP 23 rfl rfl 5 (by decide) (hts (.fieldLink RX5 36 "MissedPoints$Reader" "token" "I") (by decide +kernel)) (fun _ h9 => h9) rfl dX5_readItem_1 ?_
  refine wk_any (fun r10299 => ?_)
  refine lv_bipush (v := (-2)) hx hb dX5_readItem_4 (by decide) ?_
  refine lv_icmp_ne (tgt := 16) hx hb dX5_readItem_6 (by decide) (fun c10300 => ?_) (fun c10300 => ?_)
  · refine lv_aload_n hx hb dX5_readItem_16 rfl (lv_at hl 0 rfl) ?_
    refine va_get (D := D) (ci := 5) (v := .int (u 23 5)) (C := RX5) (T := TX5) (N := 8) hx hb hts hin5 hown hK hP 23 rfl rfl 5 (by decide) (hts (.fieldLink RX5 36 "MissedPoints$Reader" "token" "I") (by decide +kernel)) (fun _ h9 => h9) rfl dX5_readItem_17 ?_
    refine wk_any (fun r10301 => ?_)
    refine lv_bipush (v := 40) hx hb dX5_readItem_20 (by decide) ?_
    refine lv_icmp_ne (tgt := 35) hx hb dX5_readItem_22 (by decide) (fun c10302 => ?_) (fun c10302 => ?_)
    · refine lv_aload_n hx hb dX5_readItem_35 rfl (lv_at hl 0 rfl) ?_
      refine va_get (D := D) (ci := 5) (v := .int (u 23 5)) (C := RX5) (T := TX5) (N := 8) hx hb hts hin5 hown hK hP 23 rfl rfl 5 (by decide) (hts (.fieldLink RX5 36 "MissedPoints$Reader" "token" "I") (by decide +kernel)) (fun _ h9 => h9) rfl dX5_readItem_36 ?_
      refine wk_any (fun r10303 => ?_)
      refine lv_bipush (v := 91) hx hb dX5_readItem_39 (by decide) ?_
      refine lv_icmp_ne (tgt := 54) hx hb dX5_readItem_41 (by decide) (fun c10304 => ?_) (fun c10304 => ?_)
      · refine lv_aload_n hx hb dX5_readItem_54 rfl (lv_at hl 0 rfl) ?_
        refine wk_qv (wX cI cS a na nc N L) u (As := []) (rest := []) ⟨hx, hb, hml, hown, hts⟩ (k_X5_fail l D cI cS _ a na nc N L u hL hN) hKK hP hD hS hA 23 (ci := 5) rfl rfl (cwV 0 hts gX5_readItem_X5_fail rfl rfl rfl (by decide +kernel) ⟨Nat.le_of_ble_eq_true rfl, Nat.le_of_ble_eq_true rfl⟩) rfl hl.1 rfl (Nat.le_of_ble_eq_true rfl) dX5_readItem_55 ⟨Nat.le_of_ble_eq_true rfl, Nat.le_of_ble_eq_true rfl⟩ (fun u H locs hr10305 hP hD hS => ?_)
        subst hAe
        exact W.vret hx hb hr (fun t ht hW => ⟨⟨u, rfl, trivial, by rw [ht]; exact hP, hD⟩, hS.F ht⟩) hS.2.2 dX5_readItem_58
      · have g10306 : Rg 91 91 r10303 := wk_eql (rg_any r10303) (by decide : Rg 91 91 (91 : Int32)) c10304 (by decide)
        refine lv_aload_n hx hb dX5_readItem_44 rfl (lv_at hl 0 rfl) ?_
        refine lv_iconst (v := 2) hx hb dX5_readItem_45 (by decide) ?_
        refine lv_bipush (v := 93) hx hb dX5_readItem_46 (by decide) ?_
        refine wk_qv (wX cI cS a na nc N L) u (As := [.int 2, .int 93]) (rest := []) ⟨hx, hb, hml, hown, hts⟩ (k_X5_readBrackets l D cI cS _ a na nc N L u hL hN (2 : Int32) (93 : Int32)) hKK hP hD hS hA 23 (ci := 5) rfl rfl (cwV 2 hts gX5_readItem_X5_readBrackets rfl rfl rfl (by decide +kernel) ⟨Nat.le_of_ble_eq_true rfl, Nat.le_of_ble_eq_true rfl⟩) rfl hl.1 rfl (Nat.le_of_ble_eq_true rfl) dX5_readItem_48 ⟨Nat.le_of_ble_eq_true rfl, Nat.le_of_ble_eq_true rfl⟩ (fun u H locs hr10307 hP hD hS => ?_)
        refine lv_goto (tgt := 58) hx hb dX5_readItem_51 (by decide) ?_
        subst hAe
        exact W.vret hx hb hr (fun t ht hW => ⟨⟨u, rfl, trivial, by rw [ht]; exact hP, hD⟩, hS.F ht⟩) hS.2.2 dX5_readItem_58
    · have g10308 : Rg 40 40 r10301 := wk_eql (rg_any r10301) (by decide : Rg 40 40 (40 : Int32)) c10302 (by decide)
      refine lv_aload_n hx hb dX5_readItem_25 rfl (lv_at hl 0 rfl) ?_
      refine lv_iconst (v := 3) hx hb dX5_readItem_26 (by decide) ?_
      refine lv_bipush (v := 41) hx hb dX5_readItem_27 (by decide) ?_
      refine wk_qv (wX cI cS a na nc N L) u (As := [.int 3, .int 41]) (rest := []) ⟨hx, hb, hml, hown, hts⟩ (k_X5_readBrackets l D cI cS _ a na nc N L u hL hN (3 : Int32) (41 : Int32)) hKK hP hD hS hA 23 (ci := 5) rfl rfl (cwV 2 hts gX5_readItem_X5_readBrackets rfl rfl rfl (by decide +kernel) ⟨Nat.le_of_ble_eq_true rfl, Nat.le_of_ble_eq_true rfl⟩) rfl hl.1 rfl (Nat.le_of_ble_eq_true rfl) dX5_readItem_29 ⟨Nat.le_of_ble_eq_true rfl, Nat.le_of_ble_eq_true rfl⟩ (fun u H locs hr10309 hP hD hS => ?_)
      refine lv_goto (tgt := 58) hx hb dX5_readItem_32 (by decide) ?_
      subst hAe
      exact W.vret hx hb hr (fun t ht hW => ⟨⟨u, rfl, trivial, by rw [ht]; exact hP, hD⟩, hS.F ht⟩) hS.2.2 dX5_readItem_58
  · have g10310 : Rg (-2) (-2) r10299 := wk_eql (rg_any r10299) (by decide : Rg (-2) (-2) ((-2) : Int32)) c10300 (by decide)
    refine lv_aload_n hx hb dX5_readItem_9 rfl (lv_at hl 0 rfl) ?_
    refine wk_qv (wX cI cS a na nc N L) u (As := []) (rest := []) ⟨hx, hb, hml, hown, hts⟩ (k_X5_readRow l D cI cS _ a na nc N L u hL hN) hKK hP hD hS hA 23 (ci := 5) rfl rfl (cwV 0 hts gX5_readItem_X5_readRow rfl rfl rfl (by decide +kernel) ⟨Nat.le_of_ble_eq_true rfl, Nat.le_of_ble_eq_true rfl⟩) rfl hl.1 rfl (Nat.le_of_ble_eq_true rfl) dX5_readItem_10 ⟨Nat.le_of_ble_eq_true rfl, Nat.le_of_ble_eq_true rfl⟩ (fun u H locs hr10311 hP hD hS => ?_)
    refine lv_goto (tgt := 58) hx hb dX5_readItem_13 (by decide) ?_
    subst hAe
    exact W.vret hx hb hr (fun t ht hW => ⟨⟨u, rfl, trivial, by rw [ht]; exact hP, hD⟩, hS.F ht⟩) hS.2.2 dX5_readItem_58
set_option maxRecDepth 20000 in
theorem ggX5_readAll_X5_fail : GoodIn wsX5_readAll wsX5_fail := goodIn_r _ [45, 3, 11, 61, 62, 63, 64, 65, 66, 67, 68] (by decide +kernel) (by decide +kernel)
set_option maxRecDepth 20000 in
theorem gX5_readAll_X5_fail : GoodIn wsX5_readAll (wsV RX5 39 RX5 yX5_fail wsX5_fail) := goodIn_app (goodIn_of _ (by decide +kernel)) ggX5_readAll_X5_fail
theorem dX5_readAll_54 : decode cX5_readAll 54 = .ok (.aload_n 0, 1) := by decide +kernel
theorem dX5_readAll_55 : decode cX5_readAll 55 = .ok (.getfield 36, 3) := by decide +kernel
theorem dX5_readAll_58 : decode cX5_readAll 58 = .ok (.bipush 44, 2) := by decide +kernel
theorem dX5_readAll_60 : decode cX5_readAll 60 = .ok (.if_icmp .ne 17, 3) := by decide +kernel
theorem dX5_readAll_63 : decode cX5_readAll 63 = .ok (.aload_n 0, 1) := by decide +kernel
theorem dX5_readAll_64 : decode cX5_readAll 64 = .ok (.invokevirtual 30, 3) := by decide +kernel
theorem dX5_readAll_67 : decode cX5_readAll 67 = .ok (.aload_n 0, 1) := by decide +kernel
theorem dX5_readAll_68 : decode cX5_readAll 68 = .ok (.invokevirtual 33, 3) := by decide +kernel
theorem dX5_readAll_71 : decode cX5_readAll 71 = .ok (.iinc 1 1, 3) := by decide +kernel
theorem dX5_readAll_74 : decode cX5_readAll 74 = .ok (.goto (-33), 3) := by decide +kernel
theorem dX5_readAll_85 : decode cX5_readAll 85 = .ok (.aload_n 0, 1) := by decide +kernel
theorem dX5_readAll_86 : decode cX5_readAll 86 = .ok (.invokevirtual 39, 3) := by decide +kernel
set_option maxHeartbeats 4000000 in
set_option maxRecDepth 100000 in
theorem k_X5_readAll (l : Launch) (D : va_G) (cI cS : ClassId) (sz : Nat) (a : Nat → Nat) (na nc N : Nat) (L u0 : SU) (hL : TyX L) (hN : N = 0 ∨ N = 24576) : Met l yX5_readAll wsX5_readAll ({ frames := 5, cells := 0, slots := 0, locals := 200 }) (PQ D cI cS (wX cI cS a na nc N L u0) sz [.ref (a 23)]) (QF (S := SU) D (wX cI cS a na nc N L u0) (wX cI cS a na nc N L) sz (fun r _ => Rg (-2147483648) 2147483647 r ∧ True)) 0 0 (va_A (wX cI cS a na nc N L u0) sz) := by
  refine Met.ofW (cc := cX5_readAll) (maxL := 2) (ret := (some .int)) (by decide) rfl ?_
  intro p e s m args below meth c s₁ B hml hv
  obtain ⟨rfl, hsz, hP, hKK, hD0⟩ := hv
  have hx := B.exec
  have hb := B.bytes
  have hr := B.returns
  have hts := atoms_spec (ws := wsX5_readAll) B.pre
  have hown : s.vm.findClass RX5 = some m.cls := findClass_of_methodNamed B.named
  have hlocks := B.notSynchronized
  have hK := hKK.1
  have hin5 : ∀ w ∈ wsX50, w ∈ wsX5_readAll := by decide +kernel
  subst hsz
  have hD := hD0.self (sz := s.heap.size)
  obtain ⟨A, hAe⟩ : ∃ A, A = va_A (wX cI cS a na nc N L u0) s.heap.size := ⟨_, rfl⟩
  rw [← hAe] at hD
  have hA : ∀ q : Nat, s.heap.size ≤ q → A q := fun q h => by rw [hAe]; exact Or.inr h
  have hS : va_S A s.heap s.heap [] := va_S.rf
  have hl := lv_entry ([.ref (a 23)]) (n := 2) (Nat.le_of_ble_eq_true rfl)
  rw [lg_entry_eq]
  generalize (lg_sl ([.ref (a 23)]) ++ List.replicate (2 - (lg_sl ([.ref (a 23)])).length) Slot.unset).toArray = ls at hl ⊢
  have hl : lv_has ls 2 [(0, .ref (a 23))] := hl
  obtain ⟨u, hu9⟩ : ∃ u : SU, u = u0 := ⟨_, rfl⟩
  rw [← hu9] at hP hD
  have lp41 : ∀ (n41 : Nat) (y41_l1 : Int32) (u : SU) (H : Heap) (locs : List Loc) (ls : Array Slot), Rg 0 120 y41_l1 → va_P D cls (wX cI cS a na nc N L u) H → va_D A (wX cI cS a na nc N L u) → va_S A s.heap H locs → lv_has ls 2 [(0, .ref (a 23)), (1, .int y41_l1)] → 120 - y41_l1.toInt < (n41 : Int) → W p l e (headSpec wsX5_readAll ({ frames := 5, cells := 0, slots := 0, locals := 200 })).room s m ([.ref (a 23)]).toArray below meth c H locs 0 0 (MQ below (QF (S := SU) D (wX cI cS a na nc N L u0) (wX cI cS a na nc N L) s.heap.size (fun r _ => Rg (-2147483648) 2147483647 r ∧ True)) ([.ref (a 23)]).toArray s 0 0 (va_A (wX cI cS a na nc N L u0) s.heap.size)) (F0 m 41 ls []) := by
    intro n41
    induction n41 with
    | zero =>
      intro y41_l1 u H locs ls g41_l1 hP hD hS hl hm41
      exact absurd rfl (me_z g41_l1 hm41)
    | succ n41 ih41 =>
      intro y41_l1 u H locs ls g41_l1 hP hD hS hl hm41
      refine lv_iload_n hx hb dX5_readAll_41 rfl (lv_at hl 1 rfl) ?_
      refine lv_bipush (v := 120) hx hb dX5_readAll_42 (by decide) ?_
      refine lv_icmp_ge (tgt := 77) hx hb dX5_readAll_44 (by decide) (fun c10864 => ?_) (fun c10864 => ?_)
      · have g10865 : Rg 120 120 y41_l1 := rg_ler (by decide : Rg 120 120 (120 : Int32)) g41_l1 c10864 (by decide)
        refine lv_aload_n hx hb dX5_readAll_77 rfl (lv_at hl 0 rfl) ?_
        refine va_get (D := D) (ci := 5) (v := .int (u 23 5)) (C := RX5) (T := TX5) (N := 8) hx hb hts hin5 hown hK hP 23 rfl rfl 5 (by decide) (hts (.fieldLink RX5 36 "MissedPoints$Reader" "token" "I") (by decide +kernel)) (fun _ h9 => h9) rfl dX5_readAll_78 ?_
        refine wk_any (fun r10866 => ?_)
        refine lv_iconst (v := (-1)) hx hb dX5_readAll_81 (by decide) ?_
        refine lv_icmp_eq (tgt := 89) hx hb dX5_readAll_82 (by decide) (fun c10867 => ?_) (fun c10867 => ?_)
        · have g10868 : Rg (-1) (-1) r10866 := wk_eql (rg_any r10866) (by decide : Rg (-1) (-1) ((-1) : Int32)) c10867 (by decide)
          refine lv_aload_n hx hb dX5_readAll_89 rfl (lv_at hl 0 rfl) ?_
          refine va_get (D := D) (ci := 5) (v := .int (u 23 7)) (C := RX5) (T := TX5) (N := 8) hx hb hts hin5 hown hK hP 23 rfl rfl 7 (by decide) (hts (.fieldLink RX5 27 "MissedPoints$Reader" "fault" "I") (by decide +kernel)) (fun _ h9 => h9) rfl dX5_readAll_90 ?_
          refine wk_any (fun r10869 => ?_)
          subst hAe
          exact W.iret (v := r10869) hx hb hr (fun t ht hW => ⟨⟨_, u, rfl, ⟨(rg_any r10869), trivial⟩, by rw [ht]; exact hP, hD⟩, hS.F ht⟩) hS.2.2 dX5_readAll_93
        · refine lv_aload_n hx hb dX5_readAll_85 rfl (lv_at hl 0 rfl) ?_
          refine wk_qv (wX cI cS a na nc N L) u (As := []) (rest := []) ⟨hx, hb, hml, hown, hts⟩ (k_X5_fail l D cI cS _ a na nc N L u hL hN) hKK hP hD hS hA 23 (ci := 5) rfl rfl (cwV 0 hts gX5_readAll_X5_fail rfl rfl rfl (by decide +kernel) ⟨Nat.le_of_ble_eq_true rfl, Nat.le_of_ble_eq_true rfl⟩) rfl hl.1 rfl (Nat.le_of_ble_eq_true rfl) dX5_readAll_86 ⟨Nat.le_of_ble_eq_true rfl, Nat.le_of_ble_eq_true rfl⟩ (fun u H locs hr10870 hP hD hS => ?_)
          refine lv_aload_n hx hb dX5_readAll_89 rfl (lv_at hl 0 rfl) ?_
          refine va_get (D := D) (ci := 5) (v := .int (u 23 7)) (C := RX5) (T := TX5) (N := 8) hx hb hts hin5 hown hK hP 23 rfl rfl 7 (by decide) (hts (.fieldLink RX5 27 "MissedPoints$Reader" "fault" "I") (by decide +kernel)) (fun _ h9 => h9) rfl dX5_readAll_90 ?_
          refine wk_any (fun r10871 => ?_)
          subst hAe
          exact W.iret (v := r10871) hx hb hr (fun t ht hW => ⟨⟨_, u, rfl, ⟨(rg_any r10871), trivial⟩, by rw [ht]; exact hP, hD⟩, hS.F ht⟩) hS.2.2 dX5_readAll_93
      · have g10872 : Rg 0 119 y41_l1 := rg_ltl g41_l1 (by decide : Rg 120 120 (120 : Int32)) (rg_nle c10864) (by decide)
        refine lv_aload_n hx hb dX5_readAll_47 rfl (lv_at hl 0 rfl) ?_
        refine va_get (D := D) (ci := 5) (v := .int (u 23 7)) (C := RX5) (T := TX5) (N := 8) hx hb hts hin5 hown hK hP 23 rfl rfl 7 (by decide) (hts (.fieldLink RX5 27 "MissedPoints$Reader" "fault" "I") (by decide +kernel)) (fun _ h9 => h9) rfl dX5_readAll_48 ?_
        refine wk_any (fun r10873 => ?_)
        refine lv_if_ge (tgt := 77) hx hb dX5_readAll_51 (by decide) (fun c10874 => ?_) (fun c10874 => ?_)
        · have g10875 : Rg 0 2147483647 r10873 := rg_ler (by decide : Rg 0 0 (0 : Int32)) (rg_any r10873) c10874 (by decide)
          refine lv_aload_n hx hb dX5_readAll_77 rfl (lv_at hl 0 rfl) ?_
          refine va_get (D := D) (ci := 5) (v := .int (u 23 5)) (C := RX5) (T := TX5) (N := 8) hx hb hts hin5 hown hK hP 23 rfl rfl 5 (by decide) (hts (.fieldLink RX5 36 "MissedPoints$Reader" "token" "I") (by decide +kernel)) (fun _ h9 => h9) rfl dX5_readAll_78 ?_
          refine wk_any (fun r10876 => ?_)
          refine lv_iconst (v := (-1)) hx hb dX5_readAll_81 (by decide) ?_
          refine lv_icmp_eq (tgt := 89) hx hb dX5_readAll_82 (by decide) (fun c10877 => ?_) (fun c10877 => ?_)
          · have g10878 : Rg (-1) (-1) r10876 := wk_eql (rg_any r10876) (by decide : Rg (-1) (-1) ((-1) : Int32)) c10877 (by decide)
            refine lv_aload_n hx hb dX5_readAll_89 rfl (lv_at hl 0 rfl) ?_
            refine va_get (D := D) (ci := 5) (v := .int (u 23 7)) (C := RX5) (T := TX5) (N := 8) hx hb hts hin5 hown hK hP 23 rfl rfl 7 (by decide) (hts (.fieldLink RX5 27 "MissedPoints$Reader" "fault" "I") (by decide +kernel)) (fun _ h9 => h9) rfl dX5_readAll_90 ?_
            refine wk_any (fun r10879 => ?_)
            subst hAe
            exact W.iret (v := r10879) hx hb hr (fun t ht hW => ⟨⟨_, u, rfl, ⟨(rg_any r10879), trivial⟩, by rw [ht]; exact hP, hD⟩, hS.F ht⟩) hS.2.2 dX5_readAll_93
          · refine lv_aload_n hx hb dX5_readAll_85 rfl (lv_at hl 0 rfl) ?_
            refine wk_qv (wX cI cS a na nc N L) u (As := []) (rest := []) ⟨hx, hb, hml, hown, hts⟩ (k_X5_fail l D cI cS _ a na nc N L u hL hN) hKK hP hD hS hA 23 (ci := 5) rfl rfl (cwV 0 hts gX5_readAll_X5_fail rfl rfl rfl (by decide +kernel) ⟨Nat.le_of_ble_eq_true rfl, Nat.le_of_ble_eq_true rfl⟩) rfl hl.1 rfl (Nat.le_of_ble_eq_true rfl) dX5_readAll_86 ⟨Nat.le_of_ble_eq_true rfl, Nat.le_of_ble_eq_true rfl⟩ (fun u H locs hr10880 hP hD hS => ?_)
            refine lv_aload_n hx hb dX5_readAll_89 rfl (lv_at hl 0 rfl) ?_
            refine va_get (D := D) (ci := 5) (v := .int (u 23 7)) (C := RX5) (T := TX5) (N := 8) hx hb hts hin5 hown hK hP 23 rfl rfl 7 (by decide) (hts (.fieldLink RX5 27 "MissedPoints$Reader" "fault" "I") (by decide +kernel)) (fun _ h9 => h9) rfl dX5_readAll_90 ?_
            refine wk_any (fun r10881 => ?_)
            subst hAe
            exact W.iret (v := r10881) hx hb hr (fun t ht hW => ⟨⟨_, u, rfl, ⟨(rg_any r10881), trivial⟩, by rw [ht]; exact hP, hD⟩, hS.F ht⟩) hS.2.2 dX5_readAll_93
        · have g10882 : Rg (-2147483648) (-1) r10873 := rg_ltl (rg_any r10873) (by decide : Rg 0 0 (0 : Int32)) (rg_nle c10874) (by decide)
          refine lv_aload_n hx hb dX5_readAll_54 rfl (lv_at hl 0 rfl) ?_
          refine va_get (D := D) (ci := 5) (v := .int (u 23 5)) (C := RX5) (T := TX5) (N := 8) hx hb hts hin5 hown hK hP 23 rfl rfl 5 (by decide) (hts (.fieldLink RX5 36 "MissedPoints$Reader" "token" "I") (by decide +kernel)) (fun _ h9 => h9) rfl dX5_readAll_55 ?_
          refine wk_any (fun r10883 => ?_)
          refine lv_bipush (v := 44) hx hb dX5_readAll_58 (by decide) ?_
          refine lv_icmp_ne (tgt := 77) hx hb dX5_readAll_60 (by decide) (fun c10884 => ?_) (fun c10884 => ?_)
          · refine lv_aload_n hx hb dX5_readAll_77 rfl (lv_at hl 0 rfl) ?_
            refine va_get (D := D) (ci := 5) (v := .int (u 23 5)) (C := RX5) (T := TX5) (N := 8) hx hb hts hin5 hown hK hP 23 rfl rfl 5 (by decide) (hts (.fieldLink RX5 36 "MissedPoints$Reader" "token" "I") (by decide +kernel)) (fun _ h9 => h9) rfl dX5_readAll_78 ?_
            refine wk_any (fun r10885 => ?_)
            refine lv_iconst (v := (-1)) hx hb dX5_readAll_81 (by decide) ?_
            refine lv_icmp_eq (tgt := 89) hx hb dX5_readAll_82 (by decide) (fun c10886 => ?_) (fun c10886 => ?_)
            · have g10887 : Rg (-1) (-1) r10885 := wk_eql (rg_any r10885) (by decide : Rg (-1) (-1) ((-1) : Int32)) c10886 (by decide)
              refine lv_aload_n hx hb dX5_readAll_89 rfl (lv_at hl 0 rfl) ?_
              refine va_get (D := D) (ci := 5) (v := .int (u 23 7)) (C := RX5) (T := TX5) (N := 8) hx hb hts hin5 hown hK hP 23 rfl rfl 7 (by decide) (hts (.fieldLink RX5 27 "MissedPoints$Reader" "fault" "I") (by decide +kernel)) (fun _ h9 => h9) rfl dX5_readAll_90 ?_
              refine wk_any (fun r10888 => ?_)
              subst hAe
              exact W.iret (v := r10888) hx hb hr (fun t ht hW => ⟨⟨_, u, rfl, ⟨(rg_any r10888), trivial⟩, by rw [ht]; exact hP, hD⟩, hS.F ht⟩) hS.2.2 dX5_readAll_93
            · refine lv_aload_n hx hb dX5_readAll_85 rfl (lv_at hl 0 rfl) ?_
              refine wk_qv (wX cI cS a na nc N L) u (As := []) (rest := []) ⟨hx, hb, hml, hown, hts⟩ (k_X5_fail l D cI cS _ a na nc N L u hL hN) hKK hP hD hS hA 23 (ci := 5) rfl rfl (cwV 0 hts gX5_readAll_X5_fail rfl rfl rfl (by decide +kernel) ⟨Nat.le_of_ble_eq_true rfl, Nat.le_of_ble_eq_true rfl⟩) rfl hl.1 rfl (Nat.le_of_ble_eq_true rfl) dX5_readAll_86 ⟨Nat.le_of_ble_eq_true rfl, Nat.le_of_ble_eq_true rfl⟩ (fun u H locs hr10889 hP hD hS => ?_)
              refine lv_aload_n hx hb dX5_readAll_89 rfl (lv_at hl 0 rfl) ?_
              refine va_get (D := D) (ci := 5) (v := .int (u 23 7)) (C := RX5) (T := TX5) (N := 8) hx hb hts hin5 hown hK hP 23 rfl rfl 7 (by decide) (hts (.fieldLink RX5 27 "MissedPoints$Reader" "fault" "I") (by decide +kernel)) (fun _ h9 => h9) rfl dX5_readAll_90 ?_
              refine wk_any (fun r10890 => ?_)
              subst hAe
              exact W.iret (v := r10890) hx hb hr (fun t ht hW => ⟨⟨_, u, rfl, ⟨(rg_any r10890), trivial⟩, by rw [ht]; exact hP, hD⟩, hS.F ht⟩) hS.2.2 dX5_readAll_93
          · have g10891 : Rg 44 44 r10883 := wk_eql (rg_any r10883) (by decide : Rg 44 44 (44 : Int32)) c10884 (by decide)
            refine lv_aload_n hx hb dX5_readAll_63 rfl (lv_at hl 0 rfl) ?_
            refine wk_qv (wX cI cS a na nc N L) u (As := []) (rest := []) ⟨hx, hb, hml, hown, hts⟩ (k_X5_step l D cI cS _ a na nc N L u hL hN) hKK hP hD hS hA 23 (ci := 5) rfl rfl (cwV 0 hts gX5_readAll_X5_step rfl rfl rfl (by decide +kernel) ⟨Nat.le_of_ble_eq_true rfl, Nat.le_of_ble_eq_true rfl⟩) rfl hl.1 rfl (Nat.le_of_ble_eq_true rfl) dX5_readAll_64 ⟨Nat.le_of_ble_eq_true rfl, Nat.le_of_ble_eq_true rfl⟩ (fun u H locs hr10892 hP hD hS => ?_)
            refine lv_aload_n hx hb dX5_readAll_67 rfl (lv_at hl 0 rfl) ?_
            refine wk_qv (wX cI cS a na nc N L) u (As := []) (rest := []) ⟨hx, hb, hml, hown, hts⟩ (k_X5_readItem l D cI cS _ a na nc N L u hL hN) hKK hP hD hS hA 23 (ci := 5) rfl rfl (cwV 0 hts gX5_readAll_X5_readItem rfl rfl rfl (by decide +kernel) ⟨Nat.le_of_ble_eq_true rfl, Nat.le_of_ble_eq_true rfl⟩) rfl hl.1 rfl (Nat.le_of_ble_eq_true rfl) dX5_readAll_68 ⟨Nat.le_of_ble_eq_true rfl, Nat.le_of_ble_eq_true rfl⟩ (fun u H locs hr10893 hP hD hS => ?_)
            refine wk_iinc (lv' := fun r => [(1, .int r), (0, .ref (a 23))]) (e1 := 1) (f := 120) hx hb dX5_readAll_71 hl (k := 1) rfl (by decide) g10872 (by decide) (fun _ => rfl) (fun r10894 ls hr10894 er10894 hl => ?_)
            refine lv_goto (tgt := 41) hx hb dX5_readAll_74 (by decide) ?_
            exact ih41 r10894 u _ _ ls (show Rg 0 120 r10894 from rg_w hr10894 (by decide) (by decide)) hP hD hS (lv_sub (l' := [(0, .ref (a 23)), (1, .int r10894)]) hl [1, 0] rfl) (me_up hm41 er10894 (by decide))
  have lp2 : ∀ (n2 : Nat) (y2_l1 : Int32) (u : SU) (H : Heap) (locs : List Loc) (ls : Array Slot), Rg 0 12 y2_l1 → va_P D cls (wX cI cS a na nc N L u) H → va_D A (wX cI cS a na nc N L u) → va_S A s.heap H locs → lv_has ls 2 [(0, .ref (a 23)), (1, .int y2_l1)] → 12 - y2_l1.toInt < (n2 : Int) → W p l e (headSpec wsX5_readAll ({ frames := 5, cells := 0, slots := 0, locals := 200 })).room s m ([.ref (a 23)]).toArray below meth c H locs 0 0 (MQ below (QF (S := SU) D (wX cI cS a na nc N L u0) (wX cI cS a na nc N L) s.heap.size (fun r _ => Rg (-2147483648) 2147483647 r ∧ True)) ([.ref (a 23)]).toArray s 0 0 (va_A (wX cI cS a na nc N L u0) s.heap.size)) (F0 m 2 ls []) := by
    intro n2
    induction n2 with
    | zero =>
      intro y2_l1 u H locs ls g2_l1 hP hD hS hl hm2
      exact absurd rfl (me_z g2_l1 hm2)
    | succ n2 ih2 =>
      intro y2_l1 u H locs ls g2_l1 hP hD hS hl hm2
      refine lv_iload_n hx hb dX5_readAll_2 rfl (lv_at hl 1 rfl) ?_
      refine lv_bipush (v := 12) hx hb dX5_readAll_3 (by decide) ?_
      refine lv_icmp_ge (tgt := 21) hx hb dX5_readAll_5 (by decide) (fun c10895 => ?_) (fun c10895 => ?_)
      · have g10896 : Rg 12 12 y2_l1 := rg_ler (by decide : Rg 12 12 (12 : Int32)) g2_l1 c10895 (by decide)
        refine lv_aload_n hx hb dX5_readAll_21 rfl (lv_at hl 0 rfl) ?_
        refine lv_iconst (v := 0) hx hb dX5_readAll_22 (by decide) ?_
        refine va_put (D := D) (ci := 5) (v := .int 0) (ty := .int) (C := RX5) (T := TX5) (N := 8) hx hb hts hin5 tyX5 tyX5_ok nmX5 hown hK hP hD hS 23 rfl rfl 3 (by decide) (hts (.fieldLink RX5 23 "MissedPoints$Reader" "at" "I") (by decide +kernel)) (fun _ h9 => h9) rfl (by decide +kernel) rfl rfl (Nat.le_of_ble_eq_true rfl) dX5_readAll_23 (fun H locs hP hD hS => ?_)
        rw [sxf_23_3] at hP hD
        generalize sU u 23 _ = u at hP hD
        refine lv_aload_n hx hb dX5_readAll_26 rfl (lv_at hl 0 rfl) ?_
        refine lv_iconst (v := (-1)) hx hb dX5_readAll_27 (by decide) ?_
        refine va_put (D := D) (ci := 5) (v := .int (-1)) (ty := .int) (C := RX5) (T := TX5) (N := 8) hx hb hts hin5 tyX5 tyX5_ok nmX5 hown hK hP hD hS 23 rfl rfl 7 (by decide) (hts (.fieldLink RX5 27 "MissedPoints$Reader" "fault" "I") (by decide +kernel)) (fun _ h9 => h9) rfl (by decide +kernel) rfl rfl (Nat.le_of_ble_eq_true rfl) dX5_readAll_28 (fun H locs hP hD hS => ?_)
        rw [sxf_23_7] at hP hD
        generalize sU u 23 _ = u at hP hD
        refine lv_aload_n hx hb dX5_readAll_31 rfl (lv_at hl 0 rfl) ?_
        refine wk_qv (wX cI cS a na nc N L) u (As := []) (rest := []) ⟨hx, hb, hml, hown, hts⟩ (k_X5_step l D cI cS _ a na nc N L u hL hN) hKK hP hD hS hA 23 (ci := 5) rfl rfl (cwV 0 hts gX5_readAll_X5_step rfl rfl rfl (by decide +kernel) ⟨Nat.le_of_ble_eq_true rfl, Nat.le_of_ble_eq_true rfl⟩) rfl hl.1 rfl (Nat.le_of_ble_eq_true rfl) dX5_readAll_32 ⟨Nat.le_of_ble_eq_true rfl, Nat.le_of_ble_eq_true rfl⟩ (fun u H locs hr10897 hP hD hS => ?_)
        refine lv_aload_n hx hb dX5_readAll_35 rfl (lv_at hl 0 rfl) ?_
        refine wk_qv (wX cI cS a na nc N L) u (As := []) (rest := []) ⟨hx, hb, hml, hown, hts⟩ (k_X5_readItem l D cI cS _ a na nc N L u hL hN) hKK hP hD hS hA 23 (ci := 5) rfl rfl (cwV 0 hts gX5_readAll_X5_readItem rfl rfl rfl (by decide +kernel) ⟨Nat.le_of_ble_eq_true rfl, Nat.le_of_ble_eq_true rfl⟩) rfl hl.1 rfl (Nat.le_of_ble_eq_true rfl) dX5_readAll_36 ⟨Nat.le_of_ble_eq_true rfl, Nat.le_of_ble_eq_true rfl⟩ (fun u H locs hr10898 hP hD hS => ?_)
        refine lv_iconst (v := 0) hx hb dX5_readAll_39 (by decide) ?_
        refine lv_istore_n (lv' := [(1, .int 0), (0, .ref (a 23))]) hx hb dX5_readAll_40 rfl hl (by decide) rfl (fun ls hl => ?_)
        exact lp41 121 (0 : Int32) u _ _ ls (by decide : Rg 0 120 (0 : Int32)) hP hD hS (lv_sub (l' := [(0, .ref (a 23)), (1, .int 0)]) hl [1, 0] rfl) (me_i (by decide : Rg 0 120 (0 : Int32)) (by decide))
      · have g10899 : Rg 0 11 y2_l1 := rg_ltl g2_l1 (by decide : Rg 12 12 (12 : Int32)) (rg_nle c10895) (by decide)
        refine lv_aload_n hx hb dX5_readAll_8 rfl (lv_at hl 0 rfl) ?_
        refine va_get (D := D) (ci := 5) (v := .ref (a 24)) (C := RX5) (T := TX5) (N := 8) hx hb hts hin5 hown hK hP 23 rfl rfl 2 (by decide) (hts (.fieldLink RX5 9 "MissedPoints$Reader" "links" "[I") (by decide +kernel)) (fun _ h9 => h9) rfl dX5_readAll_9 ?_
        refine lv_iload_n hx hb dX5_readAll_12 rfl (lv_at hl 1 rfl) ?_
        refine lv_iconst (v := 0) hx hb dX5_readAll_13 (by decide) ?_
        refine ks_ast hx hb hK hP hD hS rfl (k := 24) rfl sx_24 (rg_in g10899 (by decide) (by decide)) dX5_readAll_14 (fun u H locs hP hD hS => ?_)
        refine wk_iinc (lv' := fun r => [(1, .int r), (0, .ref (a 23))]) (e1 := 1) (f := 12) hx hb dX5_readAll_15 hl (k := 1) rfl (by decide) g10899 (by decide) (fun _ => rfl) (fun r10900 ls hr10900 er10900 hl => ?_)
        refine lv_goto (tgt := 2) hx hb dX5_readAll_18 (by decide) ?_
        exact ih2 r10900 u _ _ ls (show Rg 0 12 r10900 from rg_w hr10900 (by decide) (by decide)) hP hD hS (lv_sub (l' := [(0, .ref (a 23)), (1, .int r10900)]) hl [1, 0] rfl) (me_up hm2 er10900 (by decide))
  refine lv_iconst (v := 0) hx hb dX5_readAll_0 (by decide) ?_
  refine lv_istore_n (lv' := [(1, .int 0), (0, .ref (a 23))]) hx hb dX5_readAll_1 rfl hl (by decide) rfl (fun ls hl => ?_)
  exact lp2 13 (0 : Int32) u _ _ ls (by decide : Rg 0 12 (0 : Int32)) hP hD hS (lv_sub (l' := [(0, .ref (a 23)), (1, .int 0)]) hl [1, 0] rfl) (me_i (by decide : Rg 0 12 (0 : Int32)) (by decide))
set_option maxHeartbeats 4000000 in
set_option maxRecDepth 100000 in
theorem k_X9_becomeFirst (l : Launch) (D : va_G) (cI cS : ClassId) (sz : Nat) (a : Nat → Nat) (na nc N : Nat) (L u0 : SU) (hL : TyX L) (hN : N = 0 ∨ N = 24576) : Met l yX9_becomeFirst wsX9_becomeFirst ({ frames := 18, cells := 0, slots := 0, locals := 720 }) (PQ D cI cS (wX cI cS a na nc N L u0) sz [.ref (a 34)]) (QE (S := SU) D (wX cI cS a na nc N L u0) (wX cI cS a na nc N L) sz (fun _ => True)) 0 0 (va_A (wX cI cS a na nc N L u0) sz) := by
  refine Met.ofW (cc := cX9_becomeFirst) (maxL := 1) (ret := none) (by decide) rfl ?_
  intro p e s m args below meth c s₁ B hml hv
  obtain ⟨rfl, hsz, hP, hKK, hD0⟩ := hv
  have hx := B.exec
  have hb := B.bytes
  have hr := B.returns
  have hts := atoms_spec (ws := wsX9_becomeFirst) B.pre
  have hown : s.vm.findClass RX9 = some m.cls := findClass_of_methodNamed B.named
  have hlocks := B.notSynchronized
  have hK := hKK.1
  have hin9 : ∀ w ∈ wsX90, w ∈ wsX9_becomeFirst := by decide +kernel
  subst hsz
  have hD := hD0.self (sz := s.heap.size)
  obtain ⟨A, hAe⟩ : ∃ A, A = va_A (wX cI cS a na nc N L u0) s.heap.size := ⟨_, rfl⟩
  rw [← hAe] at hD
  have hA : ∀ q : Nat, s.heap.size ≤ q → A q := fun q h => by rw [hAe]; exact Or.inr h
  have hS : va_S A s.heap s.heap [] := va_S.rf
  have hl := lv_entry ([.ref (a 34)]) (n := 1) (Nat.le_of_ble_eq_true rfl)
  rw [lg_entry_eq]
  generalize (lg_sl ([.ref (a 34)]) ++ List.replicate (1 - (lg_sl ([.ref (a 34)])).length) Slot.unset).toArray = ls at hl ⊢
  have hl : lv_has ls 1 [(0, .ref (a 34))] := hl
  obtain ⟨u, hu9⟩ : ∃ u : SU, u = u0 := ⟨_, rfl⟩
  rw [← hu9] at hP hD
  refine lv_aload_n hx hb dX9_becomeFirst_0 rfl (lv_at hl 0 rfl) ?_
  refine va_get (D := D) (ci := 9) (v := .ref (a 7)) (C := RX9) (T := TX9) (N := 6) hx hb hts hin9 hown hK hP 34 rfl rfl 1 (by decide) (hts (.fieldLink RX9 25 "MissedPoints$Told" "pairs" "LMissedPoints$Pairs;") (by decide +kernel)) (fun _ h9 => h9) rfl dX9_becomeFirst_1 ?_
  refine lv_aload_n hx hb dX9_becomeFirst_4 rfl (lv_at hl 0 rfl) ?_
  refine va_get (D := D) (ci := 9) (v := .ref (a 35)) (C := RX9) (T := TX9) (N := 6) hx hb hts hin9 hown hK hP 34 rfl rfl 2 (by decide) (hts (.fieldLink RX9 9 "MissedPoints$Told" "mates" "[I") (by decide +kernel)) (fun _ h9 => h9) rfl dX9_becomeFirst_5 ?_
  refine wk_qv (wX cI cS a na nc N L) u (As := [.ref (a 35)]) (rest := []) ⟨hx, hb, hml, hown, hts⟩ (k_X3_layFirst l D cI cS _ a na nc N L u hL hN) hKK hP hD hS hA 7 (ci := 3) rfl rfl (cwV 1 hts gX9_becomeFirst_X3_layFirst rfl rfl rfl (by decide +kernel) ⟨Nat.le_of_ble_eq_true rfl, Nat.le_of_ble_eq_true rfl⟩) rfl hl.1 rfl (Nat.le_of_ble_eq_true rfl) dX9_becomeFirst_8 ⟨Nat.le_of_ble_eq_true rfl, Nat.le_of_ble_eq_true rfl⟩ (fun u H locs hr10902 hP hD hS => ?_)
  subst hAe
  exact W.vret hx hb hr (fun t ht hW => ⟨⟨u, rfl, trivial, by rw [ht]; exact hP, hD⟩, hS.F ht⟩) hS.2.2 dX9_becomeFirst_11
theorem dX9_mateOf_0 : decode cX9_mateOf 0 = .ok (.iload_n 1, 1) := by decide +kernel
theorem dX9_mateOf_1 : decode cX9_mateOf 1 = .ok (.ifCond .lt 18, 3) := by decide +kernel
theorem dX9_mateOf_10 : decode cX9_mateOf 10 = .ok (.aload_n 0, 1) := by decide +kernel
theorem dX9_mateOf_11 : decode cX9_mateOf 11 = .ok (.getfield 9, 3) := by decide +kernel
theorem dX9_mateOf_14 : decode cX9_mateOf 14 = .ok (.iload_n 1, 1) := by decide +kernel
theorem dX9_mateOf_15 : decode cX9_mateOf 15 = .ok (.iaload, 1) := by decide +kernel
theorem dX9_mateOf_16 : decode cX9_mateOf 16 = .ok (.goto 4, 3) := by decide +kernel
theorem dX9_mateOf_19 : decode cX9_mateOf 19 = .ok (.iconst (-1), 1) := by decide +kernel
theorem dX9_mateOf_20 : decode cX9_mateOf 20 = .ok (.ireturn, 1) := by decide +kernel
theorem dX9_mateOf_4 : decode cX9_mateOf 4 = .ok (.iload_n 1, 1) := by decide +kernel
theorem dX9_mateOf_5 : decode cX9_mateOf 5 = .ok (.bipush 12, 2) := by decide +kernel
theorem dX9_mateOf_7 : decode cX9_mateOf 7 = .ok (.if_icmp .ge 12, 3) := by decide +kernel
set_option maxHeartbeats 4000000 in
set_option maxRecDepth 100000 in
theorem k_X9_mateOf (l : Launch) (D : va_G) (cI cS : ClassId) (a : Nat → Nat) (na nc N : Nat) (L u : SU) (hL : TyX L) (hN : N = 0 ∨ N = 24576) (x0 : Int32) : Met l yX9_mateOf wsX9_mateOf ({ frames := 0, cells := 0, slots := 0, locals := 0 }) (PS D cI cS (wX cI cS a na nc N L u) [.ref (a 34), .int x0]) (vp_Si (fun r => Rg (-2147483648) 2147483647 r ∧ True)) 0 0 (fun _ => False) := by
  refine Met.ofW (cc := cX9_mateOf) (maxL := 2) (ret := (some .int)) (by decide) rfl ?_
  intro p e s m args below meth c s₁ B hml hv
  obtain ⟨rfl, hP, hKK⟩ := hv
  have hx := B.exec
  have hb := B.bytes
  have hr := B.returns
  have hts := atoms_spec (ws := wsX9_mateOf) B.pre
  have hown : s.vm.findClass RX9 = some m.cls := findClass_of_methodNamed B.named
  have hlocks := B.notSynchronized
  have hK := hKK.1
  have hin9 : ∀ w ∈ wsX90, w ∈ wsX9_mateOf := by decide +kernel
  have hl := lv_entry ([.ref (a 34), .int x0]) (n := 2) (Nat.le_of_ble_eq_true rfl)
  rw [lg_entry_eq]
  generalize (lg_sl ([.ref (a 34), .int x0]) ++ List.replicate (2 - (lg_sl ([.ref (a 34), .int x0])).length) Slot.unset).toArray = ls at hl ⊢
  have hl : lv_has ls 2 [(0, .ref (a 34)), (1, .int x0)] := hl
  refine lv_iload_n hx hb dX9_mateOf_0 rfl (lv_at hl 1 rfl) ?_
  refine lv_if_lt (tgt := 19) hx hb dX9_mateOf_1 (by decide) (fun c10910 => ?_) (fun c10910 => ?_)
  · have g10911 : Rg (-2147483648) (-1) x0 := rg_ltl (rg_any x0) (by decide : Rg 0 0 (0 : Int32)) c10910 (by decide)
    refine lv_iconst (v := (-1)) hx hb dX9_mateOf_19 (by decide) ?_
    exact W.iret (v := (-1)) hx hb hr (fun t ht hW => ⟨_, rfl, ⟨(by decide : Rg (-2147483648) 2147483647 ((-1) : Int32)), trivial⟩, ht⟩) (fun q hq => absurd hq List.not_mem_nil) dX9_mateOf_20
  · have g10912 : Rg 0 2147483647 x0 := rg_ler (by decide : Rg 0 0 (0 : Int32)) (rg_any x0) (rg_nlt c10910) (by decide)
    refine lv_iload_n hx hb dX9_mateOf_4 rfl (lv_at hl 1 rfl) ?_
    refine lv_bipush (v := 12) hx hb dX9_mateOf_5 (by decide) ?_
    refine lv_icmp_ge (tgt := 19) hx hb dX9_mateOf_7 (by decide) (fun c10913 => ?_) (fun c10913 => ?_)
    · have g10914 : Rg 12 2147483647 x0 := rg_ler (by decide : Rg 12 12 (12 : Int32)) g10912 c10913 (by decide)
      refine lv_iconst (v := (-1)) hx hb dX9_mateOf_19 (by decide) ?_
      exact W.iret (v := (-1)) hx hb hr (fun t ht hW => ⟨_, rfl, ⟨(by decide : Rg (-2147483648) 2147483647 ((-1) : Int32)), trivial⟩, ht⟩) (fun q hq => absurd hq List.not_mem_nil) dX9_mateOf_20
    · have g10915 : Rg 0 11 x0 := rg_ltl g10912 (by decide : Rg 12 12 (12 : Int32)) (rg_nle c10913) (by decide)
      refine lv_aload_n hx hb dX9_mateOf_10 rfl (lv_at hl 0 rfl) ?_
      refine va_get (D := D) (ci := 9) (v := .ref (a 35)) (C := RX9) (T := TX9) (N := 6) hx hb hts hin9 hown hK hP 34 rfl rfl 2 (by decide) (hts (.fieldLink RX9 9 "MissedPoints$Told" "mates" "[I") (by decide +kernel)) (fun _ h9 => h9) rfl dX9_mateOf_11 ?_
      refine lv_iload_n hx hb dX9_mateOf_14 rfl (lv_at hl 1 rfl) ?_
      refine wk_aldA hx hb hK hP 35 0 rfl rfl (rg_in g10915 (by decide) (by decide)) dX9_mateOf_15 (fun r10916 => ?_)
      refine lv_goto (tgt := 20) hx hb dX9_mateOf_16 (by decide) ?_
      exact W.iret (v := r10916) hx hb hr (fun t ht hW => ⟨_, rfl, ⟨(rg_any r10916), trivial⟩, ht⟩) (fun q hq => absurd hq List.not_mem_nil) dX9_mateOf_20
theorem dX9_missed_0 : decode cX9_missed 0 = .ok (.iconst 0, 1) := by decide +kernel
theorem dX9_missed_1 : decode cX9_missed 1 = .ok (.istore_n 1, 1) := by decide +kernel
theorem dX9_missed_12 : decode cX9_missed 12 = .ok (.if_icmp .ge 24, 3) := by decide +kernel
theorem dX9_missed_15 : decode cX9_missed 15 = .ok (.aload_n 0, 1) := by decide +kernel
theorem dX9_missed_16 : decode cX9_missed 16 = .ok (.getfield 9, 3) := by decide +kernel
theorem dX9_missed_19 : decode cX9_missed 19 = .ok (.iload_n 2, 1) := by decide +kernel
theorem dX9_missed_2 : decode cX9_missed 2 = .ok (.iconst 0, 1) := by decide +kernel
theorem dX9_missed_20 : decode cX9_missed 20 = .ok (.iaload, 1) := by decide +kernel
theorem dX9_missed_21 : decode cX9_missed 21 = .ok (.ifCond .ge 9, 3) := by decide +kernel
theorem dX9_missed_24 : decode cX9_missed 24 = .ok (.iload_n 1, 1) := by decide +kernel
theorem dX9_missed_25 : decode cX9_missed 25 = .ok (.iconst 1, 1) := by decide +kernel
theorem dX9_missed_26 : decode cX9_missed 26 = .ok (.iload_n 2, 1) := by decide +kernel
theorem dX9_missed_27 : decode cX9_missed 27 = .ok (.ishl, 1) := by decide +kernel
theorem dX9_missed_28 : decode cX9_missed 28 = .ok (.ior, 1) := by decide +kernel
theorem dX9_missed_29 : decode cX9_missed 29 = .ok (.istore_n 1, 1) := by decide +kernel
theorem dX9_missed_3 : decode cX9_missed 3 = .ok (.istore_n 2, 1) := by decide +kernel
theorem dX9_missed_30 : decode cX9_missed 30 = .ok (.iinc 2 1, 3) := by decide +kernel
theorem dX9_missed_33 : decode cX9_missed 33 = .ok (.goto (-29), 3) := by decide +kernel
theorem dX9_missed_36 : decode cX9_missed 36 = .ok (.iload_n 1, 1) := by decide +kernel
theorem dX9_missed_37 : decode cX9_missed 37 = .ok (.ireturn, 1) := by decide +kernel
theorem dX9_missed_4 : decode cX9_missed 4 = .ok (.iload_n 2, 1) := by decide +kernel
theorem dX9_missed_5 : decode cX9_missed 5 = .ok (.aload_n 0, 1) := by decide +kernel
theorem dX9_missed_6 : decode cX9_missed 6 = .ok (.getfield 21, 3) := by decide +kernel
theorem dX9_missed_9 : decode cX9_missed 9 = .ok (.getfield 41, 3) := by decide +kernel
set_option maxHeartbeats 4000000 in
set_option maxRecDepth 100000 in
theorem k_X9_missed (l : Launch) (D : va_G) (cI cS : ClassId) (a : Nat → Nat) (na nc N : Nat) (L u : SU) (hL : TyX L) (hN : N = 0 ∨ N = 24576) : Met l yX9_missed wsX9_missed ({ frames := 0, cells := 0, slots := 0, locals := 0 }) (PS D cI cS (wX cI cS a na nc N L u) [.ref (a 34)]) (vp_Si (fun r => Rg 0 4095 r ∧ True)) 0 0 (fun _ => False) := by
  refine Met.ofW (cc := cX9_missed) (maxL := 3) (ret := (some .int)) (by decide) rfl ?_
  intro p e s m args below meth c s₁ B hml hv
  obtain ⟨rfl, hP, hKK⟩ := hv
  have hx := B.exec
  have hb := B.bytes
  have hr := B.returns
  have hts := atoms_spec (ws := wsX9_missed) B.pre
  have hown : s.vm.findClass RX9 = some m.cls := findClass_of_methodNamed B.named
  have hlocks := B.notSynchronized
  have hK := hKK.1
  have hin2 : ∀ w ∈ wsX20, w ∈ wsX9_missed := by decide +kernel
  have hin9 : ∀ w ∈ wsX90, w ∈ wsX9_missed := by decide +kernel
  have hl := lv_entry ([.ref (a 34)]) (n := 3) (Nat.le_of_ble_eq_true rfl)
  rw [lg_entry_eq]
  generalize (lg_sl ([.ref (a 34)]) ++ List.replicate (3 - (lg_sl ([.ref (a 34)])).length) Slot.unset).toArray = ls at hl ⊢
  have hl : lv_has ls 3 [(0, .ref (a 34))] := hl
  have lp4 : ∀ (n4 : Nat) (y4_l1 : Int32) (y4_l2 : Int32) (ls : Array Slot), Rg 0 4095 y4_l1 → Rg 0 12 y4_l2 → lv_has ls 3 [(0, .ref (a 34)), (1, .int y4_l1), (2, .int y4_l2)] → 12 - y4_l2.toInt < (n4 : Int) → W p l e (headSpec wsX9_missed ({ frames := 0, cells := 0, slots := 0, locals := 0 })).room s m ([.ref (a 34)]).toArray below meth c s.heap [] 0 0 (MQ below (vp_Si (fun r => Rg 0 4095 r ∧ True)) ([.ref (a 34)]).toArray s 0 0 (fun _ => False)) (F0 m 4 ls []) := by
    intro n4
    induction n4 with
    | zero =>
      intro y4_l1 y4_l2 ls g4_l1 g4_l2 hl hm4
      exact absurd rfl (me_z g4_l2 hm4)
    | succ n4 ih4 =>
      intro y4_l1 y4_l2 ls g4_l1 g4_l2 hl hm4
      refine lv_iload_n hx hb dX9_missed_4 rfl (lv_at hl 2 rfl) ?_
      refine lv_aload_n hx hb dX9_missed_5 rfl (lv_at hl 0 rfl) ?_
      refine va_get (D := D) (ci := 9) (v := .ref (a 1)) (C := RX9) (T := TX9) (N := 6) hx hb hts hin9 hown hK hP 34 rfl rfl 0 (by decide) (hts (.fieldLink RX9 21 "MissedPoints$Told" "net" "LMissedPoints$Net;") (by decide +kernel)) (fun _ h9 => h9) rfl dX9_missed_6 ?_
      refine va_getN (D := D) (ci := 2) (v := .int (L 1 1)) (C := RX2) (T := TX2) (N := 3) hx hb hts hin2 hown hK hP 1 rfl rfl 1 (by decide) (va_Nw.use rfl hKK.2.2.2.2.2.2.2.2.2.2.2.2.2.2.2.2.1) (fun _ h9 => h9) rfl dX9_missed_9 ?_
      refine lv_icmp_ge (tgt := 36) hx hb dX9_missed_12 (by decide) (fun c11012 => ?_) (fun c11012 => ?_)
      · refine lv_iload_n hx hb dX9_missed_36 rfl (lv_at hl 1 rfl) ?_
        exact W.iret (v := y4_l1) hx hb hr (fun t ht hW => ⟨_, rfl, ⟨g4_l1, trivial⟩, ht⟩) (fun q hq => absurd hq List.not_mem_nil) dX9_missed_37
      · have g11013 : Rg 1 12 (L 1 1) := rg_ltr g4_l2 hL.1 (rg_nle c11012) (by decide)
        have g11014 : Rg 0 11 y4_l2 := rg_ltl g4_l2 hL.1 (rg_nle c11012) (by decide)
        refine lv_aload_n hx hb dX9_missed_15 rfl (lv_at hl 0 rfl) ?_
        refine va_get (D := D) (ci := 9) (v := .ref (a 35)) (C := RX9) (T := TX9) (N := 6) hx hb hts hin9 hown hK hP 34 rfl rfl 2 (by decide) (hts (.fieldLink RX9 9 "MissedPoints$Told" "mates" "[I") (by decide +kernel)) (fun _ h9 => h9) rfl dX9_missed_16 ?_
        refine lv_iload_n hx hb dX9_missed_19 rfl (lv_at hl 2 rfl) ?_
        refine wk_aldA hx hb hK hP 35 0 rfl rfl (rg_in g11014 (by decide) (by decide)) dX9_missed_20 (fun r11015 => ?_)
        refine lv_if_ge (tgt := 30) hx hb dX9_missed_21 (by decide) (fun c11016 => ?_) (fun c11016 => ?_)
        · have g11017 : Rg 0 2147483647 r11015 := rg_ler (by decide : Rg 0 0 (0 : Int32)) (rg_any r11015) c11016 (by decide)
          refine wk_iinc (lv' := fun r => [(2, .int r), (0, .ref (a 34)), (1, .int y4_l1)]) (e1 := 1) (f := 12) hx hb dX9_missed_30 hl (k := 2) rfl (by decide) g11014 (by decide) (fun _ => rfl) (fun r11018 ls hr11018 er11018 hl => ?_)
          refine lv_goto (tgt := 4) hx hb dX9_missed_33 (by decide) ?_
          exact ih4 y4_l1 r11018 ls g4_l1 (show Rg 0 12 r11018 from rg_w hr11018 (by decide) (by decide)) (lv_sub (l' := [(0, .ref (a 34)), (1, .int y4_l1), (2, .int r11018)]) hl [1, 2, 0] rfl) (me_up hm4 er11018 (by decide))
        · have g11019 : Rg (-2147483648) (-1) r11015 := rg_ltl (rg_any r11015) (by decide : Rg 0 0 (0 : Int32)) (rg_nle c11016) (by decide)
          refine lv_iload_n hx hb dX9_missed_24 rfl (lv_at hl 1 rfl) ?_
          refine lv_iconst (v := 1) hx hb dX9_missed_25 (by decide) ?_
          refine lv_iload_n hx hb dX9_missed_26 rfl (lv_at hl 2 rfl) ?_
          refine wk_ishl1 (f := 2048) hx hb dX9_missed_27 g11014 (by decide) (fun r11020 hr11020 qr11020 => ?_)
          refine wk_ior 12 (e1 := 1) (f := 4095) hx hb dX9_missed_28 g4_l1 hr11020 (by decide) (fun r11021 hr11021 qr11021 => ?_)
          refine lv_istore_n (lv' := [(1, .int r11021), (0, .ref (a 34)), (2, .int y4_l2)]) hx hb dX9_missed_29 rfl hl (by decide) rfl (fun ls hl => ?_)
          refine wk_iinc (lv' := fun r => [(2, .int r), (1, .int r11021), (0, .ref (a 34))]) (e1 := 1) (f := 12) hx hb dX9_missed_30 hl (k := 2) rfl (by decide) g11014 (by decide) (fun _ => rfl) (fun r11022 ls hr11022 er11022 hl => ?_)
          refine lv_goto (tgt := 4) hx hb dX9_missed_33 (by decide) ?_
          exact ih4 r11021 r11022 ls (show Rg 0 4095 r11021 from rg_w hr11021 (by decide) (by decide)) (show Rg 0 12 r11022 from rg_w hr11022 (by decide) (by decide)) (lv_sub (l' := [(0, .ref (a 34)), (1, .int r11021), (2, .int r11022)]) hl [2, 1, 0] rfl) (me_up hm4 er11022 (by decide))
  refine lv_iconst (v := 0) hx hb dX9_missed_0 (by decide) ?_
  refine lv_istore_n (lv' := [(1, .int 0), (0, .ref (a 34))]) hx hb dX9_missed_1 rfl hl (by decide) rfl (fun ls hl => ?_)
  refine lv_iconst (v := 0) hx hb dX9_missed_2 (by decide) ?_
  refine lv_istore_n (lv' := [(2, .int 0), (1, .int 0), (0, .ref (a 34))]) hx hb dX9_missed_3 rfl hl (by decide) rfl (fun ls hl => ?_)
  exact lp4 13 (0 : Int32) (0 : Int32) ls (by decide : Rg 0 4095 (0 : Int32)) (by decide : Rg 0 12 (0 : Int32)) (lv_sub (l' := [(0, .ref (a 34)), (1, .int 0), (2, .int 0)]) hl [2, 1, 0] rfl) (me_i (by decide : Rg 0 12 (0 : Int32)) (by decide))
set_option maxRecDepth 20000 in
theorem ggX9_lineCount_J6_bitCount_0f7a4 : GoodIn wsX9_lineCount wsJ6_bitCount_0f7a4 := goodIn_r _ [11, 12, 13, 14] (by decide +kernel) (by decide +kernel)
set_option maxRecDepth 20000 in
theorem gX9_lineCount_J6_bitCount_0f7a4 : GoodIn wsX9_lineCount (va_wsS RX9 63 yJ6_bitCount_0f7a4 wsJ6_bitCount_0f7a4) := goodIn_app (goodIn_of _ (by decide +kernel)) ggX9_lineCount_J6_bitCount_0f7a4
set_option maxRecDepth 20000 in
theorem ggX9_lineCount_X9_missed : GoodIn wsX9_lineCount wsX9_missed := goodIn_r _ [6, 1, 7, 15, 16, 17, 18, 19, 20, 21, 22, 23] (by decide +kernel) (by decide +kernel)
set_option maxRecDepth 20000 in
theorem gX9_lineCount_X9_missed : GoodIn wsX9_lineCount (wsV RX9 59 RX9 yX9_missed wsX9_missed) := goodIn_app (goodIn_of _ (by decide +kernel)) ggX9_lineCount_X9_missed
theorem dX9_lineCount_0 : decode cX9_lineCount 0 = .ok (.aload_n 0, 1) := by decide +kernel
theorem dX9_lineCount_1 : decode cX9_lineCount 1 = .ok (.getfield 21, 3) := by decide +kernel
theorem dX9_lineCount_11 : decode cX9_lineCount 11 = .ok (.invokestatic 63, 3) := by decide +kernel
theorem dX9_lineCount_14 : decode cX9_lineCount 14 = .ok (.isub, 1) := by decide +kernel
theorem dX9_lineCount_15 : decode cX9_lineCount 15 = .ok (.iconst 2, 1) := by decide +kernel
theorem dX9_lineCount_16 : decode cX9_lineCount 16 = .ok (.idiv, 1) := by decide +kernel
theorem dX9_lineCount_17 : decode cX9_lineCount 17 = .ok (.ireturn, 1) := by decide +kernel
theorem dX9_lineCount_4 : decode cX9_lineCount 4 = .ok (.getfield 41, 3) := by decide +kernel
theorem dX9_lineCount_7 : decode cX9_lineCount 7 = .ok (.aload_n 0, 1) := by decide +kernel
theorem dX9_lineCount_8 : decode cX9_lineCount 8 = .ok (.invokevirtual 59, 3) := by decide +kernel
set_option maxHeartbeats 4000000 in
set_option maxRecDepth 100000 in
theorem k_X9_lineCount (l : Launch) (D : va_G) (cI cS : ClassId) (a : Nat → Nat) (na nc N : Nat) (L u : SU) (hL : TyX L) (hN : N = 0 ∨ N = 24576) : Met l yX9_lineCount wsX9_lineCount ({ frames := 1, cells := 0, slots := 0, locals := 40 }) (PS D cI cS (wX cI cS a na nc N L u) [.ref (a 34)]) (vp_Si (fun r => Rg (-2147483648) 2147483647 r ∧ True)) 0 0 (fun _ => False) := by
  refine Met.ofW (cc := cX9_lineCount) (maxL := 1) (ret := (some .int)) (by decide) rfl ?_
  intro p e s m args below meth c s₁ B hml hv
  obtain ⟨rfl, hP, hKK⟩ := hv
  have hx := B.exec
  have hb := B.bytes
  have hr := B.returns
  have hts := atoms_spec (ws := wsX9_lineCount) B.pre
  have hown : s.vm.findClass RX9 = some m.cls := findClass_of_methodNamed B.named
  have hlocks := B.notSynchronized
  have hK := hKK.1
  have hin2 : ∀ w ∈ wsX20, w ∈ wsX9_lineCount := by decide +kernel
  have hin9 : ∀ w ∈ wsX90, w ∈ wsX9_lineCount := by decide +kernel
  have hl := lv_entry ([.ref (a 34)]) (n := 1) (Nat.le_of_ble_eq_true rfl)
  rw [lg_entry_eq]
  generalize (lg_sl ([.ref (a 34)]) ++ List.replicate (1 - (lg_sl ([.ref (a 34)])).length) Slot.unset).toArray = ls at hl ⊢
  have hl : lv_has ls 1 [(0, .ref (a 34))] := hl
  refine lv_aload_n hx hb dX9_lineCount_0 rfl (lv_at hl 0 rfl) ?_
  refine va_get (D := D) (ci := 9) (v := .ref (a 1)) (C := RX9) (T := TX9) (N := 6) hx hb hts hin9 hown hK hP 34 rfl rfl 0 (by decide) (hts (.fieldLink RX9 21 "MissedPoints$Told" "net" "LMissedPoints$Net;") (by decide +kernel)) (fun _ h9 => h9) rfl dX9_lineCount_1 ?_
  refine va_getN (D := D) (ci := 2) (v := .int (L 1 1)) (C := RX2) (T := TX2) (N := 3) hx hb hts hin2 hown hK hP 1 rfl rfl 1 (by decide) (va_Nw.use rfl hKK.2.2.2.2.2.2.2.2.2.2.2.2.2.2.2.2.1) (fun _ h9 => h9) rfl dX9_lineCount_4 ?_
  refine lv_aload_n hx hb dX9_lineCount_7 rfl (lv_at hl 0 rfl) ?_
  refine wk_sv 34 (As := []) (rest := [.int (L 1 1)]) ⟨hx, hb, hml, hown, hts⟩ (k_X9_missed l D cI cS a na nc N L u hL hN) hKK hP (ci := 9) rfl rfl (cwV 0 hts gX9_lineCount_X9_missed rfl rfl rfl (by decide +kernel) ⟨Nat.le_of_ble_eq_true rfl, Nat.le_of_ble_eq_true rfl⟩) rfl hl.1 rfl (Nat.le_of_ble_eq_true rfl) dX9_lineCount_8 ⟨Nat.le_of_ble_eq_true rfl, Nat.le_of_ble_eq_true rfl⟩ (fun r11027 hr11027 => ?_)
  refine lz_ss (As := [.int r11027]) (rest := [.int (L 1 1)]) ⟨hx, hb, hml, hown, hts⟩ (k_J6_bitCount_0f7a4 l D cI cS r11027) hKK (hP.sub (ws' := []) [] rfl) (va_cwS 1 hts gX9_lineCount_J6_bitCount_0f7a4 rfl rfl rfl (by decide +kernel) ⟨Nat.le_of_ble_eq_true rfl, Nat.le_of_ble_eq_true rfl⟩) rfl hl.1 rfl (Nat.le_of_ble_eq_true rfl) dX9_lineCount_11 ⟨Nat.le_of_ble_eq_true rfl, Nat.le_of_ble_eq_true rfl⟩ (fun r11028 hr11028 => ?_)
  refine lv_isub hx hb dX9_lineCount_14 ?_
  refine wk_topP (P := fun r => r = (L 1 1) - r11028) rfl (fun r11029 qr11029 => ?_)
  refine lv_iconst (v := 2) hx hb dX9_lineCount_15 (by decide) ?_
  refine lv_idiv hx hb dX9_lineCount_16 (by decide) ?_
  refine wk_any (fun r11030 => ?_)
  exact W.iret (v := r11030) hx hb hr (fun t ht hW => ⟨_, rfl, ⟨(rg_any r11030), trivial⟩, ht⟩) (fun q hq => absurd hq List.not_mem_nil) dX9_lineCount_17
set_option maxRecDepth 20000 in
theorem ggX9_readFrom_X2_joined : GoodIn wsX9_readFrom wsX2_joined := goodIn_r _ [18, 19, 20, 21, 22, 17, 23, 24, 25, 26, 27, 28, 38, 39, 40] (by decide +kernel) (by decide +kernel)
set_option maxRecDepth 20000 in
theorem gX9_readFrom_X2_joined : GoodIn wsX9_readFrom (wsV RX9 48 RX2 yX2_joined wsX2_joined) := goodIn_app (goodIn_of _ (by decide +kernel)) ggX9_readFrom_X2_joined
set_option maxRecDepth 20000 in
theorem ggX9_readFrom_X6_at : GoodIn wsX9_readFrom wsX6_at := goodIn_r _ [7, 8, 9, 10, 11, 6, 12, 13, 29, 30, 31] (by decide +kernel) (by decide +kernel)
set_option maxRecDepth 20000 in
theorem gX9_readFrom_X6_at : GoodIn wsX9_readFrom (wsV RX9 44 RX6 yX6_at wsX6_at) := goodIn_app (goodIn_of _ (by decide +kernel)) ggX9_readFrom_X6_at
theorem dX9_readFrom_0 : decode cX9_readFrom 0 = .ok (.aload_n 1, 1) := by decide +kernel
theorem dX9_readFrom_1 : decode cX9_readFrom 1 = .ok (.getfield 35, 3) := by decide +kernel
theorem dX9_readFrom_101 : decode cX9_readFrom 101 = .ok (.iconst (-1), 1) := by decide +kernel
theorem dX9_readFrom_102 : decode cX9_readFrom 102 = .ok (.iastore, 1) := by decide +kernel
theorem dX9_readFrom_103 : decode cX9_readFrom 103 = .ok (.iinc 2 1, 3) := by decide +kernel
theorem dX9_readFrom_106 : decode cX9_readFrom 106 = .ok (.goto (-35), 3) := by decide +kernel
theorem dX9_readFrom_109 : decode cX9_readFrom 109 = .ok (.iconst 1, 1) := by decide +kernel
theorem dX9_readFrom_11 : decode cX9_readFrom 11 = .ok (.if_icmp .eq 5, 3) := by decide +kernel
theorem dX9_readFrom_110 : decode cX9_readFrom 110 = .ok (.ireturn, 1) := by decide +kernel
theorem dX9_readFrom_14 : decode cX9_readFrom 14 = .ok (.iconst 0, 1) := by decide +kernel
theorem dX9_readFrom_15 : decode cX9_readFrom 15 = .ok (.ireturn, 1) := by decide +kernel
theorem dX9_readFrom_16 : decode cX9_readFrom 16 = .ok (.iconst 0, 1) := by decide +kernel
theorem dX9_readFrom_17 : decode cX9_readFrom 17 = .ok (.istore_n 2, 1) := by decide +kernel
theorem dX9_readFrom_18 : decode cX9_readFrom 18 = .ok (.iload_n 2, 1) := by decide +kernel
theorem dX9_readFrom_19 : decode cX9_readFrom 19 = .ok (.aload_n 0, 1) := by decide +kernel
theorem dX9_readFrom_20 : decode cX9_readFrom 20 = .ok (.getfield 21, 3) := by decide +kernel
theorem dX9_readFrom_23 : decode cX9_readFrom 23 = .ok (.getfield 41, 3) := by decide +kernel
theorem dX9_readFrom_26 : decode cX9_readFrom 26 = .ok (.if_icmp .ge 43, 3) := by decide +kernel
theorem dX9_readFrom_29 : decode cX9_readFrom 29 = .ok (.aload_n 1, 1) := by decide +kernel
theorem dX9_readFrom_30 : decode cX9_readFrom 30 = .ok (.iload_n 2, 1) := by decide +kernel
theorem dX9_readFrom_31 : decode cX9_readFrom 31 = .ok (.invokevirtual 44, 3) := by decide +kernel
theorem dX9_readFrom_34 : decode cX9_readFrom 34 = .ok (.istore_n 3, 1) := by decide +kernel
theorem dX9_readFrom_35 : decode cX9_readFrom 35 = .ok (.iload_n 3, 1) := by decide +kernel
theorem dX9_readFrom_36 : decode cX9_readFrom 36 = .ok (.iconst (-1), 1) := by decide +kernel
theorem dX9_readFrom_37 : decode cX9_readFrom 37 = .ok (.if_icmp .eq 26, 3) := by decide +kernel
theorem dX9_readFrom_4 : decode cX9_readFrom 4 = .ok (.aload_n 0, 1) := by decide +kernel
theorem dX9_readFrom_40 : decode cX9_readFrom 40 = .ok (.aload_n 0, 1) := by decide +kernel
theorem dX9_readFrom_41 : decode cX9_readFrom 41 = .ok (.getfield 21, 3) := by decide +kernel
theorem dX9_readFrom_44 : decode cX9_readFrom 44 = .ok (.iload_n 2, 1) := by decide +kernel
theorem dX9_readFrom_45 : decode cX9_readFrom 45 = .ok (.iload_n 3, 1) := by decide +kernel
theorem dX9_readFrom_46 : decode cX9_readFrom 46 = .ok (.invokevirtual 48, 3) := by decide +kernel
theorem dX9_readFrom_49 : decode cX9_readFrom 49 = .ok (.ifCond .eq 12, 3) := by decide +kernel
theorem dX9_readFrom_5 : decode cX9_readFrom 5 = .ok (.getfield 21, 3) := by decide +kernel
theorem dX9_readFrom_52 : decode cX9_readFrom 52 = .ok (.aload_n 1, 1) := by decide +kernel
theorem dX9_readFrom_53 : decode cX9_readFrom 53 = .ok (.iload_n 3, 1) := by decide +kernel
theorem dX9_readFrom_54 : decode cX9_readFrom 54 = .ok (.invokevirtual 44, 3) := by decide +kernel
theorem dX9_readFrom_57 : decode cX9_readFrom 57 = .ok (.iload_n 2, 1) := by decide +kernel
theorem dX9_readFrom_58 : decode cX9_readFrom 58 = .ok (.if_icmp .eq 5, 3) := by decide +kernel
theorem dX9_readFrom_61 : decode cX9_readFrom 61 = .ok (.iconst 0, 1) := by decide +kernel
theorem dX9_readFrom_62 : decode cX9_readFrom 62 = .ok (.ireturn, 1) := by decide +kernel
theorem dX9_readFrom_63 : decode cX9_readFrom 63 = .ok (.iinc 2 1, 3) := by decide +kernel
theorem dX9_readFrom_66 : decode cX9_readFrom 66 = .ok (.goto (-48), 3) := by decide +kernel
theorem dX9_readFrom_69 : decode cX9_readFrom 69 = .ok (.iconst 0, 1) := by decide +kernel
theorem dX9_readFrom_70 : decode cX9_readFrom 70 = .ok (.istore_n 2, 1) := by decide +kernel
theorem dX9_readFrom_71 : decode cX9_readFrom 71 = .ok (.iload_n 2, 1) := by decide +kernel
theorem dX9_readFrom_72 : decode cX9_readFrom 72 = .ok (.bipush 12, 2) := by decide +kernel
theorem dX9_readFrom_74 : decode cX9_readFrom 74 = .ok (.if_icmp .ge 35, 3) := by decide +kernel
theorem dX9_readFrom_77 : decode cX9_readFrom 77 = .ok (.aload_n 0, 1) := by decide +kernel
theorem dX9_readFrom_78 : decode cX9_readFrom 78 = .ok (.getfield 9, 3) := by decide +kernel
theorem dX9_readFrom_8 : decode cX9_readFrom 8 = .ok (.getfield 41, 3) := by decide +kernel
theorem dX9_readFrom_81 : decode cX9_readFrom 81 = .ok (.iload_n 2, 1) := by decide +kernel
theorem dX9_readFrom_82 : decode cX9_readFrom 82 = .ok (.iload_n 2, 1) := by decide +kernel
theorem dX9_readFrom_83 : decode cX9_readFrom 83 = .ok (.aload_n 0, 1) := by decide +kernel
theorem dX9_readFrom_84 : decode cX9_readFrom 84 = .ok (.getfield 21, 3) := by decide +kernel
theorem dX9_readFrom_87 : decode cX9_readFrom 87 = .ok (.getfield 41, 3) := by decide +kernel
theorem dX9_readFrom_90 : decode cX9_readFrom 90 = .ok (.if_icmp .ge 11, 3) := by decide +kernel
theorem dX9_readFrom_93 : decode cX9_readFrom 93 = .ok (.aload_n 1, 1) := by decide +kernel
theorem dX9_readFrom_94 : decode cX9_readFrom 94 = .ok (.iload_n 2, 1) := by decide +kernel
theorem dX9_readFrom_95 : decode cX9_readFrom 95 = .ok (.invokevirtual 44, 3) := by decide +kernel
theorem dX9_readFrom_98 : decode cX9_readFrom 98 = .ok (.goto 4, 3) := by decide +kernel
set_option maxHeartbeats 4000000 in
set_option maxRecDepth 100000 in
theorem k_X9_readFrom (l : Launch) (D : va_G) (cI cS : ClassId) (sz : Nat) (a : Nat → Nat) (na nc N : Nat) (L u0 : SU) (hL : TyX L) (hN : N = 0 ∨ N = 24576) (q : Nat) (hq : q < 4) : Met l yX9_readFrom wsX9_readFrom ({ frames := 3, cells := 0, slots := 0, locals := 120 }) (PQ D cI cS (wX cI cS a na nc N L u0) sz [.ref (a 34), .ref (a (26 + 2 * q))]) (QF (S := SU) D (wX cI cS a na nc N L u0) (wX cI cS a na nc N L) sz (fun r _ => Rg 0 1 r ∧ True)) 0 0 (va_A (wX cI cS a na nc N L u0) sz) := by
  refine Met.ofW (cc := cX9_readFrom) (maxL := 4) (ret := (some .boolean)) (by decide) rfl ?_
  intro p e s m args below meth c s₁ B hml hv
  obtain ⟨rfl, hsz, hP, hKK, hD0⟩ := hv
  have hx := B.exec
  have hb := B.bytes
  have hr := B.returns
  have hts := atoms_spec (ws := wsX9_readFrom) B.pre
  have hown : s.vm.findClass RX9 = some m.cls := findClass_of_methodNamed B.named
  have hlocks := B.notSynchronized
  have hK := hKK.1
  have hin2 : ∀ w ∈ wsX20, w ∈ wsX9_readFrom := by decide +kernel
  have hin6 : ∀ w ∈ wsX60, w ∈ wsX9_readFrom := by decide +kernel
  have hin9 : ∀ w ∈ wsX90, w ∈ wsX9_readFrom := by decide +kernel
  subst hsz
  have hD := hD0.self (sz := s.heap.size)
  obtain ⟨A, hAe⟩ : ∃ A, A = va_A (wX cI cS a na nc N L u0) s.heap.size := ⟨_, rfl⟩
  rw [← hAe] at hD
  have hA : ∀ q : Nat, s.heap.size ≤ q → A q := fun q h => by rw [hAe]; exact Or.inr h
  have hS : va_S A s.heap s.heap [] := va_S.rf
  have hl := lv_entry ([.ref (a 34), .ref (a (26 + 2 * q))]) (n := 4) (Nat.le_of_ble_eq_true rfl)
  rw [lg_entry_eq]
  generalize (lg_sl ([.ref (a 34), .ref (a (26 + 2 * q))]) ++ List.replicate (4 - (lg_sl ([.ref (a 34), .ref (a (26 + 2 * q))])).length) Slot.unset).toArray = ls at hl ⊢
  have hl : lv_has ls 4 [(0, .ref (a 34)), (1, .ref (a (26 + 2 * q)))] := hl
  obtain ⟨u, hu9⟩ : ∃ u : SU, u = u0 := ⟨_, rfl⟩
  rw [← hu9] at hP hD
  have lp71 : ∀ (n71 : Nat) (y71_l2 : Int32) (u : SU) (H : Heap) (locs : List Loc) (ls : Array Slot), Rg 0 12 y71_l2 → va_P D cls (wX cI cS a na nc N L u) H → va_D A (wX cI cS a na nc N L u) → va_S A s.heap H locs → lv_has ls 4 [(0, .ref (a 34)), (1, .ref (a (26 + 2 * q))), (2, .int y71_l2)] → 12 - y71_l2.toInt < (n71 : Int) → W p l e (headSpec wsX9_readFrom ({ frames := 3, cells := 0, slots := 0, locals := 120 })).room s m ([.ref (a 34), .ref (a (26 + 2 * q))]).toArray below meth c H locs 0 0 (MQ below (QF (S := SU) D (wX cI cS a na nc N L u0) (wX cI cS a na nc N L) s.heap.size (fun r _ => Rg 0 1 r ∧ True)) ([.ref (a 34), .ref (a (26 + 2 * q))]).toArray s 0 0 (va_A (wX cI cS a na nc N L u0) s.heap.size)) (F0 m 71 ls []) := by
    intro n71
    induction n71 with
    | zero =>
      intro y71_l2 u H locs ls g71_l2 hP hD hS hl hm71
      exact absurd rfl (me_z g71_l2 hm71)
    | succ n71 ih71 =>
      intro y71_l2 u H locs ls g71_l2 hP hD hS hl hm71
      refine lv_iload_n hx hb dX9_readFrom_71 rfl (lv_at hl 2 rfl) ?_
      refine lv_bipush (v := 12) hx hb dX9_readFrom_72 (by decide) ?_
      refine lv_icmp_ge (tgt := 109) hx hb dX9_readFrom_74 (by decide) (fun c11264 => ?_) (fun c11264 => ?_)
      · have g11265 : Rg 12 12 y71_l2 := rg_ler (by decide : Rg 12 12 (12 : Int32)) g71_l2 c11264 (by decide)
        refine lv_iconst (v := 1) hx hb dX9_readFrom_109 (by decide) ?_
        subst hAe
        exact W.zret (v := 1) hx hb hr (by decide) (fun t ht hW => ⟨⟨_, u, rfl, ⟨(by decide : Rg 0 1 (1 : Int32)), trivial⟩, by rw [ht]; exact hP, hD⟩, hS.F ht⟩) hS.2.2 dX9_readFrom_110
      · have g11266 : Rg 0 11 y71_l2 := rg_ltl g71_l2 (by decide : Rg 12 12 (12 : Int32)) (rg_nle c11264) (by decide)
        refine lv_aload_n hx hb dX9_readFrom_77 rfl (lv_at hl 0 rfl) ?_
        refine va_get (D := D) (ci := 9) (v := .ref (a 35)) (C := RX9) (T := TX9) (N := 6) hx hb hts hin9 hown hK hP 34 rfl rfl 2 (by decide) (hts (.fieldLink RX9 9 "MissedPoints$Told" "mates" "[I") (by decide +kernel)) (fun _ h9 => h9) rfl dX9_readFrom_78 ?_
        refine lv_iload_n hx hb dX9_readFrom_81 rfl (lv_at hl 2 rfl) ?_
        refine lv_iload_n hx hb dX9_readFrom_82 rfl (lv_at hl 2 rfl) ?_
        refine lv_aload_n hx hb dX9_readFrom_83 rfl (lv_at hl 0 rfl) ?_
        refine va_get (D := D) (ci := 9) (v := .ref (a 1)) (C := RX9) (T := TX9) (N := 6) hx hb hts hin9 hown hK hP 34 rfl rfl 0 (by decide) (hts (.fieldLink RX9 21 "MissedPoints$Told" "net" "LMissedPoints$Net;") (by decide +kernel)) (fun _ h9 => h9) rfl dX9_readFrom_84 ?_
        refine va_getN (D := D) (ci := 2) (v := .int (L 1 1)) (C := RX2) (T := TX2) (N := 3) hx hb hts hin2 hown hK hP 1 rfl rfl 1 (by decide) (va_Nw.use rfl hKK.2.2.2.2.2.2.2.2.2.2.2.2.2.2.2.2.1) (fun _ h9 => h9) rfl dX9_readFrom_87 ?_
        refine lv_icmp_ge (tgt := 101) hx hb dX9_readFrom_90 (by decide) (fun c11267 => ?_) (fun c11267 => ?_)
        · have g11268 : Rg 0 11 (L 1 1) := rg_lel hL.1 g11266 c11267 (by decide)
          refine lv_iconst (v := (-1)) hx hb dX9_readFrom_101 (by decide) ?_
          refine ks_ast hx hb hK hP hD hS rfl (k := 35) rfl sx_35 (rg_in g11266 (by decide) (by decide)) dX9_readFrom_102 (fun u H locs hP hD hS => ?_)
          refine wk_iinc (lv' := fun r => [(2, .int r), (0, .ref (a 34)), (1, .ref (a (26 + 2 * q)))]) (e1 := 1) (f := 12) hx hb dX9_readFrom_103 hl (k := 2) rfl (by decide) g11266 (by decide) (fun _ => rfl) (fun r11269 ls hr11269 er11269 hl => ?_)
          refine lv_goto (tgt := 71) hx hb dX9_readFrom_106 (by decide) ?_
          exact ih71 r11269 u _ _ ls (show Rg 0 12 r11269 from rg_w hr11269 (by decide) (by decide)) hP hD hS (lv_sub (l' := [(0, .ref (a 34)), (1, .ref (a (26 + 2 * q))), (2, .int r11269)]) hl [1, 2, 0] rfl) (me_up hm71 er11269 (by decide))
        · have g11270 : Rg 1 12 (L 1 1) := rg_ltr g11266 hL.1 (rg_nle c11267) (by decide)
          refine lv_aload_n hx hb dX9_readFrom_93 rfl (lv_at hl 1 rfl) ?_
          refine lv_iload_n hx hb dX9_readFrom_94 rfl (lv_at hl 2 rfl) ?_
          refine wk_sv (26 + 2 * q) (As := [.int y71_l2]) (rest := [.int y71_l2, .ref (a 35)]) ⟨hx, hb, hml, hown, hts⟩ (k_X6_at l D cI cS a na nc N L u hL hN q hq y71_l2) hKK hP (ci := 6) rfl (gx_sh hq) (cwV 1 hts gX9_readFrom_X6_at rfl rfl rfl (by decide +kernel) ⟨Nat.le_of_ble_eq_true rfl, Nat.le_of_ble_eq_true rfl⟩) rfl hl.1 rfl (Nat.le_of_ble_eq_true rfl) dX9_readFrom_95 ⟨Nat.le_of_ble_eq_true rfl, Nat.le_of_ble_eq_true rfl⟩ (fun r11271 hr11271 => ?_)
          refine lv_goto (tgt := 102) hx hb dX9_readFrom_98 (by decide) ?_
          refine ks_ast hx hb hK hP hD hS rfl (k := 35) rfl sx_35 (rg_in g11266 (by decide) (by decide)) dX9_readFrom_102 (fun u H locs hP hD hS => ?_)
          refine wk_iinc (lv' := fun r => [(2, .int r), (0, .ref (a 34)), (1, .ref (a (26 + 2 * q)))]) (e1 := 1) (f := 12) hx hb dX9_readFrom_103 hl (k := 2) rfl (by decide) g11266 (by decide) (fun _ => rfl) (fun r11272 ls hr11272 er11272 hl => ?_)
          refine lv_goto (tgt := 71) hx hb dX9_readFrom_106 (by decide) ?_
          exact ih71 r11272 u _ _ ls (show Rg 0 12 r11272 from rg_w hr11272 (by decide) (by decide)) hP hD hS (lv_sub (l' := [(0, .ref (a 34)), (1, .ref (a (26 + 2 * q))), (2, .int r11272)]) hl [1, 2, 0] rfl) (me_up hm71 er11272 (by decide))
  have lp18 : ∀ (n18 : Nat) (y18_l2 : Int32) (u : SU) (H : Heap) (locs : List Loc) (ls : Array Slot), Rg 0 12 y18_l2 → va_P D cls (wX cI cS a na nc N L u) H → va_D A (wX cI cS a na nc N L u) → va_S A s.heap H locs → lv_has ls 4 [(0, .ref (a 34)), (1, .ref (a (26 + 2 * q))), (2, .int y18_l2)] → 12 - y18_l2.toInt < (n18 : Int) → W p l e (headSpec wsX9_readFrom ({ frames := 3, cells := 0, slots := 0, locals := 120 })).room s m ([.ref (a 34), .ref (a (26 + 2 * q))]).toArray below meth c H locs 0 0 (MQ below (QF (S := SU) D (wX cI cS a na nc N L u0) (wX cI cS a na nc N L) s.heap.size (fun r _ => Rg 0 1 r ∧ True)) ([.ref (a 34), .ref (a (26 + 2 * q))]).toArray s 0 0 (va_A (wX cI cS a na nc N L u0) s.heap.size)) (F0 m 18 ls []) := by
    intro n18
    induction n18 with
    | zero =>
      intro y18_l2 u H locs ls g18_l2 hP hD hS hl hm18
      exact absurd rfl (me_z g18_l2 hm18)
    | succ n18 ih18 =>
      intro y18_l2 u H locs ls g18_l2 hP hD hS hl hm18
      refine lv_iload_n hx hb dX9_readFrom_18 rfl (lv_at hl 2 rfl) ?_
      refine lv_aload_n hx hb dX9_readFrom_19 rfl (lv_at hl 0 rfl) ?_
      refine va_get (D := D) (ci := 9) (v := .ref (a 1)) (C := RX9) (T := TX9) (N := 6) hx hb hts hin9 hown hK hP 34 rfl rfl 0 (by decide) (hts (.fieldLink RX9 21 "MissedPoints$Told" "net" "LMissedPoints$Net;") (by decide +kernel)) (fun _ h9 => h9) rfl dX9_readFrom_20 ?_
      refine va_getN (D := D) (ci := 2) (v := .int (L 1 1)) (C := RX2) (T := TX2) (N := 3) hx hb hts hin2 hown hK hP 1 rfl rfl 1 (by decide) (va_Nw.use rfl hKK.2.2.2.2.2.2.2.2.2.2.2.2.2.2.2.2.1) (fun _ h9 => h9) rfl dX9_readFrom_23 ?_
      refine lv_icmp_ge (tgt := 69) hx hb dX9_readFrom_26 (by decide) (fun c11273 => ?_) (fun c11273 => ?_)
      · refine lv_iconst (v := 0) hx hb dX9_readFrom_69 (by decide) ?_
        refine lv_istore_n (lv' := [(2, .int 0), (0, .ref (a 34)), (1, .ref (a (26 + 2 * q)))]) hx hb dX9_readFrom_70 rfl hl (by decide) rfl (fun ls hl => ?_)
        exact lp71 13 (0 : Int32) u _ _ ls (by decide : Rg 0 12 (0 : Int32)) hP hD hS (lv_sub (l' := [(0, .ref (a 34)), (1, .ref (a (26 + 2 * q))), (2, .int 0)]) hl [1, 2, 0] rfl) (me_i (by decide : Rg 0 12 (0 : Int32)) (by decide))
      · have g11274 : Rg 1 12 (L 1 1) := rg_ltr g18_l2 hL.1 (rg_nle c11273) (by decide)
        have g11275 : Rg 0 11 y18_l2 := rg_ltl g18_l2 hL.1 (rg_nle c11273) (by decide)
        refine lv_aload_n hx hb dX9_readFrom_29 rfl (lv_at hl 1 rfl) ?_
        refine lv_iload_n hx hb dX9_readFrom_30 rfl (lv_at hl 2 rfl) ?_
        refine wk_sv (26 + 2 * q) (As := [.int y18_l2]) (rest := []) ⟨hx, hb, hml, hown, hts⟩ (k_X6_at l D cI cS a na nc N L u hL hN q hq y18_l2) hKK hP (ci := 6) rfl (gx_sh hq) (cwV 1 hts gX9_readFrom_X6_at rfl rfl rfl (by decide +kernel) ⟨Nat.le_of_ble_eq_true rfl, Nat.le_of_ble_eq_true rfl⟩) rfl hl.1 rfl (Nat.le_of_ble_eq_true rfl) dX9_readFrom_31 ⟨Nat.le_of_ble_eq_true rfl, Nat.le_of_ble_eq_true rfl⟩ (fun r11276 hr11276 => ?_)
        refine lv_istore_n (lv' := [(3, .int r11276), (0, .ref (a 34)), (1, .ref (a (26 + 2 * q))), (2, .int y18_l2)]) hx hb dX9_readFrom_34 rfl hl (by decide) rfl (fun ls hl => ?_)
        refine lv_iload_n hx hb dX9_readFrom_35 rfl (lv_at hl 0 rfl) ?_
        refine lv_iconst (v := (-1)) hx hb dX9_readFrom_36 (by decide) ?_
        refine lv_icmp_eq (tgt := 63) hx hb dX9_readFrom_37 (by decide) (fun c11277 => ?_) (fun c11277 => ?_)
        · have g11278 : Rg (-1) (-1) r11276 := wk_eql hr11276.1 (by decide : Rg (-1) (-1) ((-1) : Int32)) c11277 (by decide)
          refine wk_iinc (lv' := fun r => [(2, .int r), (3, .int r11276), (0, .ref (a 34)), (1, .ref (a (26 + 2 * q)))]) (e1 := 1) (f := 12) hx hb dX9_readFrom_63 hl (k := 3) rfl (by decide) g11275 (by decide) (fun _ => rfl) (fun r11279 ls hr11279 er11279 hl => ?_)
          refine lv_goto (tgt := 18) hx hb dX9_readFrom_66 (by decide) ?_
          exact ih18 r11279 u _ _ ls (show Rg 0 12 r11279 from rg_w hr11279 (by decide) (by decide)) hP hD hS (lv_sub (l' := [(0, .ref (a 34)), (1, .ref (a (26 + 2 * q))), (2, .int r11279)]) hl [2, 3, 0] rfl) (me_up hm18 er11279 (by decide))
        · refine lv_aload_n hx hb dX9_readFrom_40 rfl (lv_at hl 1 rfl) ?_
          refine va_get (D := D) (ci := 9) (v := .ref (a 1)) (C := RX9) (T := TX9) (N := 6) hx hb hts hin9 hown hK hP 34 rfl rfl 0 (by decide) (hts (.fieldLink RX9 21 "MissedPoints$Told" "net" "LMissedPoints$Net;") (by decide +kernel)) (fun _ h9 => h9) rfl dX9_readFrom_41 ?_
          refine lv_iload_n hx hb dX9_readFrom_44 rfl (lv_at hl 3 rfl) ?_
          refine lv_iload_n hx hb dX9_readFrom_45 rfl (lv_at hl 0 rfl) ?_
          refine wk_sv 1 (As := [.int y18_l2, .int r11276]) (rest := []) ⟨hx, hb, hml, hown, hts⟩ (k_X2_joined l D cI cS a na nc N L u hL hN y18_l2 r11276) hKK hP (ci := 2) rfl rfl (cwV 2 hts gX9_readFrom_X2_joined rfl rfl rfl (by decide +kernel) ⟨Nat.le_of_ble_eq_true rfl, Nat.le_of_ble_eq_true rfl⟩) rfl hl.1 rfl (Nat.le_of_ble_eq_true rfl) dX9_readFrom_46 ⟨Nat.le_of_ble_eq_true rfl, Nat.le_of_ble_eq_true rfl⟩ (fun r11280 hr11280 => ?_)
          refine lv_if_eq (tgt := 61) hx hb dX9_readFrom_49 (by decide) (fun c11281 => ?_) (fun c11281 => ?_)
          · have g11282 : Rg 0 0 r11280 := wk_eql hr11280.1 (by decide : Rg 0 0 (0 : Int32)) c11281 (by decide)
            refine lv_iconst (v := 0) hx hb dX9_readFrom_61 (by decide) ?_
            subst hAe
            exact W.zret (v := 0) hx hb hr (by decide) (fun t ht hW => ⟨⟨_, u, rfl, ⟨(by decide : Rg 0 1 (0 : Int32)), trivial⟩, by rw [ht]; exact hP, hD⟩, hS.F ht⟩) hS.2.2 dX9_readFrom_62
          · have g11283 : Rg 0 11 r11276 := (hr11280.2 c11281).2
            have g11284 : Rg 1 1 r11280 := rg_ne_lo (k := 0) hr11280.1 (by decide) c11281 (by decide)
            refine lv_aload_n hx hb dX9_readFrom_52 rfl (lv_at hl 2 rfl) ?_
            refine lv_iload_n hx hb dX9_readFrom_53 rfl (lv_at hl 0 rfl) ?_
            refine wk_sv (26 + 2 * q) (As := [.int r11276]) (rest := []) ⟨hx, hb, hml, hown, hts⟩ (k_X6_at l D cI cS a na nc N L u hL hN q hq r11276) hKK hP (ci := 6) rfl (gx_sh hq) (cwV 1 hts gX9_readFrom_X6_at rfl rfl rfl (by decide +kernel) ⟨Nat.le_of_ble_eq_true rfl, Nat.le_of_ble_eq_true rfl⟩) rfl hl.1 rfl (Nat.le_of_ble_eq_true rfl) dX9_readFrom_54 ⟨Nat.le_of_ble_eq_true rfl, Nat.le_of_ble_eq_true rfl⟩ (fun r11285 hr11285 => ?_)
            refine lv_iload_n hx hb dX9_readFrom_57 rfl (lv_at hl 3 rfl) ?_
            refine lv_icmp_eq (tgt := 63) hx hb dX9_readFrom_58 (by decide) (fun c11286 => ?_) (fun c11286 => ?_)
            · have g11287 : Rg 0 11 r11285 := wk_eql hr11285.1 g11275 c11286 (by decide)
              refine wk_iinc (lv' := fun r => [(2, .int r), (3, .int r11276), (0, .ref (a 34)), (1, .ref (a (26 + 2 * q)))]) (e1 := 1) (f := 12) hx hb dX9_readFrom_63 hl (k := 3) rfl (by decide) g11275 (by decide) (fun _ => rfl) (fun r11288 ls hr11288 er11288 hl => ?_)
              refine lv_goto (tgt := 18) hx hb dX9_readFrom_66 (by decide) ?_
              exact ih18 r11288 u _ _ ls (show Rg 0 12 r11288 from rg_w hr11288 (by decide) (by decide)) hP hD hS (lv_sub (l' := [(0, .ref (a 34)), (1, .ref (a (26 + 2 * q))), (2, .int r11288)]) hl [2, 3, 0] rfl) (me_up hm18 er11288 (by decide))
            · refine lv_iconst (v := 0) hx hb dX9_readFrom_61 (by decide) ?_
              subst hAe
              exact W.zret (v := 0) hx hb hr (by decide) (fun t ht hW => ⟨⟨_, u, rfl, ⟨(by decide : Rg 0 1 (0 : Int32)), trivial⟩, by rw [ht]; exact hP, hD⟩, hS.F ht⟩) hS.2.2 dX9_readFrom_62
  refine lv_aload_n hx hb dX9_readFrom_0 rfl (lv_at hl 1 rfl) ?_
  refine va_getN (D := D) (ci := 6) (v := .int ((L (26 + 2 * q) 2))) (C := RX6) (T := TX6) (N := 3) hx hb hts hin6 hown hK hP (26 + 2 * q) (gx_sh hq) rfl 2 (by decide) (va_Nw.use rfl hKK.2.2.2.2.2.2.2.2.2.2.2.2.2.2.2.1) (fun _ h9 => h9) rfl dX9_readFrom_1 ?_
  refine lv_aload_n hx hb dX9_readFrom_4 rfl (lv_at hl 0 rfl) ?_
  refine va_get (D := D) (ci := 9) (v := .ref (a 1)) (C := RX9) (T := TX9) (N := 6) hx hb hts hin9 hown hK hP 34 rfl rfl 0 (by decide) (hts (.fieldLink RX9 21 "MissedPoints$Told" "net" "LMissedPoints$Net;") (by decide +kernel)) (fun _ h9 => h9) rfl dX9_readFrom_5 ?_
  refine va_getN (D := D) (ci := 2) (v := .int (L 1 1)) (C := RX2) (T := TX2) (N := 3) hx hb hts hin2 hown hK hP 1 rfl rfl 1 (by decide) (va_Nw.use rfl hKK.2.2.2.2.2.2.2.2.2.2.2.2.2.2.2.2.1) (fun _ h9 => h9) rfl dX9_readFrom_8 ?_
  refine lv_icmp_eq (tgt := 16) hx hb dX9_readFrom_11 (by decide) (fun c11289 => ?_) (fun c11289 => ?_)
  · have g11290 : Rg 0 12 ((L (26 + 2 * q) 2)) := wk_eql (hL.sh hq) hL.1 c11289 (by decide)
    refine lv_iconst (v := 0) hx hb dX9_readFrom_16 (by decide) ?_
    refine lv_istore_n (lv' := [(2, .int 0), (0, .ref (a 34)), (1, .ref (a (26 + 2 * q)))]) hx hb dX9_readFrom_17 rfl hl (by decide) rfl (fun ls hl => ?_)
    exact lp18 13 (0 : Int32) u _ _ ls (by decide : Rg 0 12 (0 : Int32)) hP hD hS (lv_sub (l' := [(0, .ref (a 34)), (1, .ref (a (26 + 2 * q))), (2, .int 0)]) hl [1, 2, 0] rfl) (me_i (by decide : Rg 0 12 (0 : Int32)) (by decide))
  · refine lv_iconst (v := 0) hx hb dX9_readFrom_14 (by decide) ?_
    subst hAe
    exact W.zret (v := 0) hx hb hr (by decide) (fun t ht hW => ⟨⟨_, u, rfl, ⟨(by decide : Rg 0 1 (0 : Int32)), trivial⟩, by rw [ht]; exact hP, hD⟩, hS.F ht⟩) hS.2.2 dX9_readFrom_15
set_option maxHeartbeats 4000000 in
set_option maxRecDepth 100000 in
theorem k_X9_readFrom_38 (l : Launch) (D : va_G) (cI cS : ClassId) (sz : Nat) (a : Nat → Nat) (na nc N : Nat) (L u0 : SU) (hL : TyX L) (hN : N = 0 ∨ N = 24576) (q : Nat) (hq : q < 4) : Met l yX9_readFrom wsX9_readFrom ({ frames := 3, cells := 0, slots := 0, locals := 120 }) (PQ D cI cS (wX cI cS a na nc N L u0) sz [.ref (a 38), .ref (a (26 + 2 * q))]) (QF (S := SU) D (wX cI cS a na nc N L u0) (wX cI cS a na nc N L) sz (fun r _ => Rg 0 1 r ∧ True)) 0 0 (va_A (wX cI cS a na nc N L u0) sz) := by
  refine Met.ofW (cc := cX9_readFrom) (maxL := 4) (ret := (some .boolean)) (by decide) rfl ?_
  intro p e s m args below meth c s₁ B hml hv
  obtain ⟨rfl, hsz, hP, hKK, hD0⟩ := hv
  have hx := B.exec
  have hb := B.bytes
  have hr := B.returns
  have hts := atoms_spec (ws := wsX9_readFrom) B.pre
  have hown : s.vm.findClass RX9 = some m.cls := findClass_of_methodNamed B.named
  have hlocks := B.notSynchronized
  have hK := hKK.1
  have hin2 : ∀ w ∈ wsX20, w ∈ wsX9_readFrom := by decide +kernel
  have hin6 : ∀ w ∈ wsX60, w ∈ wsX9_readFrom := by decide +kernel
  have hin9 : ∀ w ∈ wsX90, w ∈ wsX9_readFrom := by decide +kernel
  subst hsz
  have hD := hD0.self (sz := s.heap.size)
  obtain ⟨A, hAe⟩ : ∃ A, A = va_A (wX cI cS a na nc N L u0) s.heap.size := ⟨_, rfl⟩
  rw [← hAe] at hD
  have hA : ∀ q : Nat, s.heap.size ≤ q → A q := fun q h => by rw [hAe]; exact Or.inr h
  have hS : va_S A s.heap s.heap [] := va_S.rf
  have hl := lv_entry ([.ref (a 38), .ref (a (26 + 2 * q))]) (n := 4) (Nat.le_of_ble_eq_true rfl)
  rw [lg_entry_eq]
  generalize (lg_sl ([.ref (a 38), .ref (a (26 + 2 * q))]) ++ List.replicate (4 - (lg_sl ([.ref (a 38), .ref (a (26 + 2 * q))])).length) Slot.unset).toArray = ls at hl ⊢
  have hl : lv_has ls 4 [(0, .ref (a 38)), (1, .ref (a (26 + 2 * q)))] := hl
  obtain ⟨u, hu9⟩ : ∃ u : SU, u = u0 := ⟨_, rfl⟩
  rw [← hu9] at hP hD
  have lp71 : ∀ (n71 : Nat) (y71_l2 : Int32) (u : SU) (H : Heap) (locs : List Loc) (ls : Array Slot), Rg 0 12 y71_l2 → va_P D cls (wX cI cS a na nc N L u) H → va_D A (wX cI cS a na nc N L u) → va_S A s.heap H locs → lv_has ls 4 [(0, .ref (a 38)), (1, .ref (a (26 + 2 * q))), (2, .int y71_l2)] → 12 - y71_l2.toInt < (n71 : Int) → W p l e (headSpec wsX9_readFrom ({ frames := 3, cells := 0, slots := 0, locals := 120 })).room s m ([.ref (a 38), .ref (a (26 + 2 * q))]).toArray below meth c H locs 0 0 (MQ below (QF (S := SU) D (wX cI cS a na nc N L u0) (wX cI cS a na nc N L) s.heap.size (fun r _ => Rg 0 1 r ∧ True)) ([.ref (a 38), .ref (a (26 + 2 * q))]).toArray s 0 0 (va_A (wX cI cS a na nc N L u0) s.heap.size)) (F0 m 71 ls []) := by
    intro n71
    induction n71 with
    | zero =>
      intro y71_l2 u H locs ls g71_l2 hP hD hS hl hm71
      exact absurd rfl (me_z g71_l2 hm71)
    | succ n71 ih71 =>
      intro y71_l2 u H locs ls g71_l2 hP hD hS hl hm71
      refine lv_iload_n hx hb dX9_readFrom_71 rfl (lv_at hl 2 rfl) ?_
      refine lv_bipush (v := 12) hx hb dX9_readFrom_72 (by decide) ?_
      refine lv_icmp_ge (tgt := 109) hx hb dX9_readFrom_74 (by decide) (fun c11524 => ?_) (fun c11524 => ?_)
      · have g11525 : Rg 12 12 y71_l2 := rg_ler (by decide : Rg 12 12 (12 : Int32)) g71_l2 c11524 (by decide)
        refine lv_iconst (v := 1) hx hb dX9_readFrom_109 (by decide) ?_
        subst hAe
        exact W.zret (v := 1) hx hb hr (by decide) (fun t ht hW => ⟨⟨_, u, rfl, ⟨(by decide : Rg 0 1 (1 : Int32)), trivial⟩, by rw [ht]; exact hP, hD⟩, hS.F ht⟩) hS.2.2 dX9_readFrom_110
      · have g11526 : Rg 0 11 y71_l2 := rg_ltl g71_l2 (by decide : Rg 12 12 (12 : Int32)) (rg_nle c11524) (by decide)
        refine lv_aload_n hx hb dX9_readFrom_77 rfl (lv_at hl 0 rfl) ?_
        refine va_get (D := D) (ci := 9) (v := .ref (a 39)) (C := RX9) (T := TX9) (N := 6) hx hb hts hin9 hown hK hP 38 rfl rfl 2 (by decide) (hts (.fieldLink RX9 9 "MissedPoints$Told" "mates" "[I") (by decide +kernel)) (fun _ h9 => h9) rfl dX9_readFrom_78 ?_
        refine lv_iload_n hx hb dX9_readFrom_81 rfl (lv_at hl 2 rfl) ?_
        refine lv_iload_n hx hb dX9_readFrom_82 rfl (lv_at hl 2 rfl) ?_
        refine lv_aload_n hx hb dX9_readFrom_83 rfl (lv_at hl 0 rfl) ?_
        refine va_get (D := D) (ci := 9) (v := .ref (a 1)) (C := RX9) (T := TX9) (N := 6) hx hb hts hin9 hown hK hP 38 rfl rfl 0 (by decide) (hts (.fieldLink RX9 21 "MissedPoints$Told" "net" "LMissedPoints$Net;") (by decide +kernel)) (fun _ h9 => h9) rfl dX9_readFrom_84 ?_
        refine va_getN (D := D) (ci := 2) (v := .int (L 1 1)) (C := RX2) (T := TX2) (N := 3) hx hb hts hin2 hown hK hP 1 rfl rfl 1 (by decide) (va_Nw.use rfl hKK.2.2.2.2.2.2.2.2.2.2.2.2.2.2.2.2.1) (fun _ h9 => h9) rfl dX9_readFrom_87 ?_
        refine lv_icmp_ge (tgt := 101) hx hb dX9_readFrom_90 (by decide) (fun c11527 => ?_) (fun c11527 => ?_)
        · have g11528 : Rg 0 11 (L 1 1) := rg_lel hL.1 g11526 c11527 (by decide)
          refine lv_iconst (v := (-1)) hx hb dX9_readFrom_101 (by decide) ?_
          refine ks_ast hx hb hK hP hD hS rfl (k := 39) rfl sx_39 (rg_in g11526 (by decide) (by decide)) dX9_readFrom_102 (fun u H locs hP hD hS => ?_)
          refine wk_iinc (lv' := fun r => [(2, .int r), (0, .ref (a 38)), (1, .ref (a (26 + 2 * q)))]) (e1 := 1) (f := 12) hx hb dX9_readFrom_103 hl (k := 2) rfl (by decide) g11526 (by decide) (fun _ => rfl) (fun r11529 ls hr11529 er11529 hl => ?_)
          refine lv_goto (tgt := 71) hx hb dX9_readFrom_106 (by decide) ?_
          exact ih71 r11529 u _ _ ls (show Rg 0 12 r11529 from rg_w hr11529 (by decide) (by decide)) hP hD hS (lv_sub (l' := [(0, .ref (a 38)), (1, .ref (a (26 + 2 * q))), (2, .int r11529)]) hl [1, 2, 0] rfl) (me_up hm71 er11529 (by decide))
        · have g11530 : Rg 1 12 (L 1 1) := rg_ltr g11526 hL.1 (rg_nle c11527) (by decide)
          refine lv_aload_n hx hb dX9_readFrom_93 rfl (lv_at hl 1 rfl) ?_
          refine lv_iload_n hx hb dX9_readFrom_94 rfl (lv_at hl 2 rfl) ?_
          refine wk_sv (26 + 2 * q) (As := [.int y71_l2]) (rest := [.int y71_l2, .ref (a 39)]) ⟨hx, hb, hml, hown, hts⟩ (k_X6_at l D cI cS a na nc N L u hL hN q hq y71_l2) hKK hP (ci := 6) rfl (gx_sh hq) (cwV 1 hts gX9_readFrom_X6_at rfl rfl rfl (by decide +kernel) ⟨Nat.le_of_ble_eq_true rfl, Nat.le_of_ble_eq_true rfl⟩) rfl hl.1 rfl (Nat.le_of_ble_eq_true rfl) dX9_readFrom_95 ⟨Nat.le_of_ble_eq_true rfl, Nat.le_of_ble_eq_true rfl⟩ (fun r11531 hr11531 => ?_)
          refine lv_goto (tgt := 102) hx hb dX9_readFrom_98 (by decide) ?_
          refine ks_ast hx hb hK hP hD hS rfl (k := 39) rfl sx_39 (rg_in g11526 (by decide) (by decide)) dX9_readFrom_102 (fun u H locs hP hD hS => ?_)
          refine wk_iinc (lv' := fun r => [(2, .int r), (0, .ref (a 38)), (1, .ref (a (26 + 2 * q)))]) (e1 := 1) (f := 12) hx hb dX9_readFrom_103 hl (k := 2) rfl (by decide) g11526 (by decide) (fun _ => rfl) (fun r11532 ls hr11532 er11532 hl => ?_)
          refine lv_goto (tgt := 71) hx hb dX9_readFrom_106 (by decide) ?_
          exact ih71 r11532 u _ _ ls (show Rg 0 12 r11532 from rg_w hr11532 (by decide) (by decide)) hP hD hS (lv_sub (l' := [(0, .ref (a 38)), (1, .ref (a (26 + 2 * q))), (2, .int r11532)]) hl [1, 2, 0] rfl) (me_up hm71 er11532 (by decide))
  have lp18 : ∀ (n18 : Nat) (y18_l2 : Int32) (u : SU) (H : Heap) (locs : List Loc) (ls : Array Slot), Rg 0 12 y18_l2 → va_P D cls (wX cI cS a na nc N L u) H → va_D A (wX cI cS a na nc N L u) → va_S A s.heap H locs → lv_has ls 4 [(0, .ref (a 38)), (1, .ref (a (26 + 2 * q))), (2, .int y18_l2)] → 12 - y18_l2.toInt < (n18 : Int) → W p l e (headSpec wsX9_readFrom ({ frames := 3, cells := 0, slots := 0, locals := 120 })).room s m ([.ref (a 38), .ref (a (26 + 2 * q))]).toArray below meth c H locs 0 0 (MQ below (QF (S := SU) D (wX cI cS a na nc N L u0) (wX cI cS a na nc N L) s.heap.size (fun r _ => Rg 0 1 r ∧ True)) ([.ref (a 38), .ref (a (26 + 2 * q))]).toArray s 0 0 (va_A (wX cI cS a na nc N L u0) s.heap.size)) (F0 m 18 ls []) := by
    intro n18
    induction n18 with
    | zero =>
      intro y18_l2 u H locs ls g18_l2 hP hD hS hl hm18
      exact absurd rfl (me_z g18_l2 hm18)
    | succ n18 ih18 =>
      intro y18_l2 u H locs ls g18_l2 hP hD hS hl hm18
      refine lv_iload_n hx hb dX9_readFrom_18 rfl (lv_at hl 2 rfl) ?_
      refine lv_aload_n hx hb dX9_readFrom_19 rfl (lv_at hl 0 rfl) ?_
      refine va_get (D := D) (ci := 9) (v := .ref (a 1)) (C := RX9) (T := TX9) (N := 6) hx hb hts hin9 hown hK hP 38 rfl rfl 0 (by decide) (hts (.fieldLink RX9 21 "MissedPoints$Told" "net" "LMissedPoints$Net;") (by decide +kernel)) (fun _ h9 => h9) rfl dX9_readFrom_20 ?_
      refine va_getN (D := D) (ci := 2) (v := .int (L 1 1)) (C := RX2) (T := TX2) (N := 3) hx hb hts hin2 hown hK hP 1 rfl rfl 1 (by decide) (va_Nw.use rfl hKK.2.2.2.2.2.2.2.2.2.2.2.2.2.2.2.2.1) (fun _ h9 => h9) rfl dX9_readFrom_23 ?_
      refine lv_icmp_ge (tgt := 69) hx hb dX9_readFrom_26 (by decide) (fun c11533 => ?_) (fun c11533 => ?_)
      · refine lv_iconst (v := 0) hx hb dX9_readFrom_69 (by decide) ?_
        refine lv_istore_n (lv' := [(2, .int 0), (0, .ref (a 38)), (1, .ref (a (26 + 2 * q)))]) hx hb dX9_readFrom_70 rfl hl (by decide) rfl (fun ls hl => ?_)
        exact lp71 13 (0 : Int32) u _ _ ls (by decide : Rg 0 12 (0 : Int32)) hP hD hS (lv_sub (l' := [(0, .ref (a 38)), (1, .ref (a (26 + 2 * q))), (2, .int 0)]) hl [1, 2, 0] rfl) (me_i (by decide : Rg 0 12 (0 : Int32)) (by decide))
      · have g11534 : Rg 1 12 (L 1 1) := rg_ltr g18_l2 hL.1 (rg_nle c11533) (by decide)
        have g11535 : Rg 0 11 y18_l2 := rg_ltl g18_l2 hL.1 (rg_nle c11533) (by decide)
        refine lv_aload_n hx hb dX9_readFrom_29 rfl (lv_at hl 1 rfl) ?_
        refine lv_iload_n hx hb dX9_readFrom_30 rfl (lv_at hl 2 rfl) ?_
        refine wk_sv (26 + 2 * q) (As := [.int y18_l2]) (rest := []) ⟨hx, hb, hml, hown, hts⟩ (k_X6_at l D cI cS a na nc N L u hL hN q hq y18_l2) hKK hP (ci := 6) rfl (gx_sh hq) (cwV 1 hts gX9_readFrom_X6_at rfl rfl rfl (by decide +kernel) ⟨Nat.le_of_ble_eq_true rfl, Nat.le_of_ble_eq_true rfl⟩) rfl hl.1 rfl (Nat.le_of_ble_eq_true rfl) dX9_readFrom_31 ⟨Nat.le_of_ble_eq_true rfl, Nat.le_of_ble_eq_true rfl⟩ (fun r11536 hr11536 => ?_)
        refine lv_istore_n (lv' := [(3, .int r11536), (0, .ref (a 38)), (1, .ref (a (26 + 2 * q))), (2, .int y18_l2)]) hx hb dX9_readFrom_34 rfl hl (by decide) rfl (fun ls hl => ?_)
        refine lv_iload_n hx hb dX9_readFrom_35 rfl (lv_at hl 0 rfl) ?_
        refine lv_iconst (v := (-1)) hx hb dX9_readFrom_36 (by decide) ?_
        refine lv_icmp_eq (tgt := 63) hx hb dX9_readFrom_37 (by decide) (fun c11537 => ?_) (fun c11537 => ?_)
        · have g11538 : Rg (-1) (-1) r11536 := wk_eql hr11536.1 (by decide : Rg (-1) (-1) ((-1) : Int32)) c11537 (by decide)
          refine wk_iinc (lv' := fun r => [(2, .int r), (3, .int r11536), (0, .ref (a 38)), (1, .ref (a (26 + 2 * q)))]) (e1 := 1) (f := 12) hx hb dX9_readFrom_63 hl (k := 3) rfl (by decide) g11535 (by decide) (fun _ => rfl) (fun r11539 ls hr11539 er11539 hl => ?_)
          refine lv_goto (tgt := 18) hx hb dX9_readFrom_66 (by decide) ?_
          exact ih18 r11539 u _ _ ls (show Rg 0 12 r11539 from rg_w hr11539 (by decide) (by decide)) hP hD hS (lv_sub (l' := [(0, .ref (a 38)), (1, .ref (a (26 + 2 * q))), (2, .int r11539)]) hl [2, 3, 0] rfl) (me_up hm18 er11539 (by decide))
        · refine lv_aload_n hx hb dX9_readFrom_40 rfl (lv_at hl 1 rfl) ?_
          refine va_get (D := D) (ci := 9) (v := .ref (a 1)) (C := RX9) (T := TX9) (N := 6) hx hb hts hin9 hown hK hP 38 rfl rfl 0 (by decide) (hts (.fieldLink RX9 21 "MissedPoints$Told" "net" "LMissedPoints$Net;") (by decide +kernel)) (fun _ h9 => h9) rfl dX9_readFrom_41 ?_
          refine lv_iload_n hx hb dX9_readFrom_44 rfl (lv_at hl 3 rfl) ?_
          refine lv_iload_n hx hb dX9_readFrom_45 rfl (lv_at hl 0 rfl) ?_
          refine wk_sv 1 (As := [.int y18_l2, .int r11536]) (rest := []) ⟨hx, hb, hml, hown, hts⟩ (k_X2_joined l D cI cS a na nc N L u hL hN y18_l2 r11536) hKK hP (ci := 2) rfl rfl (cwV 2 hts gX9_readFrom_X2_joined rfl rfl rfl (by decide +kernel) ⟨Nat.le_of_ble_eq_true rfl, Nat.le_of_ble_eq_true rfl⟩) rfl hl.1 rfl (Nat.le_of_ble_eq_true rfl) dX9_readFrom_46 ⟨Nat.le_of_ble_eq_true rfl, Nat.le_of_ble_eq_true rfl⟩ (fun r11540 hr11540 => ?_)
          refine lv_if_eq (tgt := 61) hx hb dX9_readFrom_49 (by decide) (fun c11541 => ?_) (fun c11541 => ?_)
          · have g11542 : Rg 0 0 r11540 := wk_eql hr11540.1 (by decide : Rg 0 0 (0 : Int32)) c11541 (by decide)
            refine lv_iconst (v := 0) hx hb dX9_readFrom_61 (by decide) ?_
            subst hAe
            exact W.zret (v := 0) hx hb hr (by decide) (fun t ht hW => ⟨⟨_, u, rfl, ⟨(by decide : Rg 0 1 (0 : Int32)), trivial⟩, by rw [ht]; exact hP, hD⟩, hS.F ht⟩) hS.2.2 dX9_readFrom_62
          · have g11543 : Rg 0 11 r11536 := (hr11540.2 c11541).2
            have g11544 : Rg 1 1 r11540 := rg_ne_lo (k := 0) hr11540.1 (by decide) c11541 (by decide)
            refine lv_aload_n hx hb dX9_readFrom_52 rfl (lv_at hl 2 rfl) ?_
            refine lv_iload_n hx hb dX9_readFrom_53 rfl (lv_at hl 0 rfl) ?_
            refine wk_sv (26 + 2 * q) (As := [.int r11536]) (rest := []) ⟨hx, hb, hml, hown, hts⟩ (k_X6_at l D cI cS a na nc N L u hL hN q hq r11536) hKK hP (ci := 6) rfl (gx_sh hq) (cwV 1 hts gX9_readFrom_X6_at rfl rfl rfl (by decide +kernel) ⟨Nat.le_of_ble_eq_true rfl, Nat.le_of_ble_eq_true rfl⟩) rfl hl.1 rfl (Nat.le_of_ble_eq_true rfl) dX9_readFrom_54 ⟨Nat.le_of_ble_eq_true rfl, Nat.le_of_ble_eq_true rfl⟩ (fun r11545 hr11545 => ?_)
            refine lv_iload_n hx hb dX9_readFrom_57 rfl (lv_at hl 3 rfl) ?_
            refine lv_icmp_eq (tgt := 63) hx hb dX9_readFrom_58 (by decide) (fun c11546 => ?_) (fun c11546 => ?_)
            · have g11547 : Rg 0 11 r11545 := wk_eql hr11545.1 g11535 c11546 (by decide)
              refine wk_iinc (lv' := fun r => [(2, .int r), (3, .int r11536), (0, .ref (a 38)), (1, .ref (a (26 + 2 * q)))]) (e1 := 1) (f := 12) hx hb dX9_readFrom_63 hl (k := 3) rfl (by decide) g11535 (by decide) (fun _ => rfl) (fun r11548 ls hr11548 er11548 hl => ?_)
              refine lv_goto (tgt := 18) hx hb dX9_readFrom_66 (by decide) ?_
              exact ih18 r11548 u _ _ ls (show Rg 0 12 r11548 from rg_w hr11548 (by decide) (by decide)) hP hD hS (lv_sub (l' := [(0, .ref (a 38)), (1, .ref (a (26 + 2 * q))), (2, .int r11548)]) hl [2, 3, 0] rfl) (me_up hm18 er11548 (by decide))
            · refine lv_iconst (v := 0) hx hb dX9_readFrom_61 (by decide) ?_
              subst hAe
              exact W.zret (v := 0) hx hb hr (by decide) (fun t ht hW => ⟨⟨_, u, rfl, ⟨(by decide : Rg 0 1 (0 : Int32)), trivial⟩, by rw [ht]; exact hP, hD⟩, hS.F ht⟩) hS.2.2 dX9_readFrom_62
  refine lv_aload_n hx hb dX9_readFrom_0 rfl (lv_at hl 1 rfl) ?_
  refine va_getN (D := D) (ci := 6) (v := .int ((L (26 + 2 * q) 2))) (C := RX6) (T := TX6) (N := 3) hx hb hts hin6 hown hK hP (26 + 2 * q) (gx_sh hq) rfl 2 (by decide) (va_Nw.use rfl hKK.2.2.2.2.2.2.2.2.2.2.2.2.2.2.2.1) (fun _ h9 => h9) rfl dX9_readFrom_1 ?_
  refine lv_aload_n hx hb dX9_readFrom_4 rfl (lv_at hl 0 rfl) ?_
  refine va_get (D := D) (ci := 9) (v := .ref (a 1)) (C := RX9) (T := TX9) (N := 6) hx hb hts hin9 hown hK hP 38 rfl rfl 0 (by decide) (hts (.fieldLink RX9 21 "MissedPoints$Told" "net" "LMissedPoints$Net;") (by decide +kernel)) (fun _ h9 => h9) rfl dX9_readFrom_5 ?_
  refine va_getN (D := D) (ci := 2) (v := .int (L 1 1)) (C := RX2) (T := TX2) (N := 3) hx hb hts hin2 hown hK hP 1 rfl rfl 1 (by decide) (va_Nw.use rfl hKK.2.2.2.2.2.2.2.2.2.2.2.2.2.2.2.2.1) (fun _ h9 => h9) rfl dX9_readFrom_8 ?_
  refine lv_icmp_eq (tgt := 16) hx hb dX9_readFrom_11 (by decide) (fun c11549 => ?_) (fun c11549 => ?_)
  · have g11550 : Rg 0 12 ((L (26 + 2 * q) 2)) := wk_eql (hL.sh hq) hL.1 c11549 (by decide)
    refine lv_iconst (v := 0) hx hb dX9_readFrom_16 (by decide) ?_
    refine lv_istore_n (lv' := [(2, .int 0), (0, .ref (a 38)), (1, .ref (a (26 + 2 * q)))]) hx hb dX9_readFrom_17 rfl hl (by decide) rfl (fun ls hl => ?_)
    exact lp18 13 (0 : Int32) u _ _ ls (by decide : Rg 0 12 (0 : Int32)) hP hD hS (lv_sub (l' := [(0, .ref (a 38)), (1, .ref (a (26 + 2 * q))), (2, .int 0)]) hl [1, 2, 0] rfl) (me_i (by decide : Rg 0 12 (0 : Int32)) (by decide))
  · refine lv_iconst (v := 0) hx hb dX9_readFrom_14 (by decide) ?_
    subst hAe
    exact W.zret (v := 0) hx hb hr (by decide) (fun t ht hW => ⟨⟨_, u, rfl, ⟨(by decide : Rg 0 1 (0 : Int32)), trivial⟩, by rw [ht]; exact hP, hD⟩, hS.F ht⟩) hS.2.2 dX9_readFrom_15
set_option maxRecDepth 20000 in
theorem ggX9_hasWayOf_X9_goOn : GoodIn wsX9_hasWayOf wsX9_goOn := goodIn_r _ [8, 1, 3, 2, 9, 10, 11, 12, 13, 14, 15, 16, 17, 18, 19, 4, 5, 6, 7, 20, 21, 22, 23, 24, 25, 26, 27, 28] (by decide +kernel) (by decide +kernel)
set_option maxRecDepth 20000 in
theorem gX9_hasWayOf_X9_goOn : GoodIn wsX9_hasWayOf (wsV RX9 84 RX9 yX9_goOn wsX9_goOn) := goodIn_app (goodIn_of _ (by decide +kernel)) ggX9_hasWayOf_X9_goOn
theorem dX9_hasWayOf_0 : decode cX9_hasWayOf 0 = .ok (.iconst 0, 1) := by decide +kernel
theorem dX9_hasWayOf_1 : decode cX9_hasWayOf 1 = .ok (.istore_n 2, 1) := by decide +kernel
theorem dX9_hasWayOf_10 : decode cX9_hasWayOf 10 = .ok (.if_icmp .ge 39, 3) := by decide +kernel
theorem dX9_hasWayOf_13 : decode cX9_hasWayOf 13 = .ok (.aload_n 0, 1) := by decide +kernel
theorem dX9_hasWayOf_14 : decode cX9_hasWayOf 14 = .ok (.getfield 9, 3) := by decide +kernel
theorem dX9_hasWayOf_17 : decode cX9_hasWayOf 17 = .ok (.iload_n 2, 1) := by decide +kernel
theorem dX9_hasWayOf_18 : decode cX9_hasWayOf 18 = .ok (.iaload, 1) := by decide +kernel
theorem dX9_hasWayOf_19 : decode cX9_hasWayOf 19 = .ok (.ifCond .ge 24, 3) := by decide +kernel
theorem dX9_hasWayOf_2 : decode cX9_hasWayOf 2 = .ok (.iload_n 2, 1) := by decide +kernel
theorem dX9_hasWayOf_22 : decode cX9_hasWayOf 22 = .ok (.aload_n 0, 1) := by decide +kernel
theorem dX9_hasWayOf_23 : decode cX9_hasWayOf 23 = .ok (.getfield 15, 3) := by decide +kernel
theorem dX9_hasWayOf_26 : decode cX9_hasWayOf 26 = .ok (.iconst 0, 1) := by decide +kernel
theorem dX9_hasWayOf_27 : decode cX9_hasWayOf 27 = .ok (.iload_n 2, 1) := by decide +kernel
theorem dX9_hasWayOf_28 : decode cX9_hasWayOf 28 = .ok (.iastore, 1) := by decide +kernel
theorem dX9_hasWayOf_29 : decode cX9_hasWayOf 29 = .ok (.aload_n 0, 1) := by decide +kernel
theorem dX9_hasWayOf_3 : decode cX9_hasWayOf 3 = .ok (.aload_n 0, 1) := by decide +kernel
theorem dX9_hasWayOf_30 : decode cX9_hasWayOf 30 = .ok (.iconst 1, 1) := by decide +kernel
theorem dX9_hasWayOf_31 : decode cX9_hasWayOf 31 = .ok (.iload_n 1, 1) := by decide +kernel
theorem dX9_hasWayOf_32 : decode cX9_hasWayOf 32 = .ok (.iconst 1, 1) := by decide +kernel
theorem dX9_hasWayOf_33 : decode cX9_hasWayOf 33 = .ok (.iload_n 2, 1) := by decide +kernel
theorem dX9_hasWayOf_34 : decode cX9_hasWayOf 34 = .ok (.ishl, 1) := by decide +kernel
theorem dX9_hasWayOf_35 : decode cX9_hasWayOf 35 = .ok (.invokevirtual 84, 3) := by decide +kernel
theorem dX9_hasWayOf_38 : decode cX9_hasWayOf 38 = .ok (.ifCond .eq 5, 3) := by decide +kernel
theorem dX9_hasWayOf_4 : decode cX9_hasWayOf 4 = .ok (.getfield 21, 3) := by decide +kernel
theorem dX9_hasWayOf_41 : decode cX9_hasWayOf 41 = .ok (.iconst 1, 1) := by decide +kernel
theorem dX9_hasWayOf_42 : decode cX9_hasWayOf 42 = .ok (.ireturn, 1) := by decide +kernel
theorem dX9_hasWayOf_43 : decode cX9_hasWayOf 43 = .ok (.iinc 2 1, 3) := by decide +kernel
theorem dX9_hasWayOf_46 : decode cX9_hasWayOf 46 = .ok (.goto (-44), 3) := by decide +kernel
theorem dX9_hasWayOf_49 : decode cX9_hasWayOf 49 = .ok (.iconst 0, 1) := by decide +kernel
theorem dX9_hasWayOf_50 : decode cX9_hasWayOf 50 = .ok (.ireturn, 1) := by decide +kernel
theorem dX9_hasWayOf_7 : decode cX9_hasWayOf 7 = .ok (.getfield 41, 3) := by decide +kernel
set_option maxHeartbeats 4000000 in
set_option maxRecDepth 100000 in
theorem k_X9_hasWayOf (l : Launch) (D : va_G) (cI cS : ClassId) (sz : Nat) (a : Nat → Nat) (na nc N : Nat) (L u0 : SU) (hL : TyX L) (hN : N = 0 ∨ N = 24576) (x0 : Int32) : Met l yX9_hasWayOf wsX9_hasWayOf ({ frames := 15, cells := 0, slots := 0, locals := 600 }) (PQ D cI cS (wX cI cS a na nc N L u0) sz [.ref (a 34), .int x0]) (QF (S := SU) D (wX cI cS a na nc N L u0) (wX cI cS a na nc N L) sz (fun r _ => Rg 0 1 r ∧ True)) 0 0 (va_A (wX cI cS a na nc N L u0) sz) := by
  refine Met.ofW (cc := cX9_hasWayOf) (maxL := 3) (ret := (some .boolean)) (by decide) rfl ?_
  intro p e s m args below meth c s₁ B hml hv
  obtain ⟨rfl, hsz, hP, hKK, hD0⟩ := hv
  have hx := B.exec
  have hb := B.bytes
  have hr := B.returns
  have hts := atoms_spec (ws := wsX9_hasWayOf) B.pre
  have hown : s.vm.findClass RX9 = some m.cls := findClass_of_methodNamed B.named
  have hlocks := B.notSynchronized
  have hK := hKK.1
  have hin2 : ∀ w ∈ wsX20, w ∈ wsX9_hasWayOf := by decide +kernel
  have hin9 : ∀ w ∈ wsX90, w ∈ wsX9_hasWayOf := by decide +kernel
  subst hsz
  have hD := hD0.self (sz := s.heap.size)
  obtain ⟨A, hAe⟩ : ∃ A, A = va_A (wX cI cS a na nc N L u0) s.heap.size := ⟨_, rfl⟩
  rw [← hAe] at hD
  have hA : ∀ q : Nat, s.heap.size ≤ q → A q := fun q h => by rw [hAe]; exact Or.inr h
  have hS : va_S A s.heap s.heap [] := va_S.rf
  have hl := lv_entry ([.ref (a 34), .int x0]) (n := 3) (Nat.le_of_ble_eq_true rfl)
  rw [lg_entry_eq]
  generalize (lg_sl ([.ref (a 34), .int x0]) ++ List.replicate (3 - (lg_sl ([.ref (a 34), .int x0])).length) Slot.unset).toArray = ls at hl ⊢
  have hl : lv_has ls 3 [(0, .ref (a 34)), (1, .int x0)] := hl
  obtain ⟨u, hu9⟩ : ∃ u : SU, u = u0 := ⟨_, rfl⟩
  rw [← hu9] at hP hD
  have lp2 : ∀ (n2 : Nat) (y2_l2 : Int32) (u : SU) (H : Heap) (locs : List Loc) (ls : Array Slot), Rg 0 12 y2_l2 → va_P D cls (wX cI cS a na nc N L u) H → va_D A (wX cI cS a na nc N L u) → va_S A s.heap H locs → lv_has ls 3 [(0, .ref (a 34)), (1, .int x0), (2, .int y2_l2)] → 12 - y2_l2.toInt < (n2 : Int) → W p l e (headSpec wsX9_hasWayOf ({ frames := 15, cells := 0, slots := 0, locals := 600 })).room s m ([.ref (a 34), .int x0]).toArray below meth c H locs 0 0 (MQ below (QF (S := SU) D (wX cI cS a na nc N L u0) (wX cI cS a na nc N L) s.heap.size (fun r _ => Rg 0 1 r ∧ True)) ([.ref (a 34), .int x0]).toArray s 0 0 (va_A (wX cI cS a na nc N L u0) s.heap.size)) (F0 m 2 ls []) := by
    intro n2
    induction n2 with
    | zero =>
      intro y2_l2 u H locs ls g2_l2 hP hD hS hl hm2
      exact absurd rfl (me_z g2_l2 hm2)
    | succ n2 ih2 =>
      intro y2_l2 u H locs ls g2_l2 hP hD hS hl hm2
      refine lv_iload_n hx hb dX9_hasWayOf_2 rfl (lv_at hl 2 rfl) ?_
      refine lv_aload_n hx hb dX9_hasWayOf_3 rfl (lv_at hl 0 rfl) ?_
      refine va_get (D := D) (ci := 9) (v := .ref (a 1)) (C := RX9) (T := TX9) (N := 6) hx hb hts hin9 hown hK hP 34 rfl rfl 0 (by decide) (hts (.fieldLink RX9 21 "MissedPoints$Told" "net" "LMissedPoints$Net;") (by decide +kernel)) (fun _ h9 => h9) rfl dX9_hasWayOf_4 ?_
      refine va_getN (D := D) (ci := 2) (v := .int (L 1 1)) (C := RX2) (T := TX2) (N := 3) hx hb hts hin2 hown hK hP 1 rfl rfl 1 (by decide) (va_Nw.use rfl hKK.2.2.2.2.2.2.2.2.2.2.2.2.2.2.2.2.1) (fun _ h9 => h9) rfl dX9_hasWayOf_7 ?_
      refine lv_icmp_ge (tgt := 49) hx hb dX9_hasWayOf_10 (by decide) (fun c11670 => ?_) (fun c11670 => ?_)
      · refine lv_iconst (v := 0) hx hb dX9_hasWayOf_49 (by decide) ?_
        subst hAe
        exact W.zret (v := 0) hx hb hr (by decide) (fun t ht hW => ⟨⟨_, u, rfl, ⟨(by decide : Rg 0 1 (0 : Int32)), trivial⟩, by rw [ht]; exact hP, hD⟩, hS.F ht⟩) hS.2.2 dX9_hasWayOf_50
      · have g11671 : Rg 1 12 (L 1 1) := rg_ltr g2_l2 hL.1 (rg_nle c11670) (by decide)
        have g11672 : Rg 0 11 y2_l2 := rg_ltl g2_l2 hL.1 (rg_nle c11670) (by decide)
        refine lv_aload_n hx hb dX9_hasWayOf_13 rfl (lv_at hl 0 rfl) ?_
        refine va_get (D := D) (ci := 9) (v := .ref (a 35)) (C := RX9) (T := TX9) (N := 6) hx hb hts hin9 hown hK hP 34 rfl rfl 2 (by decide) (hts (.fieldLink RX9 9 "MissedPoints$Told" "mates" "[I") (by decide +kernel)) (fun _ h9 => h9) rfl dX9_hasWayOf_14 ?_
        refine lv_iload_n hx hb dX9_hasWayOf_17 rfl (lv_at hl 2 rfl) ?_
        refine wk_aldA hx hb hK hP 35 0 rfl rfl (rg_in g11672 (by decide) (by decide)) dX9_hasWayOf_18 (fun r11673 => ?_)
        refine lv_if_ge (tgt := 43) hx hb dX9_hasWayOf_19 (by decide) (fun c11674 => ?_) (fun c11674 => ?_)
        · have g11675 : Rg 0 2147483647 r11673 := rg_ler (by decide : Rg 0 0 (0 : Int32)) (rg_any r11673) c11674 (by decide)
          refine wk_iinc (lv' := fun r => [(2, .int r), (0, .ref (a 34)), (1, .int x0)]) (e1 := 1) (f := 12) hx hb dX9_hasWayOf_43 hl (k := 2) rfl (by decide) g11672 (by decide) (fun _ => rfl) (fun r11676 ls hr11676 er11676 hl => ?_)
          refine lv_goto (tgt := 2) hx hb dX9_hasWayOf_46 (by decide) ?_
          exact ih2 r11676 u _ _ ls (show Rg 0 12 r11676 from rg_w hr11676 (by decide) (by decide)) hP hD hS (lv_sub (l' := [(0, .ref (a 34)), (1, .int x0), (2, .int r11676)]) hl [1, 2, 0] rfl) (me_up hm2 er11676 (by decide))
        · have g11677 : Rg (-2147483648) (-1) r11673 := rg_ltl (rg_any r11673) (by decide : Rg 0 0 (0 : Int32)) (rg_nle c11674) (by decide)
          refine lv_aload_n hx hb dX9_hasWayOf_22 rfl (lv_at hl 0 rfl) ?_
          refine va_get (D := D) (ci := 9) (v := .ref (a 36)) (C := RX9) (T := TX9) (N := 6) hx hb hts hin9 hown hK hP 34 rfl rfl 3 (by decide) (hts (.fieldLink RX9 15 "MissedPoints$Told" "row" "[I") (by decide +kernel)) (fun _ h9 => h9) rfl dX9_hasWayOf_23 ?_
          refine lv_iconst (v := 0) hx hb dX9_hasWayOf_26 (by decide) ?_
          refine lv_iload_n hx hb dX9_hasWayOf_27 rfl (lv_at hl 2 rfl) ?_
          refine ks_ast hx hb hK hP hD hS rfl (k := 36) rfl sx_36 (rg_in (by decide : Rg 0 0 (0 : Int32)) (by decide) (by decide)) dX9_hasWayOf_28 (fun u H locs hP hD hS => ?_)
          refine lv_aload_n hx hb dX9_hasWayOf_29 rfl (lv_at hl 0 rfl) ?_
          refine lv_iconst (v := 1) hx hb dX9_hasWayOf_30 (by decide) ?_
          refine lv_iload_n hx hb dX9_hasWayOf_31 rfl (lv_at hl 1 rfl) ?_
          refine lv_iconst (v := 1) hx hb dX9_hasWayOf_32 (by decide) ?_
          refine lv_iload_n hx hb dX9_hasWayOf_33 rfl (lv_at hl 2 rfl) ?_
          refine wk_ishl1 (f := 2048) hx hb dX9_hasWayOf_34 g11672 (by decide) (fun r11678 hr11678 qr11678 => ?_)
          refine wk_qi (wX cI cS a na nc N L) u (As := [.int 1, .int x0, .int r11678]) (rest := []) ⟨hx, hb, hml, hown, hts⟩ (k_X9_goOn l D cI cS _ a na nc N L u hL hN (1 : Int32) x0 r11678 (by decide : Rg 1 1 (1 : Int32))) hKK hP hD hS hA 34 (ci := 9) rfl rfl (cwV 3 hts gX9_hasWayOf_X9_goOn rfl rfl rfl (by decide +kernel) ⟨Nat.le_of_ble_eq_true rfl, Nat.le_of_ble_eq_true rfl⟩) rfl hl.1 rfl (Nat.le_of_ble_eq_true rfl) dX9_hasWayOf_35 ⟨Nat.le_of_ble_eq_true rfl, Nat.le_of_ble_eq_true rfl⟩ (fun r11679 u H locs hr11679 hP hD hS => ?_)
          refine lv_if_eq (tgt := 43) hx hb dX9_hasWayOf_38 (by decide) (fun c11680 => ?_) (fun c11680 => ?_)
          · have g11681 : Rg 0 0 r11679 := wk_eql hr11679.1 (by decide : Rg 0 0 (0 : Int32)) c11680 (by decide)
            refine wk_iinc (lv' := fun r => [(2, .int r), (0, .ref (a 34)), (1, .int x0)]) (e1 := 1) (f := 12) hx hb dX9_hasWayOf_43 hl (k := 2) rfl (by decide) g11672 (by decide) (fun _ => rfl) (fun r11682 ls hr11682 er11682 hl => ?_)
            refine lv_goto (tgt := 2) hx hb dX9_hasWayOf_46 (by decide) ?_
            exact ih2 r11682 u _ _ ls (show Rg 0 12 r11682 from rg_w hr11682 (by decide) (by decide)) hP hD hS (lv_sub (l' := [(0, .ref (a 34)), (1, .int x0), (2, .int r11682)]) hl [1, 2, 0] rfl) (me_up hm2 er11682 (by decide))
          · have g11683 : Rg 1 1 r11679 := rg_ne_lo (k := 0) hr11679.1 (by decide) c11680 (by decide)
            refine lv_iconst (v := 1) hx hb dX9_hasWayOf_41 (by decide) ?_
            subst hAe
            exact W.zret (v := 1) hx hb hr (by decide) (fun t ht hW => ⟨⟨_, u, rfl, ⟨(by decide : Rg 0 1 (1 : Int32)), trivial⟩, by rw [ht]; exact hP, hD⟩, hS.F ht⟩) hS.2.2 dX9_hasWayOf_42
  refine lv_iconst (v := 0) hx hb dX9_hasWayOf_0 (by decide) ?_
  refine lv_istore_n (lv' := [(2, .int 0), (0, .ref (a 34)), (1, .int x0)]) hx hb dX9_hasWayOf_1 rfl hl (by decide) rfl (fun ls hl => ?_)
  exact lp2 13 (0 : Int32) u _ _ ls (by decide : Rg 0 12 (0 : Int32)) hP hD hS (lv_sub (l' := [(0, .ref (a 34)), (1, .int x0), (2, .int 0)]) hl [1, 2, 0] rfl) (me_i (by decide : Rg 0 12 (0 : Int32)) (by decide))
set_option maxRecDepth 20000 in
theorem ggX9_seekWay_X2_all : GoodIn wsX9_seekWay wsX2_all := goodIn_r _ [25, 26, 89, 90, 91] (by decide +kernel) (by decide +kernel)
set_option maxRecDepth 20000 in
theorem gX9_seekWay_X2_all : GoodIn wsX9_seekWay (wsV RX9 74 RX2 yX2_all wsX2_all) := goodIn_app (goodIn_of _ (by decide +kernel)) ggX9_seekWay_X2_all
set_option maxRecDepth 20000 in
theorem ggX9_seekWay_X3_best : GoodIn wsX9_seekWay wsX3_best := goodIn_r _ [31, 32, 33, 34, 30, 35, 36, 37, 38, 39, 40, 41, 42, 43, 44, 45, 46, 47, 48, 49, 50, 51, 52, 16, 53, 54, 55, 56, 57, 58, 59, 60, 15, 17, 18, 19, 20, 61, 62, 63, 64, 92, 93, 94, 95, 89, 90, 91, 96, 97] (by decide +kernel) (by decide +kernel)
set_option maxRecDepth 20000 in
theorem gX9_seekWay_X3_best : GoodIn wsX9_seekWay (wsV RX9 77 RX3 yX3_best wsX3_best) := goodIn_app (goodIn_of _ (by decide +kernel)) ggX9_seekWay_X3_best
set_option maxRecDepth 20000 in
theorem ggX9_seekWay_X9_hasWayOf : GoodIn wsX9_seekWay wsX9_hasWayOf := goodIn_r _ [68, 3, 13, 69, 70, 71, 72, 7, 73, 74, 75, 76, 24, 77, 78, 79, 80, 81, 82, 26, 83, 84, 85, 86, 87, 88, 89, 90, 91] (by decide +kernel) (by decide +kernel)
set_option maxRecDepth 20000 in
theorem gX9_seekWay_X9_hasWayOf : GoodIn wsX9_seekWay (wsV RX9 80 RX9 yX9_hasWayOf wsX9_hasWayOf) := goodIn_app (goodIn_of _ (by decide +kernel)) ggX9_seekWay_X9_hasWayOf
set_option maxRecDepth 20000 in
theorem ggX9_seekWay_X9_lineCount : GoodIn wsX9_seekWay wsX9_lineCount := goodIn_r _ [8, 3, 9, 10, 11, 7, 12, 13, 14, 15, 16, 17, 18, 19, 20, 83, 84, 85, 86, 87, 88, 89, 90, 91] (by decide +kernel) (by decide +kernel)
set_option maxRecDepth 20000 in
theorem gX9_seekWay_X9_lineCount : GoodIn wsX9_seekWay (wsV RX9 71 RX9 yX9_lineCount wsX9_lineCount) := goodIn_app (goodIn_of _ (by decide +kernel)) ggX9_seekWay_X9_lineCount
theorem dX9_seekWay_0 : decode cX9_seekWay 0 = .ok (.aload_n 0, 1) := by decide +kernel
theorem dX9_seekWay_1 : decode cX9_seekWay 1 = .ok (.iconst 0, 1) := by decide +kernel
theorem dX9_seekWay_10 : decode cX9_seekWay 10 = .ok (.getfield 25, 3) := by decide +kernel
theorem dX9_seekWay_13 : decode cX9_seekWay 13 = .ok (.aload_n 0, 1) := by decide +kernel
theorem dX9_seekWay_14 : decode cX9_seekWay 14 = .ok (.getfield 21, 3) := by decide +kernel
theorem dX9_seekWay_17 : decode cX9_seekWay 17 = .ok (.invokevirtual 74, 3) := by decide +kernel
theorem dX9_seekWay_2 : decode cX9_seekWay 2 = .ok (.putfield 68, 3) := by decide +kernel
theorem dX9_seekWay_20 : decode cX9_seekWay 20 = .ok (.invokevirtual 77, 3) := by decide +kernel
theorem dX9_seekWay_23 : decode cX9_seekWay 23 = .ok (.if_icmp .lt 5, 3) := by decide +kernel
theorem dX9_seekWay_26 : decode cX9_seekWay 26 = .ok (.iconst 0, 1) := by decide +kernel
theorem dX9_seekWay_27 : decode cX9_seekWay 27 = .ok (.ireturn, 1) := by decide +kernel
theorem dX9_seekWay_28 : decode cX9_seekWay 28 = .ok (.iconst 2, 1) := by decide +kernel
theorem dX9_seekWay_29 : decode cX9_seekWay 29 = .ok (.istore_n 1, 1) := by decide +kernel
theorem dX9_seekWay_30 : decode cX9_seekWay 30 = .ok (.iload_n 1, 1) := by decide +kernel
theorem dX9_seekWay_31 : decode cX9_seekWay 31 = .ok (.aload_n 0, 1) := by decide +kernel
theorem dX9_seekWay_32 : decode cX9_seekWay 32 = .ok (.getfield 21, 3) := by decide +kernel
theorem dX9_seekWay_35 : decode cX9_seekWay 35 = .ok (.getfield 41, 3) := by decide +kernel
theorem dX9_seekWay_38 : decode cX9_seekWay 38 = .ok (.if_icmp .gt 29, 3) := by decide +kernel
theorem dX9_seekWay_41 : decode cX9_seekWay 41 = .ok (.aload_n 0, 1) := by decide +kernel
theorem dX9_seekWay_42 : decode cX9_seekWay 42 = .ok (.getfield 68, 3) := by decide +kernel
theorem dX9_seekWay_45 : decode cX9_seekWay 45 = .ok (.ifCond .ne 22, 3) := by decide +kernel
theorem dX9_seekWay_48 : decode cX9_seekWay 48 = .ok (.aload_n 0, 1) := by decide +kernel
theorem dX9_seekWay_49 : decode cX9_seekWay 49 = .ok (.iload_n 1, 1) := by decide +kernel
theorem dX9_seekWay_5 : decode cX9_seekWay 5 = .ok (.aload_n 0, 1) := by decide +kernel
theorem dX9_seekWay_50 : decode cX9_seekWay 50 = .ok (.invokevirtual 80, 3) := by decide +kernel
theorem dX9_seekWay_53 : decode cX9_seekWay 53 = .ok (.ifCond .eq 8, 3) := by decide +kernel
theorem dX9_seekWay_56 : decode cX9_seekWay 56 = .ok (.aload_n 0, 1) := by decide +kernel
theorem dX9_seekWay_57 : decode cX9_seekWay 57 = .ok (.iload_n 1, 1) := by decide +kernel
theorem dX9_seekWay_58 : decode cX9_seekWay 58 = .ok (.putfield 68, 3) := by decide +kernel
theorem dX9_seekWay_6 : decode cX9_seekWay 6 = .ok (.invokevirtual 71, 3) := by decide +kernel
theorem dX9_seekWay_61 : decode cX9_seekWay 61 = .ok (.iinc 1 2, 3) := by decide +kernel
theorem dX9_seekWay_64 : decode cX9_seekWay 64 = .ok (.goto (-34), 3) := by decide +kernel
theorem dX9_seekWay_67 : decode cX9_seekWay 67 = .ok (.aload_n 0, 1) := by decide +kernel
theorem dX9_seekWay_68 : decode cX9_seekWay 68 = .ok (.getfield 68, 3) := by decide +kernel
theorem dX9_seekWay_71 : decode cX9_seekWay 71 = .ok (.ireturn, 1) := by decide +kernel
theorem dX9_seekWay_9 : decode cX9_seekWay 9 = .ok (.aload_n 0, 1) := by decide +kernel
set_option maxHeartbeats 4000000 in
set_option maxRecDepth 100000 in
theorem k_X9_seekWay (l : Launch) (D : va_G) (cI cS : ClassId) (sz : Nat) (a : Nat → Nat) (na nc N : Nat) (L u0 : SU) (hL : TyX L) (hN : N = 0 ∨ N = 24576) : Met l yX9_seekWay wsX9_seekWay ({ frames := 16, cells := 0, slots := 0, locals := 640 }) (PQ D cI cS (wX cI cS a na nc N L u0) sz [.ref (a 34)]) (QF (S := SU) D (wX cI cS a na nc N L u0) (wX cI cS a na nc N L) sz (fun r _ => Rg (-2147483648) 2147483647 r ∧ True)) 0 0 (va_A (wX cI cS a na nc N L u0) sz) := by
  refine Met.ofW (cc := cX9_seekWay) (maxL := 2) (ret := (some .int)) (by decide) rfl ?_
  intro p e s m args below meth c s₁ B hml hv
  obtain ⟨rfl, hsz, hP, hKK, hD0⟩ := hv
  have hx := B.exec
  have hb := B.bytes
  have hr := B.returns
  have hts := atoms_spec (ws := wsX9_seekWay) B.pre
  have hown : s.vm.findClass RX9 = some m.cls := findClass_of_methodNamed B.named
  have hlocks := B.notSynchronized
  have hK := hKK.1
  have hin2 : ∀ w ∈ wsX20, w ∈ wsX9_seekWay := by decide +kernel
  have hin9 : ∀ w ∈ wsX90, w ∈ wsX9_seekWay := by decide +kernel
  subst hsz
  have hD := hD0.self (sz := s.heap.size)
  obtain ⟨A, hAe⟩ : ∃ A, A = va_A (wX cI cS a na nc N L u0) s.heap.size := ⟨_, rfl⟩
  rw [← hAe] at hD
  have hA : ∀ q : Nat, s.heap.size ≤ q → A q := fun q h => by rw [hAe]; exact Or.inr h
  have hS : va_S A s.heap s.heap [] := va_S.rf
  have hl := lv_entry ([.ref (a 34)]) (n := 2) (Nat.le_of_ble_eq_true rfl)
  rw [lg_entry_eq]
  generalize (lg_sl ([.ref (a 34)]) ++ List.replicate (2 - (lg_sl ([.ref (a 34)])).length) Slot.unset).toArray = ls at hl ⊢
  have hl : lv_has ls 2 [(0, .ref (a 34))] := hl
  obtain ⟨u, hu9⟩ : ∃ u : SU, u = u0 := ⟨_, rfl⟩
  rw [← hu9] at hP hD
  have lp30 : ∀ (n30 : Nat) (y30_l1 : Int32) (u : SU) (H : Heap) (locs : List Loc) (ls : Array Slot), Rg 2 20 y30_l1 → va_P D cls (wX cI cS a na nc N L u) H → va_D A (wX cI cS a na nc N L u) → va_S A s.heap H locs → lv_has ls 2 [(0, .ref (a 34)), (1, .int y30_l1)] → 20 - y30_l1.toInt < (n30 : Int) → W p l e (headSpec wsX9_seekWay ({ frames := 16, cells := 0, slots := 0, locals := 640 })).room s m ([.ref (a 34)]).toArray below meth c H locs 0 0 (MQ below (QF (S := SU) D (wX cI cS a na nc N L u0) (wX cI cS a na nc N L) s.heap.size (fun r _ => Rg (-2147483648) 2147483647 r ∧ True)) ([.ref (a 34)]).toArray s 0 0 (va_A (wX cI cS a na nc N L u0) s.heap.size)) (F0 m 30 ls []) := by
    intro n30
    induction n30 with
    | zero =>
      intro y30_l1 u H locs ls g30_l1 hP hD hS hl hm30
      exact absurd rfl (me_z g30_l1 hm30)
    | succ n30 ih30 =>
      intro y30_l1 u H locs ls g30_l1 hP hD hS hl hm30
      refine lv_iload_n hx hb dX9_seekWay_30 rfl (lv_at hl 1 rfl) ?_
      refine lv_aload_n hx hb dX9_seekWay_31 rfl (lv_at hl 0 rfl) ?_
      refine va_get (D := D) (ci := 9) (v := .ref (a 1)) (C := RX9) (T := TX9) (N := 6) hx hb hts hin9 hown hK hP 34 rfl rfl 0 (by decide) (hts (.fieldLink RX9 21 "MissedPoints$Told" "net" "LMissedPoints$Net;") (by decide +kernel)) (fun _ h9 => h9) rfl dX9_seekWay_32 ?_
      refine va_getN (D := D) (ci := 2) (v := .int (L 1 1)) (C := RX2) (T := TX2) (N := 3) hx hb hts hin2 hown hK hP 1 rfl rfl 1 (by decide) (va_Nw.use rfl hKK.2.2.2.2.2.2.2.2.2.2.2.2.2.2.2.2.1) (fun _ h9 => h9) rfl dX9_seekWay_35 ?_
      refine lv_icmp_gt (tgt := 67) hx hb dX9_seekWay_38 (by decide) (fun c11822 => ?_) (fun c11822 => ?_)
      · refine lv_aload_n hx hb dX9_seekWay_67 rfl (lv_at hl 0 rfl) ?_
        refine va_get (D := D) (ci := 9) (v := .int (u 34 5)) (C := RX9) (T := TX9) (N := 6) hx hb hts hin9 hown hK hP 34 rfl rfl 5 (by decide) (hts (.fieldLink RX9 68 "MissedPoints$Told" "rowLength" "I") (by decide +kernel)) (fun _ h9 => h9) rfl dX9_seekWay_68 ?_
        refine wk_any (fun r11823 => ?_)
        subst hAe
        exact W.iret (v := r11823) hx hb hr (fun t ht hW => ⟨⟨_, u, rfl, ⟨(rg_any r11823), trivial⟩, by rw [ht]; exact hP, hD⟩, hS.F ht⟩) hS.2.2 dX9_seekWay_71
      · have g11824 : Rg 2 12 (L 1 1) := rg_ler g30_l1 hL.1 (rg_nlt c11822) (by decide)
        have g11825 : Rg 2 12 y30_l1 := rg_lel g30_l1 hL.1 (rg_nlt c11822) (by decide)
        refine lv_aload_n hx hb dX9_seekWay_41 rfl (lv_at hl 0 rfl) ?_
        refine va_get (D := D) (ci := 9) (v := .int (u 34 5)) (C := RX9) (T := TX9) (N := 6) hx hb hts hin9 hown hK hP 34 rfl rfl 5 (by decide) (hts (.fieldLink RX9 68 "MissedPoints$Told" "rowLength" "I") (by decide +kernel)) (fun _ h9 => h9) rfl dX9_seekWay_42 ?_
        refine wk_any (fun r11826 => ?_)
        refine lv_if_ne (tgt := 67) hx hb dX9_seekWay_45 (by decide) (fun c11827 => ?_) (fun c11827 => ?_)
        · refine lv_aload_n hx hb dX9_seekWay_67 rfl (lv_at hl 0 rfl) ?_
          refine va_get (D := D) (ci := 9) (v := .int (u 34 5)) (C := RX9) (T := TX9) (N := 6) hx hb hts hin9 hown hK hP 34 rfl rfl 5 (by decide) (hts (.fieldLink RX9 68 "MissedPoints$Told" "rowLength" "I") (by decide +kernel)) (fun _ h9 => h9) rfl dX9_seekWay_68 ?_
          refine wk_any (fun r11828 => ?_)
          subst hAe
          exact W.iret (v := r11828) hx hb hr (fun t ht hW => ⟨⟨_, u, rfl, ⟨(rg_any r11828), trivial⟩, by rw [ht]; exact hP, hD⟩, hS.F ht⟩) hS.2.2 dX9_seekWay_71
        · have g11829 : Rg 0 0 r11826 := wk_eql (rg_any r11826) (by decide : Rg 0 0 (0 : Int32)) c11827 (by decide)
          refine lv_aload_n hx hb dX9_seekWay_48 rfl (lv_at hl 0 rfl) ?_
          refine lv_iload_n hx hb dX9_seekWay_49 rfl (lv_at hl 1 rfl) ?_
          refine wk_qi (wX cI cS a na nc N L) u (As := [.int y30_l1]) (rest := []) ⟨hx, hb, hml, hown, hts⟩ (k_X9_hasWayOf l D cI cS _ a na nc N L u hL hN y30_l1) hKK hP hD hS hA 34 (ci := 9) rfl rfl (cwV 1 hts gX9_seekWay_X9_hasWayOf rfl rfl rfl (by decide +kernel) ⟨Nat.le_of_ble_eq_true rfl, Nat.le_of_ble_eq_true rfl⟩) rfl hl.1 rfl (Nat.le_of_ble_eq_true rfl) dX9_seekWay_50 ⟨Nat.le_of_ble_eq_true rfl, Nat.le_of_ble_eq_true rfl⟩ (fun r11830 u H locs hr11830 hP hD hS => ?_)
          refine lv_if_eq (tgt := 61) hx hb dX9_seekWay_53 (by decide) (fun c11831 => ?_) (fun c11831 => ?_)
          · have g11832 : Rg 0 0 r11830 := wk_eql hr11830.1 (by decide : Rg 0 0 (0 : Int32)) c11831 (by decide)
            refine wk_iinc (lv' := fun r => [(1, .int r), (0, .ref (a 34))]) (e1 := 4) (f := 14) hx hb dX9_seekWay_61 hl (k := 1) rfl (by decide) g11825 (by decide) (fun _ => rfl) (fun r11833 ls hr11833 er11833 hl => ?_)
            refine lv_goto (tgt := 30) hx hb dX9_seekWay_64 (by decide) ?_
            exact ih30 r11833 u _ _ ls (show Rg 2 20 r11833 from rg_w hr11833 (by decide) (by decide)) hP hD hS (lv_sub (l' := [(0, .ref (a 34)), (1, .int r11833)]) hl [1, 0] rfl) (me_up hm30 er11833 (by decide))
          · have g11834 : Rg 1 1 r11830 := rg_ne_lo (k := 0) hr11830.1 (by decide) c11831 (by decide)
            refine lv_aload_n hx hb dX9_seekWay_56 rfl (lv_at hl 0 rfl) ?_
            refine lv_iload_n hx hb dX9_seekWay_57 rfl (lv_at hl 1 rfl) ?_
            refine va_put (D := D) (ci := 9) (v := .int y30_l1) (ty := .int) (C := RX9) (T := TX9) (N := 6) hx hb hts hin9 tyX9 tyX9_ok nmX9 hown hK hP hD hS 34 rfl rfl 5 (by decide) (hts (.fieldLink RX9 68 "MissedPoints$Told" "rowLength" "I") (by decide +kernel)) (fun _ h9 => h9) rfl (by decide +kernel) rfl rfl (Nat.le_of_ble_eq_true rfl) dX9_seekWay_58 (fun H locs hP hD hS => ?_)
            rw [sxf_34_5] at hP hD
            generalize sU u 34 _ = u at hP hD
            refine wk_iinc (lv' := fun r => [(1, .int r), (0, .ref (a 34))]) (e1 := 4) (f := 14) hx hb dX9_seekWay_61 hl (k := 1) rfl (by decide) g11825 (by decide) (fun _ => rfl) (fun r11835 ls hr11835 er11835 hl => ?_)
            refine lv_goto (tgt := 30) hx hb dX9_seekWay_64 (by decide) ?_
            exact ih30 r11835 u _ _ ls (show Rg 2 20 r11835 from rg_w hr11835 (by decide) (by decide)) hP hD hS (lv_sub (l' := [(0, .ref (a 34)), (1, .int r11835)]) hl [1, 0] rfl) (me_up hm30 er11835 (by decide))
  refine lv_aload_n hx hb dX9_seekWay_0 rfl (lv_at hl 0 rfl) ?_
  refine lv_iconst (v := 0) hx hb dX9_seekWay_1 (by decide) ?_
  refine va_put (D := D) (ci := 9) (v := .int 0) (ty := .int) (C := RX9) (T := TX9) (N := 6) hx hb hts hin9 tyX9 tyX9_ok nmX9 hown hK hP hD hS 34 rfl rfl 5 (by decide) (hts (.fieldLink RX9 68 "MissedPoints$Told" "rowLength" "I") (by decide +kernel)) (fun _ h9 => h9) rfl (by decide +kernel) rfl rfl (Nat.le_of_ble_eq_true rfl) dX9_seekWay_2 (fun H locs hP hD hS => ?_)
  rw [sxf_34_5] at hP hD
  generalize sU u 34 _ = u at hP hD
  refine lv_aload_n hx hb dX9_seekWay_5 rfl (lv_at hl 0 rfl) ?_
  refine wk_sv 34 (As := []) (rest := []) ⟨hx, hb, hml, hown, hts⟩ (k_X9_lineCount l D cI cS a na nc N L u hL hN) hKK hP (ci := 9) rfl rfl (cwV 0 hts gX9_seekWay_X9_lineCount rfl rfl rfl (by decide +kernel) ⟨Nat.le_of_ble_eq_true rfl, Nat.le_of_ble_eq_true rfl⟩) rfl hl.1 rfl (Nat.le_of_ble_eq_true rfl) dX9_seekWay_6 ⟨Nat.le_of_ble_eq_true rfl, Nat.le_of_ble_eq_true rfl⟩ (fun r11836 hr11836 => ?_)
  refine lv_aload_n hx hb dX9_seekWay_9 rfl (lv_at hl 0 rfl) ?_
  refine va_get (D := D) (ci := 9) (v := .ref (a 7)) (C := RX9) (T := TX9) (N := 6) hx hb hts hin9 hown hK hP 34 rfl rfl 1 (by decide) (hts (.fieldLink RX9 25 "MissedPoints$Told" "pairs" "LMissedPoints$Pairs;") (by decide +kernel)) (fun _ h9 => h9) rfl dX9_seekWay_10 ?_
  refine lv_aload_n hx hb dX9_seekWay_13 rfl (lv_at hl 0 rfl) ?_
  refine va_get (D := D) (ci := 9) (v := .ref (a 1)) (C := RX9) (T := TX9) (N := 6) hx hb hts hin9 hown hK hP 34 rfl rfl 0 (by decide) (hts (.fieldLink RX9 21 "MissedPoints$Told" "net" "LMissedPoints$Net;") (by decide +kernel)) (fun _ h9 => h9) rfl dX9_seekWay_14 ?_
  refine wk_sv 1 (As := []) (rest := [.ref (a 7), .int r11836]) ⟨hx, hb, hml, hown, hts⟩ (k_X2_all l D cI cS a na nc N L u hL hN) hKK hP (ci := 2) rfl rfl (cwV 0 hts gX9_seekWay_X2_all rfl rfl rfl (by decide +kernel) ⟨Nat.le_of_ble_eq_true rfl, Nat.le_of_ble_eq_true rfl⟩) rfl hl.1 rfl (Nat.le_of_ble_eq_true rfl) dX9_seekWay_17 ⟨Nat.le_of_ble_eq_true rfl, Nat.le_of_ble_eq_true rfl⟩ (fun r11837 hr11837 => ?_)
  refine wk_qi (wX cI cS a na nc N L) u (As := [.int r11837]) (rest := [.int r11836]) ⟨hx, hb, hml, hown, hts⟩ (k_X3_best l D cI cS _ a na nc N L u hL hN r11837) hKK hP hD hS hA 7 (ci := 3) rfl rfl (cwV 1 hts gX9_seekWay_X3_best rfl rfl rfl (by decide +kernel) ⟨Nat.le_of_ble_eq_true rfl, Nat.le_of_ble_eq_true rfl⟩) rfl hl.1 rfl (Nat.le_of_ble_eq_true rfl) dX9_seekWay_20 ⟨Nat.le_of_ble_eq_true rfl, Nat.le_of_ble_eq_true rfl⟩ (fun r11838 u H locs hr11838 hP hD hS => ?_)
  refine lv_icmp_lt (tgt := 28) hx hb dX9_seekWay_23 (by decide) (fun c11839 => ?_) (fun c11839 => ?_)
  · have g11840 : Rg (-2147483648) 65548 r11836 := rg_ltl hr11836.1 hr11838.1 c11839 (by decide)
    refine lv_iconst (v := 2) hx hb dX9_seekWay_28 (by decide) ?_
    refine lv_istore_n (lv' := [(1, .int 2), (0, .ref (a 34))]) hx hb dX9_seekWay_29 rfl hl (by decide) rfl (fun ls hl => ?_)
    exact lp30 19 (2 : Int32) u _ _ ls (by decide : Rg 2 20 (2 : Int32)) hP hD hS (lv_sub (l' := [(0, .ref (a 34)), (1, .int 2)]) hl [1, 0] rfl) (me_i (by decide : Rg 2 20 (2 : Int32)) (by decide))
  · have g11841 : Rg 0 2147483647 r11836 := rg_ler hr11838.1 hr11836.1 (rg_nlt c11839) (by decide)
    refine lv_iconst (v := 0) hx hb dX9_seekWay_26 (by decide) ?_
    subst hAe
    exact W.iret (v := 0) hx hb hr (fun t ht hW => ⟨⟨_, u, rfl, ⟨(by decide : Rg (-2147483648) 2147483647 (0 : Int32)), trivial⟩, by rw [ht]; exact hP, hD⟩, hS.F ht⟩) hS.2.2 dX9_seekWay_27
theorem dX9_wayAt_0 : decode cX9_wayAt 0 = .ok (.iload_n 1, 1) := by decide +kernel
theorem dX9_wayAt_1 : decode cX9_wayAt 1 = .ok (.ifCond .lt 26, 3) := by decide +kernel
theorem dX9_wayAt_12 : decode cX9_wayAt 12 = .ok (.iload_n 1, 1) := by decide +kernel
theorem dX9_wayAt_13 : decode cX9_wayAt 13 = .ok (.bipush 12, 2) := by decide +kernel
theorem dX9_wayAt_15 : decode cX9_wayAt 15 = .ok (.if_icmp .ge 12, 3) := by decide +kernel
theorem dX9_wayAt_18 : decode cX9_wayAt 18 = .ok (.aload_n 0, 1) := by decide +kernel
theorem dX9_wayAt_19 : decode cX9_wayAt 19 = .ok (.getfield 15, 3) := by decide +kernel
theorem dX9_wayAt_22 : decode cX9_wayAt 22 = .ok (.iload_n 1, 1) := by decide +kernel
theorem dX9_wayAt_23 : decode cX9_wayAt 23 = .ok (.iaload, 1) := by decide +kernel
theorem dX9_wayAt_24 : decode cX9_wayAt 24 = .ok (.goto 4, 3) := by decide +kernel
theorem dX9_wayAt_27 : decode cX9_wayAt 27 = .ok (.iconst (-1), 1) := by decide +kernel
theorem dX9_wayAt_28 : decode cX9_wayAt 28 = .ok (.ireturn, 1) := by decide +kernel
theorem dX9_wayAt_4 : decode cX9_wayAt 4 = .ok (.iload_n 1, 1) := by decide +kernel
theorem dX9_wayAt_5 : decode cX9_wayAt 5 = .ok (.aload_n 0, 1) := by decide +kernel
theorem dX9_wayAt_6 : decode cX9_wayAt 6 = .ok (.getfield 68, 3) := by decide +kernel
theorem dX9_wayAt_9 : decode cX9_wayAt 9 = .ok (.if_icmp .ge 18, 3) := by decide +kernel
set_option maxHeartbeats 4000000 in
set_option maxRecDepth 100000 in
theorem k_X9_wayAt (l : Launch) (D : va_G) (cI cS : ClassId) (a : Nat → Nat) (na nc N : Nat) (L u : SU) (hL : TyX L) (hN : N = 0 ∨ N = 24576) (x0 : Int32) : Met l yX9_wayAt wsX9_wayAt ({ frames := 0, cells := 0, slots := 0, locals := 0 }) (PS D cI cS (wX cI cS a na nc N L u) [.ref (a 34), .int x0]) (vp_Si (fun r => Rg (-2147483648) 2147483647 r ∧ True)) 0 0 (fun _ => False) := by
  refine Met.ofW (cc := cX9_wayAt) (maxL := 2) (ret := (some .int)) (by decide) rfl ?_
  intro p e s m args below meth c s₁ B hml hv
  obtain ⟨rfl, hP, hKK⟩ := hv
  have hx := B.exec
  have hb := B.bytes
  have hr := B.returns
  have hts := atoms_spec (ws := wsX9_wayAt) B.pre
  have hown : s.vm.findClass RX9 = some m.cls := findClass_of_methodNamed B.named
  have hlocks := B.notSynchronized
  have hK := hKK.1
  have hin9 : ∀ w ∈ wsX90, w ∈ wsX9_wayAt := by decide +kernel
  have hl := lv_entry ([.ref (a 34), .int x0]) (n := 2) (Nat.le_of_ble_eq_true rfl)
  rw [lg_entry_eq]
  generalize (lg_sl ([.ref (a 34), .int x0]) ++ List.replicate (2 - (lg_sl ([.ref (a 34), .int x0])).length) Slot.unset).toArray = ls at hl ⊢
  have hl : lv_has ls 2 [(0, .ref (a 34)), (1, .int x0)] := hl
  refine lv_iload_n hx hb dX9_wayAt_0 rfl (lv_at hl 1 rfl) ?_
  refine lv_if_lt (tgt := 27) hx hb dX9_wayAt_1 (by decide) (fun c11853 => ?_) (fun c11853 => ?_)
  · have g11854 : Rg (-2147483648) (-1) x0 := rg_ltl (rg_any x0) (by decide : Rg 0 0 (0 : Int32)) c11853 (by decide)
    refine lv_iconst (v := (-1)) hx hb dX9_wayAt_27 (by decide) ?_
    exact W.iret (v := (-1)) hx hb hr (fun t ht hW => ⟨_, rfl, ⟨(by decide : Rg (-2147483648) 2147483647 ((-1) : Int32)), trivial⟩, ht⟩) (fun q hq => absurd hq List.not_mem_nil) dX9_wayAt_28
  · have g11855 : Rg 0 2147483647 x0 := rg_ler (by decide : Rg 0 0 (0 : Int32)) (rg_any x0) (rg_nlt c11853) (by decide)
    refine lv_iload_n hx hb dX9_wayAt_4 rfl (lv_at hl 1 rfl) ?_
    refine lv_aload_n hx hb dX9_wayAt_5 rfl (lv_at hl 0 rfl) ?_
    refine va_get (D := D) (ci := 9) (v := .int (u 34 5)) (C := RX9) (T := TX9) (N := 6) hx hb hts hin9 hown hK hP 34 rfl rfl 5 (by decide) (hts (.fieldLink RX9 68 "MissedPoints$Told" "rowLength" "I") (by decide +kernel)) (fun _ h9 => h9) rfl dX9_wayAt_6 ?_
    refine wk_any (fun r11856 => ?_)
    refine lv_icmp_ge (tgt := 27) hx hb dX9_wayAt_9 (by decide) (fun c11857 => ?_) (fun c11857 => ?_)
    · refine lv_iconst (v := (-1)) hx hb dX9_wayAt_27 (by decide) ?_
      exact W.iret (v := (-1)) hx hb hr (fun t ht hW => ⟨_, rfl, ⟨(by decide : Rg (-2147483648) 2147483647 ((-1) : Int32)), trivial⟩, ht⟩) (fun q hq => absurd hq List.not_mem_nil) dX9_wayAt_28
    · have g11858 : Rg 1 2147483647 r11856 := rg_ltr g11855 (rg_any r11856) (rg_nle c11857) (by decide)
      have g11859 : Rg 0 2147483646 x0 := rg_ltl g11855 (rg_any r11856) (rg_nle c11857) (by decide)
      refine lv_iload_n hx hb dX9_wayAt_12 rfl (lv_at hl 1 rfl) ?_
      refine lv_bipush (v := 12) hx hb dX9_wayAt_13 (by decide) ?_
      refine lv_icmp_ge (tgt := 27) hx hb dX9_wayAt_15 (by decide) (fun c11860 => ?_) (fun c11860 => ?_)
      · have g11861 : Rg 12 2147483646 x0 := rg_ler (by decide : Rg 12 12 (12 : Int32)) g11859 c11860 (by decide)
        refine lv_iconst (v := (-1)) hx hb dX9_wayAt_27 (by decide) ?_
        exact W.iret (v := (-1)) hx hb hr (fun t ht hW => ⟨_, rfl, ⟨(by decide : Rg (-2147483648) 2147483647 ((-1) : Int32)), trivial⟩, ht⟩) (fun q hq => absurd hq List.not_mem_nil) dX9_wayAt_28
      · have g11862 : Rg 0 11 x0 := rg_ltl g11859 (by decide : Rg 12 12 (12 : Int32)) (rg_nle c11860) (by decide)
        refine lv_aload_n hx hb dX9_wayAt_18 rfl (lv_at hl 0 rfl) ?_
        refine va_get (D := D) (ci := 9) (v := .ref (a 36)) (C := RX9) (T := TX9) (N := 6) hx hb hts hin9 hown hK hP 34 rfl rfl 3 (by decide) (hts (.fieldLink RX9 15 "MissedPoints$Told" "row" "[I") (by decide +kernel)) (fun _ h9 => h9) rfl dX9_wayAt_19 ?_
        refine lv_iload_n hx hb dX9_wayAt_22 rfl (lv_at hl 1 rfl) ?_
        refine wk_aldA hx hb hK hP 36 0 rfl rfl (rg_in g11862 (by decide) (by decide)) dX9_wayAt_23 (fun r11863 => ?_)
        refine lv_goto (tgt := 28) hx hb dX9_wayAt_24 (by decide) ?_
        exact W.iret (v := r11863) hx hb hr (fun t ht hW => ⟨_, rfl, ⟨(rg_any r11863), trivial⟩, ht⟩) (fun q hq => absurd hq List.not_mem_nil) dX9_wayAt_28
set_option maxRecDepth 20000 in
theorem ggX9_turnWay_X2_areTwo : GoodIn wsX9_turnWay wsX2_areTwo := goodIn_r _ [9, 10, 11, 12, 8, 13, 14, 21, 22, 23] (by decide +kernel) (by decide +kernel)
set_option maxRecDepth 20000 in
theorem gX9_turnWay_X2_areTwo : GoodIn wsX9_turnWay (wsV RX9 91 RX2 yX2_areTwo wsX2_areTwo) := goodIn_app (goodIn_of _ (by decide +kernel)) ggX9_turnWay_X2_areTwo
theorem dX9_turnWay_0 : decode cX9_turnWay 0 = .ok (.iconst 0, 1) := by decide +kernel
theorem dX9_turnWay_1 : decode cX9_turnWay 1 = .ok (.istore_n 1, 1) := by decide +kernel
theorem dX9_turnWay_12 : decode cX9_turnWay 12 = .ok (.iload_n 1, 1) := by decide +kernel
theorem dX9_turnWay_13 : decode cX9_turnWay 13 = .ok (.iconst 1, 1) := by decide +kernel
theorem dX9_turnWay_14 : decode cX9_turnWay 14 = .ok (.iadd, 1) := by decide +kernel
theorem dX9_turnWay_15 : decode cX9_turnWay 15 = .ok (.bipush 12, 2) := by decide +kernel
theorem dX9_turnWay_17 : decode cX9_turnWay 17 = .ok (.if_icmp .ge 51, 3) := by decide +kernel
theorem dX9_turnWay_2 : decode cX9_turnWay 2 = .ok (.iload_n 1, 1) := by decide +kernel
theorem dX9_turnWay_20 : decode cX9_turnWay 20 = .ok (.aload_n 0, 1) := by decide +kernel
theorem dX9_turnWay_21 : decode cX9_turnWay 21 = .ok (.getfield 15, 3) := by decide +kernel
theorem dX9_turnWay_24 : decode cX9_turnWay 24 = .ok (.iload_n 1, 1) := by decide +kernel
theorem dX9_turnWay_25 : decode cX9_turnWay 25 = .ok (.iaload, 1) := by decide +kernel
theorem dX9_turnWay_26 : decode cX9_turnWay 26 = .ok (.istore_n 2, 1) := by decide +kernel
theorem dX9_turnWay_27 : decode cX9_turnWay 27 = .ok (.aload_n 0, 1) := by decide +kernel
theorem dX9_turnWay_28 : decode cX9_turnWay 28 = .ok (.getfield 15, 3) := by decide +kernel
theorem dX9_turnWay_3 : decode cX9_turnWay 3 = .ok (.iconst 1, 1) := by decide +kernel
theorem dX9_turnWay_31 : decode cX9_turnWay 31 = .ok (.iload_n 1, 1) := by decide +kernel
theorem dX9_turnWay_32 : decode cX9_turnWay 32 = .ok (.iconst 1, 1) := by decide +kernel
theorem dX9_turnWay_33 : decode cX9_turnWay 33 = .ok (.iadd, 1) := by decide +kernel
theorem dX9_turnWay_34 : decode cX9_turnWay 34 = .ok (.iaload, 1) := by decide +kernel
theorem dX9_turnWay_35 : decode cX9_turnWay 35 = .ok (.istore_n 3, 1) := by decide +kernel
theorem dX9_turnWay_36 : decode cX9_turnWay 36 = .ok (.aload_n 0, 1) := by decide +kernel
theorem dX9_turnWay_37 : decode cX9_turnWay 37 = .ok (.getfield 21, 3) := by decide +kernel
theorem dX9_turnWay_4 : decode cX9_turnWay 4 = .ok (.iadd, 1) := by decide +kernel
theorem dX9_turnWay_40 : decode cX9_turnWay 40 = .ok (.iload_n 2, 1) := by decide +kernel
theorem dX9_turnWay_41 : decode cX9_turnWay 41 = .ok (.iload_n 3, 1) := by decide +kernel
theorem dX9_turnWay_42 : decode cX9_turnWay 42 = .ok (.invokevirtual 91, 3) := by decide +kernel
theorem dX9_turnWay_45 : decode cX9_turnWay 45 = .ok (.ifCond .eq 17, 3) := by decide +kernel
theorem dX9_turnWay_48 : decode cX9_turnWay 48 = .ok (.aload_n 0, 1) := by decide +kernel
theorem dX9_turnWay_49 : decode cX9_turnWay 49 = .ok (.getfield 9, 3) := by decide +kernel
theorem dX9_turnWay_5 : decode cX9_turnWay 5 = .ok (.aload_n 0, 1) := by decide +kernel
theorem dX9_turnWay_52 : decode cX9_turnWay 52 = .ok (.iload_n 2, 1) := by decide +kernel
theorem dX9_turnWay_53 : decode cX9_turnWay 53 = .ok (.iload_n 3, 1) := by decide +kernel
theorem dX9_turnWay_54 : decode cX9_turnWay 54 = .ok (.iastore, 1) := by decide +kernel
theorem dX9_turnWay_55 : decode cX9_turnWay 55 = .ok (.aload_n 0, 1) := by decide +kernel
theorem dX9_turnWay_56 : decode cX9_turnWay 56 = .ok (.getfield 9, 3) := by decide +kernel
theorem dX9_turnWay_59 : decode cX9_turnWay 59 = .ok (.iload_n 3, 1) := by decide +kernel
theorem dX9_turnWay_6 : decode cX9_turnWay 6 = .ok (.getfield 68, 3) := by decide +kernel
theorem dX9_turnWay_60 : decode cX9_turnWay 60 = .ok (.iload_n 2, 1) := by decide +kernel
theorem dX9_turnWay_61 : decode cX9_turnWay 61 = .ok (.iastore, 1) := by decide +kernel
theorem dX9_turnWay_62 : decode cX9_turnWay 62 = .ok (.iinc 1 2, 3) := by decide +kernel
theorem dX9_turnWay_65 : decode cX9_turnWay 65 = .ok (.goto (-63), 3) := by decide +kernel
theorem dX9_turnWay_68 : decode cX9_turnWay 68 = .ok (.return_, 1) := by decide +kernel
theorem dX9_turnWay_9 : decode cX9_turnWay 9 = .ok (.if_icmp .ge 59, 3) := by decide +kernel
set_option maxHeartbeats 4000000 in
set_option maxRecDepth 100000 in
theorem k_X9_turnWay (l : Launch) (D : va_G) (cI cS : ClassId) (sz : Nat) (a : Nat → Nat) (na nc N : Nat) (L u0 : SU) (hL : TyX L) (hN : N = 0 ∨ N = 24576) : Met l yX9_turnWay wsX9_turnWay ({ frames := 2, cells := 0, slots := 0, locals := 80 }) (PQ D cI cS (wX cI cS a na nc N L u0) sz [.ref (a 34)]) (QE (S := SU) D (wX cI cS a na nc N L u0) (wX cI cS a na nc N L) sz (fun _ => True)) 0 0 (va_A (wX cI cS a na nc N L u0) sz) := by
  refine Met.ofW (cc := cX9_turnWay) (maxL := 4) (ret := none) (by decide) rfl ?_
  intro p e s m args below meth c s₁ B hml hv
  obtain ⟨rfl, hsz, hP, hKK, hD0⟩ := hv
  have hx := B.exec
  have hb := B.bytes
  have hr := B.returns
  have hts := atoms_spec (ws := wsX9_turnWay) B.pre
  have hown : s.vm.findClass RX9 = some m.cls := findClass_of_methodNamed B.named
  have hlocks := B.notSynchronized
  have hK := hKK.1
  have hin9 : ∀ w ∈ wsX90, w ∈ wsX9_turnWay := by decide +kernel
  subst hsz
  have hD := hD0.self (sz := s.heap.size)
  obtain ⟨A, hAe⟩ : ∃ A, A = va_A (wX cI cS a na nc N L u0) s.heap.size := ⟨_, rfl⟩
  rw [← hAe] at hD
  have hA : ∀ q : Nat, s.heap.size ≤ q → A q := fun q h => by rw [hAe]; exact Or.inr h
  have hS : va_S A s.heap s.heap [] := va_S.rf
  have hl := lv_entry ([.ref (a 34)]) (n := 4) (Nat.le_of_ble_eq_true rfl)
  rw [lg_entry_eq]
  generalize (lg_sl ([.ref (a 34)]) ++ List.replicate (4 - (lg_sl ([.ref (a 34)])).length) Slot.unset).toArray = ls at hl ⊢
  have hl : lv_has ls 4 [(0, .ref (a 34))] := hl
  obtain ⟨u, hu9⟩ : ∃ u : SU, u = u0 := ⟨_, rfl⟩
  rw [← hu9] at hP hD
  have lp2 : ∀ (n2 : Nat) (y2_l1 : Int32) (u : SU) (H : Heap) (locs : List Loc) (ls : Array Slot), Rg 0 12 y2_l1 → va_P D cls (wX cI cS a na nc N L u) H → va_D A (wX cI cS a na nc N L u) → va_S A s.heap H locs → lv_has ls 4 [(0, .ref (a 34)), (1, .int y2_l1)] → 12 - y2_l1.toInt < (n2 : Int) → W p l e (headSpec wsX9_turnWay ({ frames := 2, cells := 0, slots := 0, locals := 80 })).room s m ([.ref (a 34)]).toArray below meth c H locs 0 0 (MQ below (QE (S := SU) D (wX cI cS a na nc N L u0) (wX cI cS a na nc N L) s.heap.size (fun _ => True)) ([.ref (a 34)]).toArray s 0 0 (va_A (wX cI cS a na nc N L u0) s.heap.size)) (F0 m 2 ls []) := by
    intro n2
    induction n2 with
    | zero =>
      intro y2_l1 u H locs ls g2_l1 hP hD hS hl hm2
      exact absurd rfl (me_z g2_l1 hm2)
    | succ n2 ih2 =>
      intro y2_l1 u H locs ls g2_l1 hP hD hS hl hm2
      refine lv_iload_n hx hb dX9_turnWay_2 rfl (lv_at hl 1 rfl) ?_
      refine lv_iconst (v := 1) hx hb dX9_turnWay_3 (by decide) ?_
      refine wk_iadd (e1 := 1) (f := 13) hx hb dX9_turnWay_4 g2_l1 (by decide : Rg 1 1 (1 : Int32)) (by decide) (fun r11973 hr11973 er11973 qr11973 => ?_)
      refine lv_aload_n hx hb dX9_turnWay_5 rfl (lv_at hl 0 rfl) ?_
      refine va_get (D := D) (ci := 9) (v := .int (u 34 5)) (C := RX9) (T := TX9) (N := 6) hx hb hts hin9 hown hK hP 34 rfl rfl 5 (by decide) (hts (.fieldLink RX9 68 "MissedPoints$Told" "rowLength" "I") (by decide +kernel)) (fun _ h9 => h9) rfl dX9_turnWay_6 ?_
      refine wk_any (fun r11974 => ?_)
      refine lv_icmp_ge (tgt := 68) hx hb dX9_turnWay_9 (by decide) (fun c11975 => ?_) (fun c11975 => ?_)
      · have g11976 : Rg (-2147483648) 13 r11974 := rg_lel (rg_any r11974) hr11973 c11975 (by decide)
        subst hAe
        exact W.vret hx hb hr (fun t ht hW => ⟨⟨u, rfl, trivial, by rw [ht]; exact hP, hD⟩, hS.F ht⟩) hS.2.2 dX9_turnWay_68
      · have g11977 : Rg 2 2147483647 r11974 := rg_ltr hr11973 (rg_any r11974) (rg_nle c11975) (by decide)
        refine lv_iload_n hx hb dX9_turnWay_12 rfl (lv_at hl 1 rfl) ?_
        refine lv_iconst (v := 1) hx hb dX9_turnWay_13 (by decide) ?_
        refine wk_iadd (e1 := 1) (f := 13) hx hb dX9_turnWay_14 g2_l1 (by decide : Rg 1 1 (1 : Int32)) (by decide) (fun r11978 hr11978 er11978 qr11978 => ?_)
        refine lv_bipush (v := 12) hx hb dX9_turnWay_15 (by decide) ?_
        refine lv_icmp_ge (tgt := 68) hx hb dX9_turnWay_17 (by decide) (fun c11979 => ?_) (fun c11979 => ?_)
        · have g11980 : Rg 12 13 r11978 := rg_ler (by decide : Rg 12 12 (12 : Int32)) hr11978 c11979 (by decide)
          have g11981 : Rg 11 12 y2_l1 := wk_sha (k := 1) g11980 g2_l1 er11978 (by decide)
          subst hAe
          exact W.vret hx hb hr (fun t ht hW => ⟨⟨u, rfl, trivial, by rw [ht]; exact hP, hD⟩, hS.F ht⟩) hS.2.2 dX9_turnWay_68
        · have g11982 : Rg 1 11 r11978 := rg_ltl hr11978 (by decide : Rg 12 12 (12 : Int32)) (rg_nle c11979) (by decide)
          have g11983 : Rg 0 10 y2_l1 := wk_sha (k := 1) g11982 g2_l1 er11978 (by decide)
          refine lv_aload_n hx hb dX9_turnWay_20 rfl (lv_at hl 0 rfl) ?_
          refine va_get (D := D) (ci := 9) (v := .ref (a 36)) (C := RX9) (T := TX9) (N := 6) hx hb hts hin9 hown hK hP 34 rfl rfl 3 (by decide) (hts (.fieldLink RX9 15 "MissedPoints$Told" "row" "[I") (by decide +kernel)) (fun _ h9 => h9) rfl dX9_turnWay_21 ?_
          refine lv_iload_n hx hb dX9_turnWay_24 rfl (lv_at hl 1 rfl) ?_
          refine wk_aldA hx hb hK hP 36 0 rfl rfl (rg_in g11983 (by decide) (by decide)) dX9_turnWay_25 (fun r11984 => ?_)
          refine lv_istore_n (lv' := [(2, .int r11984), (0, .ref (a 34)), (1, .int y2_l1)]) hx hb dX9_turnWay_26 rfl hl (by decide) rfl (fun ls hl => ?_)
          refine lv_aload_n hx hb dX9_turnWay_27 rfl (lv_at hl 1 rfl) ?_
          refine va_get (D := D) (ci := 9) (v := .ref (a 36)) (C := RX9) (T := TX9) (N := 6) hx hb hts hin9 hown hK hP 34 rfl rfl 3 (by decide) (hts (.fieldLink RX9 15 "MissedPoints$Told" "row" "[I") (by decide +kernel)) (fun _ h9 => h9) rfl dX9_turnWay_28 ?_
          refine lv_iload_n hx hb dX9_turnWay_31 rfl (lv_at hl 2 rfl) ?_
          refine lv_iconst (v := 1) hx hb dX9_turnWay_32 (by decide) ?_
          refine wk_iadd (e1 := 1) (f := 11) hx hb dX9_turnWay_33 g11983 (by decide : Rg 1 1 (1 : Int32)) (by decide) (fun r11985 hr11985 er11985 qr11985 => ?_)
          refine wk_aldA hx hb hK hP 36 0 rfl rfl (rg_in hr11985 (by decide) (by decide)) dX9_turnWay_34 (fun r11986 => ?_)
          refine lv_istore_n (lv' := [(3, .int r11986), (2, .int r11984), (0, .ref (a 34)), (1, .int y2_l1)]) hx hb dX9_turnWay_35 rfl hl (by decide) rfl (fun ls hl => ?_)
          refine lv_aload_n hx hb dX9_turnWay_36 rfl (lv_at hl 2 rfl) ?_
          refine va_get (D := D) (ci := 9) (v := .ref (a 1)) (C := RX9) (T := TX9) (N := 6) hx hb hts hin9 hown hK hP 34 rfl rfl 0 (by decide) (hts (.fieldLink RX9 21 "MissedPoints$Told" "net" "LMissedPoints$Net;") (by decide +kernel)) (fun _ h9 => h9) rfl dX9_turnWay_37 ?_
          refine lv_iload_n hx hb dX9_turnWay_40 rfl (lv_at hl 1 rfl) ?_
          refine lv_iload_n hx hb dX9_turnWay_41 rfl (lv_at hl 0 rfl) ?_
          refine wk_sv 1 (As := [.int r11984, .int r11986]) (rest := []) ⟨hx, hb, hml, hown, hts⟩ (k_X2_areTwo l D cI cS a na nc N L u hL hN r11984 r11986) hKK hP (ci := 2) rfl rfl (cwV 2 hts gX9_turnWay_X2_areTwo rfl rfl rfl (by decide +kernel) ⟨Nat.le_of_ble_eq_true rfl, Nat.le_of_ble_eq_true rfl⟩) rfl hl.1 rfl (Nat.le_of_ble_eq_true rfl) dX9_turnWay_42 ⟨Nat.le_of_ble_eq_true rfl, Nat.le_of_ble_eq_true rfl⟩ (fun r11987 hr11987 => ?_)
          refine lv_if_eq (tgt := 62) hx hb dX9_turnWay_45 (by decide) (fun c11988 => ?_) (fun c11988 => ?_)
          · have g11989 : Rg 0 0 r11987 := wk_eql hr11987.1 (by decide : Rg 0 0 (0 : Int32)) c11988 (by decide)
            refine wk_iinc (lv' := fun r => [(1, .int r), (3, .int r11986), (2, .int r11984), (0, .ref (a 34))]) (e1 := 2) (f := 12) hx hb dX9_turnWay_62 hl (k := 3) rfl (by decide) g11983 (by decide) (fun _ => rfl) (fun r11990 ls hr11990 er11990 hl => ?_)
            refine lv_goto (tgt := 2) hx hb dX9_turnWay_65 (by decide) ?_
            exact ih2 r11990 u _ _ ls (show Rg 0 12 r11990 from rg_w hr11990 (by decide) (by decide)) hP hD hS (lv_sub (l' := [(0, .ref (a 34)), (1, .int r11990)]) hl [3, 0] rfl) (me_up hm2 er11990 (by decide))
          · have g11991 : Rg 0 11 r11984 := (hr11987.2 c11988).1
            have g11992 : Rg 0 11 r11986 := (hr11987.2 c11988).2
            have g11993 : Rg 1 1 r11987 := rg_ne_lo (k := 0) hr11987.1 (by decide) c11988 (by decide)
            refine lv_aload_n hx hb dX9_turnWay_48 rfl (lv_at hl 2 rfl) ?_
            refine va_get (D := D) (ci := 9) (v := .ref (a 35)) (C := RX9) (T := TX9) (N := 6) hx hb hts hin9 hown hK hP 34 rfl rfl 2 (by decide) (hts (.fieldLink RX9 9 "MissedPoints$Told" "mates" "[I") (by decide +kernel)) (fun _ h9 => h9) rfl dX9_turnWay_49 ?_
            refine lv_iload_n hx hb dX9_turnWay_52 rfl (lv_at hl 1 rfl) ?_
            refine lv_iload_n hx hb dX9_turnWay_53 rfl (lv_at hl 0 rfl) ?_
            refine ks_ast hx hb hK hP hD hS rfl (k := 35) rfl sx_35 (rg_in g11991 (by decide) (by decide)) dX9_turnWay_54 (fun u H locs hP hD hS => ?_)
            refine lv_aload_n hx hb dX9_turnWay_55 rfl (lv_at hl 2 rfl) ?_
            refine va_get (D := D) (ci := 9) (v := .ref (a 35)) (C := RX9) (T := TX9) (N := 6) hx hb hts hin9 hown hK hP 34 rfl rfl 2 (by decide) (hts (.fieldLink RX9 9 "MissedPoints$Told" "mates" "[I") (by decide +kernel)) (fun _ h9 => h9) rfl dX9_turnWay_56 ?_
            refine lv_iload_n hx hb dX9_turnWay_59 rfl (lv_at hl 0 rfl) ?_
            refine lv_iload_n hx hb dX9_turnWay_60 rfl (lv_at hl 1 rfl) ?_
            refine ks_ast hx hb hK hP hD hS rfl (k := 35) rfl sx_35 (rg_in g11992 (by decide) (by decide)) dX9_turnWay_61 (fun u H locs hP hD hS => ?_)
            refine wk_iinc (lv' := fun r => [(1, .int r), (3, .int r11986), (2, .int r11984), (0, .ref (a 34))]) (e1 := 2) (f := 12) hx hb dX9_turnWay_62 hl (k := 3) rfl (by decide) g11983 (by decide) (fun _ => rfl) (fun r11994 ls hr11994 er11994 hl => ?_)
            refine lv_goto (tgt := 2) hx hb dX9_turnWay_65 (by decide) ?_
            exact ih2 r11994 u _ _ ls (show Rg 0 12 r11994 from rg_w hr11994 (by decide) (by decide)) hP hD hS (lv_sub (l' := [(0, .ref (a 34)), (1, .int r11994)]) hl [3, 0] rfl) (me_up hm2 er11994 (by decide))
  refine lv_iconst (v := 0) hx hb dX9_turnWay_0 (by decide) ?_
  refine lv_istore_n (lv' := [(1, .int 0), (0, .ref (a 34))]) hx hb dX9_turnWay_1 rfl hl (by decide) rfl (fun ls hl => ?_)
  exact lp2 13 (0 : Int32) u _ _ ls (by decide : Rg 0 12 (0 : Int32)) hP hD hS (lv_sub (l' := [(0, .ref (a 34)), (1, .int 0)]) hl [1, 0] rfl) (me_i (by decide : Rg 0 12 (0 : Int32)) (by decide))
theorem dX9_bitOf_0 : decode cX9_bitOf 0 = .ok (.iload_n 0, 1) := by decide +kernel
theorem dX9_bitOf_1 : decode cX9_bitOf 1 = .ok (.ifCond .ge 7, 3) := by decide +kernel
theorem dX9_bitOf_10 : decode cX9_bitOf 10 = .ok (.ishl, 1) := by decide +kernel
theorem dX9_bitOf_11 : decode cX9_bitOf 11 = .ok (.ireturn, 1) := by decide +kernel
theorem dX9_bitOf_4 : decode cX9_bitOf 4 = .ok (.iconst 0, 1) := by decide +kernel
theorem dX9_bitOf_5 : decode cX9_bitOf 5 = .ok (.goto 6, 3) := by decide +kernel
theorem dX9_bitOf_8 : decode cX9_bitOf 8 = .ok (.iconst 1, 1) := by decide +kernel
theorem dX9_bitOf_9 : decode cX9_bitOf 9 = .ok (.iload_n 0, 1) := by decide +kernel
set_option maxHeartbeats 4000000 in
set_option maxRecDepth 100000 in
theorem k_X9_bitOf (l : Launch) (D : va_G) (cI cS : ClassId) (x0 : Int32) : Met l yX9_bitOf wsX9_bitOf ({ frames := 0, cells := 0, slots := 0, locals := 0 }) (PS D cI cS [] [.int x0]) (vp_Si (fun r => Rg (-2147483648) 2147483647 r ∧ True)) 0 0 (fun _ => False) := by
  refine Met.ofW (cc := cX9_bitOf) (maxL := 1) (ret := (some .int)) (by decide) rfl ?_
  intro p e s m args below meth c s₁ B hml hv
  obtain ⟨rfl, hP, hKK⟩ := hv
  have hx := B.exec
  have hb := B.bytes
  have hr := B.returns
  have hts := atoms_spec (ws := wsX9_bitOf) B.pre
  have hown : s.vm.findClass RX9 = some m.cls := findClass_of_methodNamed B.named
  have hlocks := B.notSynchronized
  have hK := hKK.1
  have hl := lv_entry ([.int x0]) (n := 1) (Nat.le_of_ble_eq_true rfl)
  rw [lg_entry_eq]
  generalize (lg_sl ([.int x0]) ++ List.replicate (1 - (lg_sl ([.int x0])).length) Slot.unset).toArray = ls at hl ⊢
  have hl : lv_has ls 1 [(0, .int x0)] := hl
  refine lv_iload_n hx hb dX9_bitOf_0 rfl (lv_at hl 0 rfl) ?_
  refine lv_if_ge (tgt := 8) hx hb dX9_bitOf_1 (by decide) (fun c11999 => ?_) (fun c11999 => ?_)
  · have g12000 : Rg 0 2147483647 x0 := rg_ler (by decide : Rg 0 0 (0 : Int32)) (rg_any x0) c11999 (by decide)
    refine lv_iconst (v := 1) hx hb dX9_bitOf_8 (by decide) ?_
    refine lv_iload_n hx hb dX9_bitOf_9 rfl (lv_at hl 0 rfl) ?_
    refine lv_ishl hx hb dX9_bitOf_10 ?_
    refine wk_topP (P := fun r => r = (1 : Int32) <<< (x0 &&& 31)) rfl (fun r12001 qr12001 => ?_)
    exact W.iret (v := r12001) hx hb hr (fun t ht hW => ⟨_, rfl, ⟨(rg_any r12001), trivial⟩, ht⟩) (fun q hq => absurd hq List.not_mem_nil) dX9_bitOf_11
  · have g12002 : Rg (-2147483648) (-1) x0 := rg_ltl (rg_any x0) (by decide : Rg 0 0 (0 : Int32)) (rg_nle c11999) (by decide)
    refine lv_iconst (v := 0) hx hb dX9_bitOf_4 (by decide) ?_
    refine lv_goto (tgt := 11) hx hb dX9_bitOf_5 (by decide) ?_
    exact W.iret (v := 0) hx hb hr (fun t ht hW => ⟨_, rfl, ⟨(by decide : Rg (-2147483648) 2147483647 (0 : Int32)), trivial⟩, ht⟩) (fun q hq => absurd hq List.not_mem_nil) dX9_bitOf_11
set_option maxRecDepth 20000 in
theorem ggX9_unlikeLines_J6_bitCount_0f7a4 : GoodIn wsX9_unlikeLines wsJ6_bitCount_0f7a4 := goodIn_r _ [6, 7, 8, 9] (by decide +kernel) (by decide +kernel)
set_option maxRecDepth 20000 in
theorem gX9_unlikeLines_J6_bitCount_0f7a4 : GoodIn wsX9_unlikeLines (va_wsS RX9 63 yJ6_bitCount_0f7a4 wsJ6_bitCount_0f7a4) := goodIn_app (goodIn_of _ (by decide +kernel)) ggX9_unlikeLines_J6_bitCount_0f7a4
theorem dX9_unlikeLines_0 : decode cX9_unlikeLines 0 = .ok (.iconst 0, 1) := by decide +kernel
theorem dX9_unlikeLines_1 : decode cX9_unlikeLines 1 = .ok (.istore_n 2, 1) := by decide +kernel
theorem dX9_unlikeLines_12 : decode cX9_unlikeLines 12 = .ok (.if_icmp .ge 29, 3) := by decide +kernel
theorem dX9_unlikeLines_15 : decode cX9_unlikeLines 15 = .ok (.iload_n 1, 1) := by decide +kernel
theorem dX9_unlikeLines_16 : decode cX9_unlikeLines 16 = .ok (.iload_n 3, 1) := by decide +kernel
theorem dX9_unlikeLines_17 : decode cX9_unlikeLines 17 = .ok (.ishr, 1) := by decide +kernel
theorem dX9_unlikeLines_18 : decode cX9_unlikeLines 18 = .ok (.iconst 1, 1) := by decide +kernel
theorem dX9_unlikeLines_19 : decode cX9_unlikeLines 19 = .ok (.iand, 1) := by decide +kernel
theorem dX9_unlikeLines_2 : decode cX9_unlikeLines 2 = .ok (.iconst 0, 1) := by decide +kernel
theorem dX9_unlikeLines_20 : decode cX9_unlikeLines 20 = .ok (.ifCond .eq 15, 3) := by decide +kernel
theorem dX9_unlikeLines_23 : decode cX9_unlikeLines 23 = .ok (.iload_n 2, 1) := by decide +kernel
theorem dX9_unlikeLines_24 : decode cX9_unlikeLines 24 = .ok (.aload_n 0, 1) := by decide +kernel
theorem dX9_unlikeLines_25 : decode cX9_unlikeLines 25 = .ok (.getfield 18, 3) := by decide +kernel
theorem dX9_unlikeLines_28 : decode cX9_unlikeLines 28 = .ok (.iload_n 3, 1) := by decide +kernel
theorem dX9_unlikeLines_29 : decode cX9_unlikeLines 29 = .ok (.iaload, 1) := by decide +kernel
theorem dX9_unlikeLines_3 : decode cX9_unlikeLines 3 = .ok (.istore_n 3, 1) := by decide +kernel
theorem dX9_unlikeLines_30 : decode cX9_unlikeLines 30 = .ok (.invokestatic 63, 3) := by decide +kernel
theorem dX9_unlikeLines_33 : decode cX9_unlikeLines 33 = .ok (.iadd, 1) := by decide +kernel
theorem dX9_unlikeLines_34 : decode cX9_unlikeLines 34 = .ok (.istore_n 2, 1) := by decide +kernel
theorem dX9_unlikeLines_35 : decode cX9_unlikeLines 35 = .ok (.iinc 3 1, 3) := by decide +kernel
theorem dX9_unlikeLines_38 : decode cX9_unlikeLines 38 = .ok (.goto (-34), 3) := by decide +kernel
theorem dX9_unlikeLines_4 : decode cX9_unlikeLines 4 = .ok (.iload_n 3, 1) := by decide +kernel
theorem dX9_unlikeLines_41 : decode cX9_unlikeLines 41 = .ok (.iload_n 2, 1) := by decide +kernel
theorem dX9_unlikeLines_42 : decode cX9_unlikeLines 42 = .ok (.iconst 2, 1) := by decide +kernel
theorem dX9_unlikeLines_43 : decode cX9_unlikeLines 43 = .ok (.idiv, 1) := by decide +kernel
theorem dX9_unlikeLines_44 : decode cX9_unlikeLines 44 = .ok (.ireturn, 1) := by decide +kernel
theorem dX9_unlikeLines_5 : decode cX9_unlikeLines 5 = .ok (.aload_n 0, 1) := by decide +kernel
theorem dX9_unlikeLines_6 : decode cX9_unlikeLines 6 = .ok (.getfield 21, 3) := by decide +kernel
theorem dX9_unlikeLines_9 : decode cX9_unlikeLines 9 = .ok (.getfield 41, 3) := by decide +kernel
set_option maxHeartbeats 4000000 in
set_option maxRecDepth 100000 in
theorem k_X9_unlikeLines (l : Launch) (D : va_G) (cI cS : ClassId) (a : Nat → Nat) (na nc N : Nat) (L u : SU) (hL : TyX L) (hN : N = 0 ∨ N = 24576) (x0 : Int32) : Met l yX9_unlikeLines wsX9_unlikeLines ({ frames := 1, cells := 0, slots := 0, locals := 40 }) (PS D cI cS (wX cI cS a na nc N L u) [.ref (a 34), .int x0]) (vp_Si (fun r => Rg (-2147483648) 2147483647 r ∧ True)) 0 0 (fun _ => False) := by
  refine Met.ofW (cc := cX9_unlikeLines) (maxL := 4) (ret := (some .int)) (by decide) rfl ?_
  intro p e s m args below meth c s₁ B hml hv
  obtain ⟨rfl, hP, hKK⟩ := hv
  have hx := B.exec
  have hb := B.bytes
  have hr := B.returns
  have hts := atoms_spec (ws := wsX9_unlikeLines) B.pre
  have hown : s.vm.findClass RX9 = some m.cls := findClass_of_methodNamed B.named
  have hlocks := B.notSynchronized
  have hK := hKK.1
  have hin2 : ∀ w ∈ wsX20, w ∈ wsX9_unlikeLines := by decide +kernel
  have hin9 : ∀ w ∈ wsX90, w ∈ wsX9_unlikeLines := by decide +kernel
  have hl := lv_entry ([.ref (a 34), .int x0]) (n := 4) (Nat.le_of_ble_eq_true rfl)
  rw [lg_entry_eq]
  generalize (lg_sl ([.ref (a 34), .int x0]) ++ List.replicate (4 - (lg_sl ([.ref (a 34), .int x0])).length) Slot.unset).toArray = ls at hl ⊢
  have hl : lv_has ls 4 [(0, .ref (a 34)), (1, .int x0)] := hl
  have lp4 : ∀ (n4 : Nat) (y4_l2 : Int32) (y4_l3 : Int32) (ls : Array Slot), Rg 0 12 y4_l3 → lv_has ls 4 [(0, .ref (a 34)), (1, .int x0), (2, .int y4_l2), (3, .int y4_l3)] → 12 - y4_l3.toInt < (n4 : Int) → W p l e (headSpec wsX9_unlikeLines ({ frames := 1, cells := 0, slots := 0, locals := 40 })).room s m ([.ref (a 34), .int x0]).toArray below meth c s.heap [] 0 0 (MQ below (vp_Si (fun r => Rg (-2147483648) 2147483647 r ∧ True)) ([.ref (a 34), .int x0]).toArray s 0 0 (fun _ => False)) (F0 m 4 ls []) := by
    intro n4
    induction n4 with
    | zero =>
      intro y4_l2 y4_l3 ls g4_l3 hl hm4
      exact absurd rfl (me_z g4_l3 hm4)
    | succ n4 ih4 =>
      intro y4_l2 y4_l3 ls g4_l3 hl hm4
      refine lv_iload_n hx hb dX9_unlikeLines_4 rfl (lv_at hl 3 rfl) ?_
      refine lv_aload_n hx hb dX9_unlikeLines_5 rfl (lv_at hl 0 rfl) ?_
      refine va_get (D := D) (ci := 9) (v := .ref (a 1)) (C := RX9) (T := TX9) (N := 6) hx hb hts hin9 hown hK hP 34 rfl rfl 0 (by decide) (hts (.fieldLink RX9 21 "MissedPoints$Told" "net" "LMissedPoints$Net;") (by decide +kernel)) (fun _ h9 => h9) rfl dX9_unlikeLines_6 ?_
      refine va_getN (D := D) (ci := 2) (v := .int (L 1 1)) (C := RX2) (T := TX2) (N := 3) hx hb hts hin2 hown hK hP 1 rfl rfl 1 (by decide) (va_Nw.use rfl hKK.2.2.2.2.2.2.2.2.2.2.2.2.2.2.2.2.1) (fun _ h9 => h9) rfl dX9_unlikeLines_9 ?_
      refine lv_icmp_ge (tgt := 41) hx hb dX9_unlikeLines_12 (by decide) (fun c12124 => ?_) (fun c12124 => ?_)
      · refine lv_iload_n hx hb dX9_unlikeLines_41 rfl (lv_at hl 2 rfl) ?_
        refine lv_iconst (v := 2) hx hb dX9_unlikeLines_42 (by decide) ?_
        refine lv_idiv hx hb dX9_unlikeLines_43 (by decide) ?_
        refine wk_any (fun r12125 => ?_)
        exact W.iret (v := r12125) hx hb hr (fun t ht hW => ⟨_, rfl, ⟨(rg_any r12125), trivial⟩, ht⟩) (fun q hq => absurd hq List.not_mem_nil) dX9_unlikeLines_44
      · have g12126 : Rg 1 12 (L 1 1) := rg_ltr g4_l3 hL.1 (rg_nle c12124) (by decide)
        have g12127 : Rg 0 11 y4_l3 := rg_ltl g4_l3 hL.1 (rg_nle c12124) (by decide)
        refine lv_iload_n hx hb dX9_unlikeLines_15 rfl (lv_at hl 1 rfl) ?_
        refine lv_iload_n hx hb dX9_unlikeLines_16 rfl (lv_at hl 3 rfl) ?_
        refine lv_ishr hx hb dX9_unlikeLines_17 ?_
        refine wk_topP (P := fun r => r = x0 >>> (y4_l3 &&& 31)) rfl (fun r12128 qr12128 => ?_)
        refine lv_iconst (v := 1) hx hb dX9_unlikeLines_18 (by decide) ?_
        refine wk_iandr hx hb dX9_unlikeLines_19 (by decide : Rg 1 1 (1 : Int32)) (by decide) (fun r12129 hr12129 qr12129 => ?_)
        refine lv_if_eq (tgt := 35) hx hb dX9_unlikeLines_20 (by decide) (fun c12130 => ?_) (fun c12130 => ?_)
        · have g12131 : Rg 0 0 r12129 := wk_eql hr12129 (by decide : Rg 0 0 (0 : Int32)) c12130 (by decide)
          refine wk_iinc (lv' := fun r => [(3, .int r), (0, .ref (a 34)), (1, .int x0), (2, .int y4_l2)]) (e1 := 1) (f := 12) hx hb dX9_unlikeLines_35 hl (k := 3) rfl (by decide) g12127 (by decide) (fun _ => rfl) (fun r12132 ls hr12132 er12132 hl => ?_)
          refine lv_goto (tgt := 4) hx hb dX9_unlikeLines_38 (by decide) ?_
          exact ih4 y4_l2 r12132 ls (show Rg 0 12 r12132 from rg_w hr12132 (by decide) (by decide)) (lv_sub (l' := [(0, .ref (a 34)), (1, .int x0), (2, .int y4_l2), (3, .int r12132)]) hl [1, 2, 3, 0] rfl) (me_up hm4 er12132 (by decide))
        · have g12133 : Rg 1 1 r12129 := rg_ne_lo (k := 0) hr12129 (by decide) c12130 (by decide)
          refine lv_iload_n hx hb dX9_unlikeLines_23 rfl (lv_at hl 2 rfl) ?_
          refine lv_aload_n hx hb dX9_unlikeLines_24 rfl (lv_at hl 0 rfl) ?_
          refine va_get (D := D) (ci := 9) (v := .ref (a 37)) (C := RX9) (T := TX9) (N := 6) hx hb hts hin9 hown hK hP 34 rfl rfl 4 (by decide) (hts (.fieldLink RX9 18 "MissedPoints$Told" "unlike" "[I") (by decide +kernel)) (fun _ h9 => h9) rfl dX9_unlikeLines_25 ?_
          refine lv_iload_n hx hb dX9_unlikeLines_28 rfl (lv_at hl 3 rfl) ?_
          refine wk_aldA hx hb hK hP 37 0 rfl rfl (rg_in g12127 (by decide) (by decide)) dX9_unlikeLines_29 (fun r12134 => ?_)
          refine lz_ss (As := [.int r12134]) (rest := [.int y4_l2]) ⟨hx, hb, hml, hown, hts⟩ (k_J6_bitCount_0f7a4 l D cI cS r12134) hKK (hP.sub (ws' := []) [] rfl) (va_cwS 1 hts gX9_unlikeLines_J6_bitCount_0f7a4 rfl rfl rfl (by decide +kernel) ⟨Nat.le_of_ble_eq_true rfl, Nat.le_of_ble_eq_true rfl⟩) rfl hl.1 rfl (Nat.le_of_ble_eq_true rfl) dX9_unlikeLines_30 ⟨Nat.le_of_ble_eq_true rfl, Nat.le_of_ble_eq_true rfl⟩ (fun r12135 hr12135 => ?_)
          refine lv_iadd hx hb dX9_unlikeLines_33 ?_
          refine wk_topP (P := fun r => r = y4_l2 + r12135) rfl (fun r12136 qr12136 => ?_)
          refine lv_istore_n (lv' := [(2, .int r12136), (0, .ref (a 34)), (1, .int x0), (3, .int y4_l3)]) hx hb dX9_unlikeLines_34 rfl hl (by decide) rfl (fun ls hl => ?_)
          refine wk_iinc (lv' := fun r => [(3, .int r), (2, .int r12136), (0, .ref (a 34)), (1, .int x0)]) (e1 := 1) (f := 12) hx hb dX9_unlikeLines_35 hl (k := 3) rfl (by decide) g12127 (by decide) (fun _ => rfl) (fun r12137 ls hr12137 er12137 hl => ?_)
          refine lv_goto (tgt := 4) hx hb dX9_unlikeLines_38 (by decide) ?_
          exact ih4 r12136 r12137 ls (show Rg 0 12 r12137 from rg_w hr12137 (by decide) (by decide)) (lv_sub (l' := [(0, .ref (a 34)), (1, .int x0), (2, .int r12136), (3, .int r12137)]) hl [2, 3, 1, 0] rfl) (me_up hm4 er12137 (by decide))
  refine lv_iconst (v := 0) hx hb dX9_unlikeLines_0 (by decide) ?_
  refine lv_istore_n (lv' := [(2, .int 0), (0, .ref (a 34)), (1, .int x0)]) hx hb dX9_unlikeLines_1 rfl hl (by decide) rfl (fun ls hl => ?_)
  refine lv_iconst (v := 0) hx hb dX9_unlikeLines_2 (by decide) ?_
  refine lv_istore_n (lv' := [(3, .int 0), (2, .int 0), (0, .ref (a 34)), (1, .int x0)]) hx hb dX9_unlikeLines_3 rfl hl (by decide) rfl (fun ls hl => ?_)
  exact lp4 13 (0 : Int32) (0 : Int32) ls (by decide : Rg 0 12 (0 : Int32)) (lv_sub (l' := [(0, .ref (a 34)), (1, .int x0), (2, .int 0), (3, .int 0)]) hl [2, 3, 1, 0] rfl) (me_i (by decide : Rg 0 12 (0 : Int32)) (by decide))
set_option maxRecDepth 20000 in
theorem ggX9_layUnlike_X9_bitOf : GoodIn wsX9_layUnlike wsX9_bitOf := goodIn_r _ [7] (by decide +kernel) (by decide +kernel)
set_option maxRecDepth 20000 in
theorem gX9_layUnlike_X9_bitOf : GoodIn wsX9_layUnlike (va_wsS RX9 111 yX9_bitOf wsX9_bitOf) := goodIn_app (goodIn_of _ (by decide +kernel)) ggX9_layUnlike_X9_bitOf
theorem dX9_layUnlike_0 : decode cX9_layUnlike 0 = .ok (.iconst 0, 1) := by decide +kernel
theorem dX9_layUnlike_1 : decode cX9_layUnlike 1 = .ok (.istore_n 2, 1) := by decide +kernel
theorem dX9_layUnlike_12 : decode cX9_layUnlike 12 = .ok (.if_icmp .ge 62, 3) := by decide +kernel
theorem dX9_layUnlike_15 : decode cX9_layUnlike 15 = .ok (.aload_n 0, 1) := by decide +kernel
theorem dX9_layUnlike_16 : decode cX9_layUnlike 16 = .ok (.getfield 18, 3) := by decide +kernel
theorem dX9_layUnlike_19 : decode cX9_layUnlike 19 = .ok (.iload_n 3, 1) := by decide +kernel
theorem dX9_layUnlike_2 : decode cX9_layUnlike 2 = .ok (.iconst 0, 1) := by decide +kernel
theorem dX9_layUnlike_20 : decode cX9_layUnlike 20 = .ok (.iconst 0, 1) := by decide +kernel
theorem dX9_layUnlike_21 : decode cX9_layUnlike 21 = .ok (.iastore, 1) := by decide +kernel
theorem dX9_layUnlike_22 : decode cX9_layUnlike 22 = .ok (.aload_n 0, 1) := by decide +kernel
theorem dX9_layUnlike_23 : decode cX9_layUnlike 23 = .ok (.getfield 9, 3) := by decide +kernel
theorem dX9_layUnlike_26 : decode cX9_layUnlike 26 = .ok (.iload_n 3, 1) := by decide +kernel
theorem dX9_layUnlike_27 : decode cX9_layUnlike 27 = .ok (.iaload, 1) := by decide +kernel
theorem dX9_layUnlike_28 : decode cX9_layUnlike 28 = .ok (.aload_n 1, 1) := by decide +kernel
theorem dX9_layUnlike_29 : decode cX9_layUnlike 29 = .ok (.getfield 9, 3) := by decide +kernel
theorem dX9_layUnlike_3 : decode cX9_layUnlike 3 = .ok (.istore_n 3, 1) := by decide +kernel
theorem dX9_layUnlike_32 : decode cX9_layUnlike 32 = .ok (.iload_n 3, 1) := by decide +kernel
theorem dX9_layUnlike_33 : decode cX9_layUnlike 33 = .ok (.iaload, 1) := by decide +kernel
theorem dX9_layUnlike_34 : decode cX9_layUnlike 34 = .ok (.if_icmp .eq 34, 3) := by decide +kernel
theorem dX9_layUnlike_37 : decode cX9_layUnlike 37 = .ok (.aload_n 0, 1) := by decide +kernel
theorem dX9_layUnlike_38 : decode cX9_layUnlike 38 = .ok (.getfield 18, 3) := by decide +kernel
theorem dX9_layUnlike_4 : decode cX9_layUnlike 4 = .ok (.iload_n 3, 1) := by decide +kernel
theorem dX9_layUnlike_41 : decode cX9_layUnlike 41 = .ok (.iload_n 3, 1) := by decide +kernel
theorem dX9_layUnlike_42 : decode cX9_layUnlike 42 = .ok (.aload_n 0, 1) := by decide +kernel
theorem dX9_layUnlike_43 : decode cX9_layUnlike 43 = .ok (.getfield 9, 3) := by decide +kernel
theorem dX9_layUnlike_46 : decode cX9_layUnlike 46 = .ok (.iload_n 3, 1) := by decide +kernel
theorem dX9_layUnlike_47 : decode cX9_layUnlike 47 = .ok (.iaload, 1) := by decide +kernel
theorem dX9_layUnlike_48 : decode cX9_layUnlike 48 = .ok (.invokestatic 111, 3) := by decide +kernel
theorem dX9_layUnlike_5 : decode cX9_layUnlike 5 = .ok (.aload_n 0, 1) := by decide +kernel
theorem dX9_layUnlike_51 : decode cX9_layUnlike 51 = .ok (.aload_n 1, 1) := by decide +kernel
theorem dX9_layUnlike_52 : decode cX9_layUnlike 52 = .ok (.getfield 9, 3) := by decide +kernel
theorem dX9_layUnlike_55 : decode cX9_layUnlike 55 = .ok (.iload_n 3, 1) := by decide +kernel
theorem dX9_layUnlike_56 : decode cX9_layUnlike 56 = .ok (.iaload, 1) := by decide +kernel
theorem dX9_layUnlike_57 : decode cX9_layUnlike 57 = .ok (.invokestatic 111, 3) := by decide +kernel
theorem dX9_layUnlike_6 : decode cX9_layUnlike 6 = .ok (.getfield 21, 3) := by decide +kernel
theorem dX9_layUnlike_60 : decode cX9_layUnlike 60 = .ok (.ior, 1) := by decide +kernel
theorem dX9_layUnlike_61 : decode cX9_layUnlike 61 = .ok (.iastore, 1) := by decide +kernel
theorem dX9_layUnlike_62 : decode cX9_layUnlike 62 = .ok (.iload_n 2, 1) := by decide +kernel
theorem dX9_layUnlike_63 : decode cX9_layUnlike 63 = .ok (.iconst 1, 1) := by decide +kernel
theorem dX9_layUnlike_64 : decode cX9_layUnlike 64 = .ok (.iload_n 3, 1) := by decide +kernel
theorem dX9_layUnlike_65 : decode cX9_layUnlike 65 = .ok (.ishl, 1) := by decide +kernel
theorem dX9_layUnlike_66 : decode cX9_layUnlike 66 = .ok (.ior, 1) := by decide +kernel
theorem dX9_layUnlike_67 : decode cX9_layUnlike 67 = .ok (.istore_n 2, 1) := by decide +kernel
theorem dX9_layUnlike_68 : decode cX9_layUnlike 68 = .ok (.iinc 3 1, 3) := by decide +kernel
theorem dX9_layUnlike_71 : decode cX9_layUnlike 71 = .ok (.goto (-67), 3) := by decide +kernel
theorem dX9_layUnlike_74 : decode cX9_layUnlike 74 = .ok (.iload_n 2, 1) := by decide +kernel
theorem dX9_layUnlike_75 : decode cX9_layUnlike 75 = .ok (.ireturn, 1) := by decide +kernel
theorem dX9_layUnlike_9 : decode cX9_layUnlike 9 = .ok (.getfield 41, 3) := by decide +kernel
set_option maxHeartbeats 4000000 in
set_option maxRecDepth 100000 in
theorem k_X9_layUnlike (l : Launch) (D : va_G) (cI cS : ClassId) (sz : Nat) (a : Nat → Nat) (na nc N : Nat) (L u0 : SU) (hL : TyX L) (hN : N = 0 ∨ N = 24576) : Met l yX9_layUnlike wsX9_layUnlike ({ frames := 1, cells := 0, slots := 0, locals := 40 }) (PQ D cI cS (wX cI cS a na nc N L u0) sz [.ref (a 34), .ref (a 38)]) (QF (S := SU) D (wX cI cS a na nc N L u0) (wX cI cS a na nc N L) sz (fun r _ => Rg 0 4095 r ∧ True)) 0 0 (va_A (wX cI cS a na nc N L u0) sz) := by
  refine Met.ofW (cc := cX9_layUnlike) (maxL := 4) (ret := (some .int)) (by decide) rfl ?_
  intro p e s m args below meth c s₁ B hml hv
  obtain ⟨rfl, hsz, hP, hKK, hD0⟩ := hv
  have hx := B.exec
  have hb := B.bytes
  have hr := B.returns
  have hts := atoms_spec (ws := wsX9_layUnlike) B.pre
  have hown : s.vm.findClass RX9 = some m.cls := findClass_of_methodNamed B.named
  have hlocks := B.notSynchronized
  have hK := hKK.1
  have hin2 : ∀ w ∈ wsX20, w ∈ wsX9_layUnlike := by decide +kernel
  have hin9 : ∀ w ∈ wsX90, w ∈ wsX9_layUnlike := by decide +kernel
  subst hsz
  have hD := hD0.self (sz := s.heap.size)
  obtain ⟨A, hAe⟩ : ∃ A, A = va_A (wX cI cS a na nc N L u0) s.heap.size := ⟨_, rfl⟩
  rw [← hAe] at hD
  have hA : ∀ q : Nat, s.heap.size ≤ q → A q := fun q h => by rw [hAe]; exact Or.inr h
  have hS : va_S A s.heap s.heap [] := va_S.rf
  have hl := lv_entry ([.ref (a 34), .ref (a 38)]) (n := 4) (Nat.le_of_ble_eq_true rfl)
  rw [lg_entry_eq]
  generalize (lg_sl ([.ref (a 34), .ref (a 38)]) ++ List.replicate (4 - (lg_sl ([.ref (a 34), .ref (a 38)])).length) Slot.unset).toArray = ls at hl ⊢
  have hl : lv_has ls 4 [(0, .ref (a 34)), (1, .ref (a 38))] := hl
  obtain ⟨u, hu9⟩ : ∃ u : SU, u = u0 := ⟨_, rfl⟩
  rw [← hu9] at hP hD
  have lp4 : ∀ (n4 : Nat) (y4_l2 : Int32) (y4_l3 : Int32) (u : SU) (H : Heap) (locs : List Loc) (ls : Array Slot), Rg 0 4095 y4_l2 → Rg 0 12 y4_l3 → va_P D cls (wX cI cS a na nc N L u) H → va_D A (wX cI cS a na nc N L u) → va_S A s.heap H locs → lv_has ls 4 [(0, .ref (a 34)), (1, .ref (a 38)), (2, .int y4_l2), (3, .int y4_l3)] → 12 - y4_l3.toInt < (n4 : Int) → W p l e (headSpec wsX9_layUnlike ({ frames := 1, cells := 0, slots := 0, locals := 40 })).room s m ([.ref (a 34), .ref (a 38)]).toArray below meth c H locs 0 0 (MQ below (QF (S := SU) D (wX cI cS a na nc N L u0) (wX cI cS a na nc N L) s.heap.size (fun r _ => Rg 0 4095 r ∧ True)) ([.ref (a 34), .ref (a 38)]).toArray s 0 0 (va_A (wX cI cS a na nc N L u0) s.heap.size)) (F0 m 4 ls []) := by
    intro n4
    induction n4 with
    | zero =>
      intro y4_l2 y4_l3 u H locs ls g4_l2 g4_l3 hP hD hS hl hm4
      exact absurd rfl (me_z g4_l3 hm4)
    | succ n4 ih4 =>
      intro y4_l2 y4_l3 u H locs ls g4_l2 g4_l3 hP hD hS hl hm4
      refine lv_iload_n hx hb dX9_layUnlike_4 rfl (lv_at hl 3 rfl) ?_
      refine lv_aload_n hx hb dX9_layUnlike_5 rfl (lv_at hl 0 rfl) ?_
      refine va_get (D := D) (ci := 9) (v := .ref (a 1)) (C := RX9) (T := TX9) (N := 6) hx hb hts hin9 hown hK hP 34 rfl rfl 0 (by decide) (hts (.fieldLink RX9 21 "MissedPoints$Told" "net" "LMissedPoints$Net;") (by decide +kernel)) (fun _ h9 => h9) rfl dX9_layUnlike_6 ?_
      refine va_getN (D := D) (ci := 2) (v := .int (L 1 1)) (C := RX2) (T := TX2) (N := 3) hx hb hts hin2 hown hK hP 1 rfl rfl 1 (by decide) (va_Nw.use rfl hKK.2.2.2.2.2.2.2.2.2.2.2.2.2.2.2.2.1) (fun _ h9 => h9) rfl dX9_layUnlike_9 ?_
      refine lv_icmp_ge (tgt := 74) hx hb dX9_layUnlike_12 (by decide) (fun c12265 => ?_) (fun c12265 => ?_)
      · refine lv_iload_n hx hb dX9_layUnlike_74 rfl (lv_at hl 2 rfl) ?_
        subst hAe
        exact W.iret (v := y4_l2) hx hb hr (fun t ht hW => ⟨⟨_, u, rfl, ⟨g4_l2, trivial⟩, by rw [ht]; exact hP, hD⟩, hS.F ht⟩) hS.2.2 dX9_layUnlike_75
      · have g12266 : Rg 1 12 (L 1 1) := rg_ltr g4_l3 hL.1 (rg_nle c12265) (by decide)
        have g12267 : Rg 0 11 y4_l3 := rg_ltl g4_l3 hL.1 (rg_nle c12265) (by decide)
        refine lv_aload_n hx hb dX9_layUnlike_15 rfl (lv_at hl 0 rfl) ?_
        refine va_get (D := D) (ci := 9) (v := .ref (a 37)) (C := RX9) (T := TX9) (N := 6) hx hb hts hin9 hown hK hP 34 rfl rfl 4 (by decide) (hts (.fieldLink RX9 18 "MissedPoints$Told" "unlike" "[I") (by decide +kernel)) (fun _ h9 => h9) rfl dX9_layUnlike_16 ?_
        refine lv_iload_n hx hb dX9_layUnlike_19 rfl (lv_at hl 3 rfl) ?_
        refine lv_iconst (v := 0) hx hb dX9_layUnlike_20 (by decide) ?_
        refine ks_ast hx hb hK hP hD hS rfl (k := 37) rfl sx_37 (rg_in g12267 (by decide) (by decide)) dX9_layUnlike_21 (fun u H locs hP hD hS => ?_)
        refine lv_aload_n hx hb dX9_layUnlike_22 rfl (lv_at hl 0 rfl) ?_
        refine va_get (D := D) (ci := 9) (v := .ref (a 35)) (C := RX9) (T := TX9) (N := 6) hx hb hts hin9 hown hK hP 34 rfl rfl 2 (by decide) (hts (.fieldLink RX9 9 "MissedPoints$Told" "mates" "[I") (by decide +kernel)) (fun _ h9 => h9) rfl dX9_layUnlike_23 ?_
        refine lv_iload_n hx hb dX9_layUnlike_26 rfl (lv_at hl 3 rfl) ?_
        refine wk_aldA hx hb hK hP 35 0 rfl rfl (rg_in g12267 (by decide) (by decide)) dX9_layUnlike_27 (fun r12268 => ?_)
        refine lv_aload_n hx hb dX9_layUnlike_28 rfl (lv_at hl 1 rfl) ?_
        refine va_get (D := D) (ci := 9) (v := .ref (a 39)) (C := RX9) (T := TX9) (N := 6) hx hb hts hin9 hown hK hP 38 rfl rfl 2 (by decide) (hts (.fieldLink RX9 9 "MissedPoints$Told" "mates" "[I") (by decide +kernel)) (fun _ h9 => h9) rfl dX9_layUnlike_29 ?_
        refine lv_iload_n hx hb dX9_layUnlike_32 rfl (lv_at hl 3 rfl) ?_
        refine wk_aldA hx hb hK hP 39 0 rfl rfl (rg_in g12267 (by decide) (by decide)) dX9_layUnlike_33 (fun r12269 => ?_)
        refine lv_icmp_eq (tgt := 68) hx hb dX9_layUnlike_34 (by decide) (fun c12270 => ?_) (fun c12270 => ?_)
        · refine wk_iinc (lv' := fun r => [(3, .int r), (0, .ref (a 34)), (1, .ref (a 38)), (2, .int y4_l2)]) (e1 := 1) (f := 12) hx hb dX9_layUnlike_68 hl (k := 3) rfl (by decide) g12267 (by decide) (fun _ => rfl) (fun r12271 ls hr12271 er12271 hl => ?_)
          refine lv_goto (tgt := 4) hx hb dX9_layUnlike_71 (by decide) ?_
          exact ih4 y4_l2 r12271 u _ _ ls g4_l2 (show Rg 0 12 r12271 from rg_w hr12271 (by decide) (by decide)) hP hD hS (lv_sub (l' := [(0, .ref (a 34)), (1, .ref (a 38)), (2, .int y4_l2), (3, .int r12271)]) hl [1, 2, 3, 0] rfl) (me_up hm4 er12271 (by decide))
        · refine lv_aload_n hx hb dX9_layUnlike_37 rfl (lv_at hl 0 rfl) ?_
          refine va_get (D := D) (ci := 9) (v := .ref (a 37)) (C := RX9) (T := TX9) (N := 6) hx hb hts hin9 hown hK hP 34 rfl rfl 4 (by decide) (hts (.fieldLink RX9 18 "MissedPoints$Told" "unlike" "[I") (by decide +kernel)) (fun _ h9 => h9) rfl dX9_layUnlike_38 ?_
          refine lv_iload_n hx hb dX9_layUnlike_41 rfl (lv_at hl 3 rfl) ?_
          refine lv_aload_n hx hb dX9_layUnlike_42 rfl (lv_at hl 0 rfl) ?_
          refine va_get (D := D) (ci := 9) (v := .ref (a 35)) (C := RX9) (T := TX9) (N := 6) hx hb hts hin9 hown hK hP 34 rfl rfl 2 (by decide) (hts (.fieldLink RX9 9 "MissedPoints$Told" "mates" "[I") (by decide +kernel)) (fun _ h9 => h9) rfl dX9_layUnlike_43 ?_
          refine lv_iload_n hx hb dX9_layUnlike_46 rfl (lv_at hl 3 rfl) ?_
          refine wk_aldA hx hb hK hP 35 0 rfl rfl (rg_in g12267 (by decide) (by decide)) dX9_layUnlike_47 (fun r12272 => ?_)
          refine lz_ss (As := [.int r12272]) (rest := [.int y4_l3, .ref (a 37)]) ⟨hx, hb, hml, hown, hts⟩ (k_X9_bitOf l D cI cS r12272) hKK (hP.sub (ws' := []) [] rfl) (va_cwS 1 hts gX9_layUnlike_X9_bitOf rfl rfl rfl (by decide +kernel) ⟨Nat.le_of_ble_eq_true rfl, Nat.le_of_ble_eq_true rfl⟩) rfl hl.1 rfl (Nat.le_of_ble_eq_true rfl) dX9_layUnlike_48 ⟨Nat.le_of_ble_eq_true rfl, Nat.le_of_ble_eq_true rfl⟩ (fun r12273 hr12273 => ?_)
          refine lv_aload_n hx hb dX9_layUnlike_51 rfl (lv_at hl 1 rfl) ?_
          refine va_get (D := D) (ci := 9) (v := .ref (a 39)) (C := RX9) (T := TX9) (N := 6) hx hb hts hin9 hown hK hP 38 rfl rfl 2 (by decide) (hts (.fieldLink RX9 9 "MissedPoints$Told" "mates" "[I") (by decide +kernel)) (fun _ h9 => h9) rfl dX9_layUnlike_52 ?_
          refine lv_iload_n hx hb dX9_layUnlike_55 rfl (lv_at hl 3 rfl) ?_
          refine wk_aldA hx hb hK hP 39 0 rfl rfl (rg_in g12267 (by decide) (by decide)) dX9_layUnlike_56 (fun r12274 => ?_)
          refine lz_ss (As := [.int r12274]) (rest := [.int r12273, .int y4_l3, .ref (a 37)]) ⟨hx, hb, hml, hown, hts⟩ (k_X9_bitOf l D cI cS r12274) hKK (hP.sub (ws' := []) [] rfl) (va_cwS 1 hts gX9_layUnlike_X9_bitOf rfl rfl rfl (by decide +kernel) ⟨Nat.le_of_ble_eq_true rfl, Nat.le_of_ble_eq_true rfl⟩) rfl hl.1 rfl (Nat.le_of_ble_eq_true rfl) dX9_layUnlike_57 ⟨Nat.le_of_ble_eq_true rfl, Nat.le_of_ble_eq_true rfl⟩ (fun r12275 hr12275 => ?_)
          refine lv_ior hx hb dX9_layUnlike_60 ?_
          refine wk_topP (P := fun r => r = r12273 ||| r12275) rfl (fun r12276 qr12276 => ?_)
          refine ks_ast hx hb hK hP hD hS rfl (k := 37) rfl sx_37 (rg_in g12267 (by decide) (by decide)) dX9_layUnlike_61 (fun u H locs hP hD hS => ?_)
          refine lv_iload_n hx hb dX9_layUnlike_62 rfl (lv_at hl 2 rfl) ?_
          refine lv_iconst (v := 1) hx hb dX9_layUnlike_63 (by decide) ?_
          refine lv_iload_n hx hb dX9_layUnlike_64 rfl (lv_at hl 3 rfl) ?_
          refine wk_ishl1 (f := 2048) hx hb dX9_layUnlike_65 g12267 (by decide) (fun r12277 hr12277 qr12277 => ?_)
          refine wk_ior 12 (e1 := 1) (f := 4095) hx hb dX9_layUnlike_66 g4_l2 hr12277 (by decide) (fun r12278 hr12278 qr12278 => ?_)
          refine lv_istore_n (lv' := [(2, .int r12278), (0, .ref (a 34)), (1, .ref (a 38)), (3, .int y4_l3)]) hx hb dX9_layUnlike_67 rfl hl (by decide) rfl (fun ls hl => ?_)
          refine wk_iinc (lv' := fun r => [(3, .int r), (2, .int r12278), (0, .ref (a 34)), (1, .ref (a 38))]) (e1 := 1) (f := 12) hx hb dX9_layUnlike_68 hl (k := 3) rfl (by decide) g12267 (by decide) (fun _ => rfl) (fun r12279 ls hr12279 er12279 hl => ?_)
          refine lv_goto (tgt := 4) hx hb dX9_layUnlike_71 (by decide) ?_
          exact ih4 r12278 r12279 u _ _ ls (show Rg 0 4095 r12278 from rg_w hr12278 (by decide) (by decide)) (show Rg 0 12 r12279 from rg_w hr12279 (by decide) (by decide)) hP hD hS (lv_sub (l' := [(0, .ref (a 34)), (1, .ref (a 38)), (2, .int r12278), (3, .int r12279)]) hl [2, 3, 1, 0] rfl) (me_up hm4 er12279 (by decide))
  refine lv_iconst (v := 0) hx hb dX9_layUnlike_0 (by decide) ?_
  refine lv_istore_n (lv' := [(2, .int 0), (0, .ref (a 34)), (1, .ref (a 38))]) hx hb dX9_layUnlike_1 rfl hl (by decide) rfl (fun ls hl => ?_)
  refine lv_iconst (v := 0) hx hb dX9_layUnlike_2 (by decide) ?_
  refine lv_istore_n (lv' := [(3, .int 0), (2, .int 0), (0, .ref (a 34)), (1, .ref (a 38))]) hx hb dX9_layUnlike_3 rfl hl (by decide) rfl (fun ls hl => ?_)
  exact lp4 13 (0 : Int32) (0 : Int32) u _ _ ls (by decide : Rg 0 4095 (0 : Int32)) (by decide : Rg 0 12 (0 : Int32)) hP hD hS (lv_sub (l' := [(0, .ref (a 34)), (1, .ref (a 38)), (2, .int 0), (3, .int 0)]) hl [2, 3, 1, 0] rfl) (me_i (by decide : Rg 0 12 (0 : Int32)) (by decide))
set_option maxHeartbeats 4000000 in
set_option maxRecDepth 100000 in
theorem k_X2_firstPiece_37 (l : Launch) (D : va_G) (cI cS : ClassId) (a : Nat → Nat) (na nc N : Nat) (L u : SU) (hL : TyX L) (hN : N = 0 ∨ N = 24576) (x0 : Int32) : Met l yX2_firstPiece wsX2_firstPiece ({ frames := 1, cells := 0, slots := 0, locals := 40 }) (PS D cI cS (wX cI cS a na nc N L u) [.ref (a 37), .int x0]) (vp_Si (fun r => Rg (-2147483648) 2147483647 r ∧ True)) 0 0 (fun _ => False) := by
  refine Met.ofW (cc := cX2_firstPiece) (maxL := 7) (ret := (some .int)) (by decide) rfl ?_
  intro p e s m args below meth c s₁ B hml hv
  obtain ⟨rfl, hP, hKK⟩ := hv
  have hx := B.exec
  have hb := B.bytes
  have hr := B.returns
  have hts := atoms_spec (ws := wsX2_firstPiece) B.pre
  have hown : s.vm.findClass RX2 = some m.cls := findClass_of_methodNamed B.named
  have hlocks := B.notSynchronized
  have hK := hKK.1
  have hl := lv_entry ([.ref (a 37), .int x0]) (n := 7) (Nat.le_of_ble_eq_true rfl)
  rw [lg_entry_eq]
  generalize (lg_sl ([.ref (a 37), .int x0]) ++ List.replicate (7 - (lg_sl ([.ref (a 37), .int x0])).length) Slot.unset).toArray = ls at hl ⊢
  have hl : lv_has ls 7 [(0, .ref (a 37)), (1, .int x0)] := hl
  have lp10 : ∀ (n10 : Nat) (y10_l2 : Int32) (y10_l3 : Int32) (y10_l4 : Int32) (ls : Array Slot), Rg 0 12 y10_l4 → lv_has ls 7 [(0, .ref (a 37)), (1, .int x0), (2, .int y10_l2), (3, .int y10_l3), (4, .int y10_l4)] → 12 - y10_l4.toInt < (n10 : Int) → W p l e (headSpec wsX2_firstPiece ({ frames := 1, cells := 0, slots := 0, locals := 40 })).room s m ([.ref (a 37), .int x0]).toArray below meth c s.heap [] 0 0 (MQ below (vp_Si (fun r => Rg (-2147483648) 2147483647 r ∧ True)) ([.ref (a 37), .int x0]).toArray s 0 0 (fun _ => False)) (F0 m 10 ls []) := by
    intro n10
    induction n10 with
    | zero =>
      intro y10_l2 y10_l3 y10_l4 ls g10_l4 hl hm10
      exact absurd rfl (me_z g10_l4 hm10)
    | succ n10 ih10 =>
      intro y10_l2 y10_l3 y10_l4 ls g10_l4 hl hm10
      refine lv_iload hx hb dX2_firstPiece_10 (lv_at hl 4 rfl) ?_
      refine lv_bipush (v := 12) hx hb dX2_firstPiece_12 (by decide) ?_
      refine lv_icmp_ge (tgt := 70) hx hb dX2_firstPiece_14 (by decide) (fun c12434 => ?_) (fun c12434 => ?_)
      · have g12435 : Rg 12 12 y10_l4 := rg_ler (by decide : Rg 12 12 (12 : Int32)) g10_l4 c12434 (by decide)
        refine lv_iload_n hx hb dX2_firstPiece_70 rfl (lv_at hl 2 rfl) ?_
        exact W.iret (v := y10_l2) hx hb hr (fun t ht hW => ⟨_, rfl, ⟨(rg_any y10_l2), trivial⟩, ht⟩) (fun q hq => absurd hq List.not_mem_nil) dX2_firstPiece_71
      · have g12436 : Rg 0 11 y10_l4 := rg_ltl g10_l4 (by decide : Rg 12 12 (12 : Int32)) (rg_nle c12434) (by decide)
        refine lv_iload_n hx hb dX2_firstPiece_17 rfl (lv_at hl 3 rfl) ?_
        refine lv_if_eq (tgt := 70) hx hb dX2_firstPiece_18 (by decide) (fun c12437 => ?_) (fun c12437 => ?_)
        · have g12438 : Rg 0 0 y10_l3 := wk_eql (rg_any y10_l3) (by decide : Rg 0 0 (0 : Int32)) c12437 (by decide)
          refine lv_iload_n hx hb dX2_firstPiece_70 rfl (lv_at hl 2 rfl) ?_
          exact W.iret (v := y10_l2) hx hb hr (fun t ht hW => ⟨_, rfl, ⟨(rg_any y10_l2), trivial⟩, ht⟩) (fun q hq => absurd hq List.not_mem_nil) dX2_firstPiece_71
        · refine lv_iload_n hx hb dX2_firstPiece_21 rfl (lv_at hl 3 rfl) ?_
          refine lz_ss (As := [.int y10_l3]) (rest := []) ⟨hx, hb, hml, hown, hts⟩ (k_J6_numberOfTrailingZeros_0f7a4 l D cI cS y10_l3) hKK (hP.sub (ws' := []) [] rfl) (va_cwS 1 hts gX2_firstPiece_J6_numberOfTrailingZeros_0f7a4 rfl rfl rfl (by decide +kernel) ⟨Nat.le_of_ble_eq_true rfl, Nat.le_of_ble_eq_true rfl⟩) rfl hl.1 rfl (Nat.le_of_ble_eq_true rfl) dX2_firstPiece_22 ⟨Nat.le_of_ble_eq_true rfl, Nat.le_of_ble_eq_true rfl⟩ (fun r12439 hr12439 => ?_)
          refine lv_istore (lv' := [(5, .int r12439), (0, .ref (a 37)), (1, .int x0), (2, .int y10_l2), (3, .int y10_l3), (4, .int y10_l4)]) hx hb dX2_firstPiece_25 hl (by decide) rfl (fun ls hl => ?_)
          refine lv_iload hx hb dX2_firstPiece_27 (lv_at hl 0 rfl) ?_
          refine lv_aload_n hx hb dX2_firstPiece_29 rfl (lv_at hl 1 rfl) ?_
          refine va_alen hx hb hK hP 37 0 rfl rfl (v := 12) rfl dX2_firstPiece_30 ?_
          refine lv_icmp_lt (tgt := 36) hx hb dX2_firstPiece_31 (by decide) (fun c12440 => ?_) (fun c12440 => ?_)
          · have g12441 : Rg 0 11 r12439 := rg_ltl hr12439.1 (by decide : Rg 12 12 (12 : Int32)) c12440 (by decide)
            refine lv_iload_n hx hb dX2_firstPiece_36 rfl (lv_at hl 4 rfl) ?_
            refine lv_iload_n hx hb dX2_firstPiece_37 rfl (lv_at hl 4 rfl) ?_
            refine lv_iconst (v := 1) hx hb dX2_firstPiece_38 (by decide) ?_
            refine lv_isub hx hb dX2_firstPiece_39 ?_
            refine wk_topP (P := fun r => r = y10_l3 - (1 : Int32)) rfl (fun r12442 qr12442 => ?_)
            refine lv_iand hx hb dX2_firstPiece_40 ?_
            refine wk_topP (P := fun r => r = y10_l3 &&& r12442) rfl (fun r12443 qr12443 => ?_)
            refine lv_istore_n (lv' := [(3, .int r12443), (5, .int r12439), (0, .ref (a 37)), (1, .int x0), (2, .int y10_l2), (4, .int y10_l4)]) hx hb dX2_firstPiece_41 rfl hl (by decide) rfl (fun ls hl => ?_)
            refine lv_aload_n hx hb dX2_firstPiece_42 rfl (lv_at hl 2 rfl) ?_
            refine lv_iload hx hb dX2_firstPiece_43 (lv_at hl 1 rfl) ?_
            refine wk_aldA hx hb hK hP 37 0 rfl rfl (rg_in g12441 (by decide) (by decide)) dX2_firstPiece_45 (fun r12444 => ?_)
            refine lv_iload_n hx hb dX2_firstPiece_46 rfl (lv_at hl 3 rfl) ?_
            refine lv_iand hx hb dX2_firstPiece_47 ?_
            refine wk_topP (P := fun r => r = r12444 &&& x0) rfl (fun r12445 qr12445 => ?_)
            refine lv_iload_n hx hb dX2_firstPiece_48 rfl (lv_at hl 4 rfl) ?_
            refine lv_iconst (v := (-1)) hx hb dX2_firstPiece_49 (by decide) ?_
            refine lv_ixor hx hb dX2_firstPiece_50 ?_
            refine wk_topP (P := fun r => r = y10_l2 ^^^ ((-1) : Int32)) rfl (fun r12446 qr12446 => ?_)
            refine lv_iand hx hb dX2_firstPiece_51 ?_
            refine wk_topP (P := fun r => r = r12445 &&& r12446) rfl (fun r12447 qr12447 => ?_)
            refine lv_istore (lv' := [(6, .int r12447), (3, .int r12443), (5, .int r12439), (0, .ref (a 37)), (1, .int x0), (2, .int y10_l2), (4, .int y10_l4)]) hx hb dX2_firstPiece_52 hl (by decide) rfl (fun ls hl => ?_)
            refine lv_iload_n hx hb dX2_firstPiece_54 rfl (lv_at hl 5 rfl) ?_
            refine lv_iload hx hb dX2_firstPiece_55 (lv_at hl 0 rfl) ?_
            refine lv_ior hx hb dX2_firstPiece_57 ?_
            refine wk_topP (P := fun r => r = y10_l2 ||| r12447) rfl (fun r12448 qr12448 => ?_)
            refine lv_istore_n (lv' := [(2, .int r12448), (6, .int r12447), (3, .int r12443), (5, .int r12439), (0, .ref (a 37)), (1, .int x0), (4, .int y10_l4)]) hx hb dX2_firstPiece_58 rfl hl (by decide) rfl (fun ls hl => ?_)
            refine lv_iload_n hx hb dX2_firstPiece_59 rfl (lv_at hl 2 rfl) ?_
            refine lv_iload hx hb dX2_firstPiece_60 (lv_at hl 1 rfl) ?_
            refine lv_ior hx hb dX2_firstPiece_62 ?_
            refine wk_topP (P := fun r => r = r12443 ||| r12447) rfl (fun r12449 qr12449 => ?_)
            refine lv_istore_n (lv' := [(3, .int r12449), (2, .int r12448), (6, .int r12447), (5, .int r12439), (0, .ref (a 37)), (1, .int x0), (4, .int y10_l4)]) hx hb dX2_firstPiece_63 rfl hl (by decide) rfl (fun ls hl => ?_)
            refine wk_iinc (lv' := fun r => [(4, .int r), (3, .int r12449), (2, .int r12448), (6, .int r12447), (5, .int r12439), (0, .ref (a 37)), (1, .int x0)]) (e1 := 1) (f := 12) hx hb dX2_firstPiece_64 hl (k := 6) rfl (by decide) g12436 (by decide) (fun _ => rfl) (fun r12450 ls hr12450 er12450 hl => ?_)
            refine lv_goto (tgt := 10) hx hb dX2_firstPiece_67 (by decide) ?_
            exact ih10 r12448 r12449 r12450 ls (show Rg 0 12 r12450 from rg_w hr12450 (by decide) (by decide)) (lv_sub (l' := [(0, .ref (a 37)), (1, .int x0), (2, .int r12448), (3, .int r12449), (4, .int r12450)]) hl [5, 6, 2, 1, 0] rfl) (me_up hm10 er12450 (by decide))
          · have g12451 : Rg 12 33 r12439 := rg_ler (by decide : Rg 12 12 (12 : Int32)) hr12439.1 (rg_nlt c12440) (by decide)
            refine lv_iload_n hx hb dX2_firstPiece_34 rfl (lv_at hl 3 rfl) ?_
            exact W.iret (v := y10_l2) hx hb hr (fun t ht hW => ⟨_, rfl, ⟨(rg_any y10_l2), trivial⟩, ht⟩) (fun q hq => absurd hq List.not_mem_nil) dX2_firstPiece_35
  refine lv_iload_n hx hb dX2_firstPiece_0 rfl (lv_at hl 1 rfl) ?_
  refine lz_ss (As := [.int x0]) (rest := []) ⟨hx, hb, hml, hown, hts⟩ (k_J6_lowestOneBit_0f7a4 l D cI cS x0) hKK (hP.sub (ws' := []) [] rfl) (va_cwS 1 hts gX2_firstPiece_J6_lowestOneBit_0f7a4 rfl rfl rfl (by decide +kernel) ⟨Nat.le_of_ble_eq_true rfl, Nat.le_of_ble_eq_true rfl⟩) rfl hl.1 rfl (Nat.le_of_ble_eq_true rfl) dX2_firstPiece_1 ⟨Nat.le_of_ble_eq_true rfl, Nat.le_of_ble_eq_true rfl⟩ (fun r12452 hr12452 => ?_)
  refine lv_istore_n (lv' := [(2, .int r12452), (0, .ref (a 37)), (1, .int x0)]) hx hb dX2_firstPiece_4 rfl hl (by decide) rfl (fun ls hl => ?_)
  refine lv_iload_n hx hb dX2_firstPiece_5 rfl (lv_at hl 0 rfl) ?_
  refine lv_istore_n (lv' := [(3, .int r12452), (2, .int r12452), (0, .ref (a 37)), (1, .int x0)]) hx hb dX2_firstPiece_6 rfl hl (by decide) rfl (fun ls hl => ?_)
  refine lv_iconst (v := 0) hx hb dX2_firstPiece_7 (by decide) ?_
  refine lv_istore (lv' := [(4, .int 0), (3, .int r12452), (2, .int r12452), (0, .ref (a 37)), (1, .int x0)]) hx hb dX2_firstPiece_8 hl (by decide) rfl (fun ls hl => ?_)
  exact lp10 13 r12452 r12452 (0 : Int32) ls (by decide : Rg 0 12 (0 : Int32)) (lv_sub (l' := [(0, .ref (a 37)), (1, .int x0), (2, .int r12452), (3, .int r12452), (4, .int 0)]) hl [3, 4, 2, 1, 0] rfl) (me_i (by decide : Rg 0 12 (0 : Int32)) (by decide))
