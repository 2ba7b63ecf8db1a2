set_option maxRecDepth 20000 in
theorem ggX9_goOn_X2_near : GoodIn wsX9_goOn wsX2_near := goodIn_r _ [8, 9, 10, 11, 12, 7, 13, 14, 25, 26, 27] (by decide +kernel) (by decide +kernel)
set_option maxRecDepth 20000 in
theorem gX9_goOn_X2_near : GoodIn wsX9_goOn (wsV RX9 88 RX2 yX2_near wsX2_near) := goodIn_app (goodIn_of _ (by decide +kernel)) ggX9_goOn_X2_near
set_option maxRecDepth 20000 in
theorem ggX9_goOn_X9_goOn : GoodIn wsX9_goOn wsX9_goOn := goodIn_r _ [0, 1, 2, 3, 4, 5, 6, 7, 8, 9, 10, 11, 12, 13, 14, 15, 16, 17, 18, 19, 20, 21, 22, 23, 24, 25, 26, 27] (by decide +kernel) (by decide +kernel)
set_option maxRecDepth 20000 in
theorem gX9_goOn_X9_goOn : GoodIn wsX9_goOn (wsV RX9 84 RX9 yX9_goOn wsX9_goOn) := goodIn_app (goodIn_of _ (by decide +kernel)) ggX9_goOn_X9_goOn
theorem dX9_goOn_0 : decode cX9_goOn 0 = .ok (.iload_n 1, 1) := by decide +kernel
theorem dX9_goOn_1 : decode cX9_goOn 1 = .ok (.iconst 1, 1) := by decide +kernel
theorem dX9_goOn_10 : decode cX9_goOn 10 = .ok (.iload_n 2, 1) := by decide +kernel
theorem dX9_goOn_11 : decode cX9_goOn 11 = .ok (.bipush 12, 2) := by decide +kernel
theorem dX9_goOn_13 : decode cX9_goOn 13 = .ok (.if_icmp .le 5, 3) := by decide +kernel
theorem dX9_goOn_16 : decode cX9_goOn 16 = .ok (.iconst 0, 1) := by decide +kernel
theorem dX9_goOn_17 : decode cX9_goOn 17 = .ok (.ireturn, 1) := by decide +kernel
theorem dX9_goOn_2 : decode cX9_goOn 2 = .ok (.if_icmp .lt 14, 3) := by decide +kernel
theorem dX9_goOn_5 : decode cX9_goOn 5 = .ok (.iload_n 1, 1) := by decide +kernel
theorem dX9_goOn_6 : decode cX9_goOn 6 = .ok (.iload_n 2, 1) := by decide +kernel
theorem dX9_goOn_7 : decode cX9_goOn 7 = .ok (.if_icmp .ge 9, 3) := by decide +kernel
theorem dX9_goOn_101 : decode cX9_goOn 101 = .ok (.aload_n 0, 1) := by decide +kernel
theorem dX9_goOn_102 : decode cX9_goOn 102 = .ok (.getfield 15, 3) := by decide +kernel
theorem dX9_goOn_105 : decode cX9_goOn 105 = .ok (.iload_n 1, 1) := by decide +kernel
theorem dX9_goOn_106 : decode cX9_goOn 106 = .ok (.iload 6, 2) := by decide +kernel
theorem dX9_goOn_108 : decode cX9_goOn 108 = .ok (.iastore, 1) := by decide +kernel
theorem dX9_goOn_109 : decode cX9_goOn 109 = .ok (.iload 4, 2) := by decide +kernel
theorem dX9_goOn_111 : decode cX9_goOn 111 = .ok (.ifCond .eq 5, 3) := by decide +kernel
theorem dX9_goOn_114 : decode cX9_goOn 114 = .ok (.iconst 1, 1) := by decide +kernel
theorem dX9_goOn_115 : decode cX9_goOn 115 = .ok (.ireturn, 1) := by decide +kernel
theorem dX9_goOn_116 : decode cX9_goOn 116 = .ok (.aload_n 0, 1) := by decide +kernel
theorem dX9_goOn_117 : decode cX9_goOn 117 = .ok (.getfield 15, 3) := by decide +kernel
theorem dX9_goOn_120 : decode cX9_goOn 120 = .ok (.iload_n 1, 1) := by decide +kernel
theorem dX9_goOn_121 : decode cX9_goOn 121 = .ok (.iconst 1, 1) := by decide +kernel
theorem dX9_goOn_122 : decode cX9_goOn 122 = .ok (.iadd, 1) := by decide +kernel
theorem dX9_goOn_123 : decode cX9_goOn 123 = .ok (.aload_n 0, 1) := by decide +kernel
theorem dX9_goOn_124 : decode cX9_goOn 124 = .ok (.getfield 9, 3) := by decide +kernel
theorem dX9_goOn_127 : decode cX9_goOn 127 = .ok (.iload 6, 2) := by decide +kernel
theorem dX9_goOn_129 : decode cX9_goOn 129 = .ok (.iaload, 1) := by decide +kernel
theorem dX9_goOn_130 : decode cX9_goOn 130 = .ok (.iastore, 1) := by decide +kernel
theorem dX9_goOn_131 : decode cX9_goOn 131 = .ok (.aload_n 0, 1) := by decide +kernel
theorem dX9_goOn_132 : decode cX9_goOn 132 = .ok (.iload_n 1, 1) := by decide +kernel
theorem dX9_goOn_133 : decode cX9_goOn 133 = .ok (.iconst 2, 1) := by decide +kernel
theorem dX9_goOn_134 : decode cX9_goOn 134 = .ok (.iadd, 1) := by decide +kernel
theorem dX9_goOn_135 : decode cX9_goOn 135 = .ok (.iload_n 2, 1) := by decide +kernel
theorem dX9_goOn_136 : decode cX9_goOn 136 = .ok (.iload_n 3, 1) := by decide +kernel
theorem dX9_goOn_137 : decode cX9_goOn 137 = .ok (.iconst 1, 1) := by decide +kernel
theorem dX9_goOn_138 : decode cX9_goOn 138 = .ok (.iload 6, 2) := by decide +kernel
theorem dX9_goOn_140 : decode cX9_goOn 140 = .ok (.ishl, 1) := by decide +kernel
theorem dX9_goOn_141 : decode cX9_goOn 141 = .ok (.ior, 1) := by decide +kernel
theorem dX9_goOn_142 : decode cX9_goOn 142 = .ok (.iconst 1, 1) := by decide +kernel
theorem dX9_goOn_143 : decode cX9_goOn 143 = .ok (.aload_n 0, 1) := by decide +kernel
theorem dX9_goOn_144 : decode cX9_goOn 144 = .ok (.getfield 9, 3) := by decide +kernel
theorem dX9_goOn_147 : decode cX9_goOn 147 = .ok (.iload 6, 2) := by decide +kernel
theorem dX9_goOn_149 : decode cX9_goOn 149 = .ok (.iaload, 1) := by decide +kernel
theorem dX9_goOn_150 : decode cX9_goOn 150 = .ok (.ishl, 1) := by decide +kernel
theorem dX9_goOn_151 : decode cX9_goOn 151 = .ok (.ior, 1) := by decide +kernel
theorem dX9_goOn_152 : decode cX9_goOn 152 = .ok (.invokevirtual 84, 3) := by decide +kernel
theorem dX9_goOn_155 : decode cX9_goOn 155 = .ok (.ifCond .eq 5, 3) := by decide +kernel
theorem dX9_goOn_158 : decode cX9_goOn 158 = .ok (.iconst 1, 1) := by decide +kernel
theorem dX9_goOn_159 : decode cX9_goOn 159 = .ok (.ireturn, 1) := by decide +kernel
theorem dX9_goOn_160 : decode cX9_goOn 160 = .ok (.iinc 6 1, 3) := by decide +kernel
theorem dX9_goOn_163 : decode cX9_goOn 163 = .ok (.goto (-107), 3) := by decide +kernel
theorem dX9_goOn_166 : decode cX9_goOn 166 = .ok (.iconst 0, 1) := by decide +kernel
theorem dX9_goOn_167 : decode cX9_goOn 167 = .ok (.ireturn, 1) := by decide +kernel
theorem dX9_goOn_18 : decode cX9_goOn 18 = .ok (.iload_n 1, 1) := by decide +kernel
theorem dX9_goOn_19 : decode cX9_goOn 19 = .ok (.iload_n 2, 1) := by decide +kernel
theorem dX9_goOn_20 : decode cX9_goOn 20 = .ok (.iconst 1, 1) := by decide +kernel
theorem dX9_goOn_21 : decode cX9_goOn 21 = .ok (.isub, 1) := by decide +kernel
theorem dX9_goOn_22 : decode cX9_goOn 22 = .ok (.if_icmp .ne 7, 3) := by decide +kernel
theorem dX9_goOn_25 : decode cX9_goOn 25 = .ok (.iconst 1, 1) := by decide +kernel
theorem dX9_goOn_26 : decode cX9_goOn 26 = .ok (.goto 4, 3) := by decide +kernel
theorem dX9_goOn_29 : decode cX9_goOn 29 = .ok (.iconst 0, 1) := by decide +kernel
theorem dX9_goOn_30 : decode cX9_goOn 30 = .ok (.istore 4, 2) := by decide +kernel
theorem dX9_goOn_32 : decode cX9_goOn 32 = .ok (.aload_n 0, 1) := by decide +kernel
theorem dX9_goOn_33 : decode cX9_goOn 33 = .ok (.getfield 21, 3) := by decide +kernel
theorem dX9_goOn_36 : decode cX9_goOn 36 = .ok (.aload_n 0, 1) := by decide +kernel
theorem dX9_goOn_37 : decode cX9_goOn 37 = .ok (.getfield 15, 3) := by decide +kernel
theorem dX9_goOn_40 : decode cX9_goOn 40 = .ok (.iload_n 1, 1) := by decide +kernel
theorem dX9_goOn_41 : decode cX9_goOn 41 = .ok (.iconst 1, 1) := by decide +kernel
theorem dX9_goOn_42 : decode cX9_goOn 42 = .ok (.isub, 1) := by decide +kernel
theorem dX9_goOn_43 : decode cX9_goOn 43 = .ok (.iaload, 1) := by decide +kernel
theorem dX9_goOn_44 : decode cX9_goOn 44 = .ok (.invokevirtual 88, 3) := by decide +kernel
theorem dX9_goOn_47 : decode cX9_goOn 47 = .ok (.iload_n 3, 1) := by decide +kernel
theorem dX9_goOn_48 : decode cX9_goOn 48 = .ok (.iconst (-1), 1) := by decide +kernel
theorem dX9_goOn_49 : decode cX9_goOn 49 = .ok (.ixor, 1) := by decide +kernel
theorem dX9_goOn_50 : decode cX9_goOn 50 = .ok (.iand, 1) := by decide +kernel
theorem dX9_goOn_51 : decode cX9_goOn 51 = .ok (.istore 5, 2) := by decide +kernel
theorem dX9_goOn_53 : decode cX9_goOn 53 = .ok (.iconst 0, 1) := by decide +kernel
theorem dX9_goOn_54 : decode cX9_goOn 54 = .ok (.istore 6, 2) := by decide +kernel
theorem dX9_goOn_56 : decode cX9_goOn 56 = .ok (.iload 6, 2) := by decide +kernel
theorem dX9_goOn_58 : decode cX9_goOn 58 = .ok (.aload_n 0, 1) := by decide +kernel
theorem dX9_goOn_59 : decode cX9_goOn 59 = .ok (.getfield 21, 3) := by decide +kernel
theorem dX9_goOn_62 : decode cX9_goOn 62 = .ok (.getfield 41, 3) := by decide +kernel
theorem dX9_goOn_65 : decode cX9_goOn 65 = .ok (.if_icmp .ge 101, 3) := by decide +kernel
theorem dX9_goOn_68 : decode cX9_goOn 68 = .ok (.iload 5, 2) := by decide +kernel
theorem dX9_goOn_70 : decode cX9_goOn 70 = .ok (.iload 6, 2) := by decide +kernel
theorem dX9_goOn_72 : decode cX9_goOn 72 = .ok (.ishr, 1) := by decide +kernel
theorem dX9_goOn_73 : decode cX9_goOn 73 = .ok (.iconst 1, 1) := by decide +kernel
theorem dX9_goOn_74 : decode cX9_goOn 74 = .ok (.iand, 1) := by decide +kernel
theorem dX9_goOn_75 : decode cX9_goOn 75 = .ok (.ifCond .eq 85, 3) := by decide +kernel
theorem dX9_goOn_78 : decode cX9_goOn 78 = .ok (.iload 4, 2) := by decide +kernel
theorem dX9_goOn_80 : decode cX9_goOn 80 = .ok (.aload_n 0, 1) := by decide +kernel
theorem dX9_goOn_81 : decode cX9_goOn 81 = .ok (.getfield 9, 3) := by decide +kernel
theorem dX9_goOn_84 : decode cX9_goOn 84 = .ok (.iload 6, 2) := by decide +kernel
theorem dX9_goOn_86 : decode cX9_goOn 86 = .ok (.iaload, 1) := by decide +kernel
theorem dX9_goOn_87 : decode cX9_goOn 87 = .ok (.ifCond .ge 7, 3) := by decide +kernel
theorem dX9_goOn_90 : decode cX9_goOn 90 = .ok (.iconst 1, 1) := by decide +kernel
theorem dX9_goOn_91 : decode cX9_goOn 91 = .ok (.goto 4, 3) := by decide +kernel
theorem dX9_goOn_94 : decode cX9_goOn 94 = .ok (.iconst 0, 1) := by decide +kernel
theorem dX9_goOn_95 : decode cX9_goOn 95 = .ok (.if_icmp .eq 6, 3) := by decide +kernel
theorem dX9_goOn_98 : decode cX9_goOn 98 = .ok (.goto 62, 3) := by decide +kernel
set_option maxHeartbeats 8000000 in
set_option maxRecDepth 100000 in
theorem k_X9_goOn_r (l : Launch) (D : va_G) (cI cS : ClassId) (a : Nat → Nat) (na nc N : Nat) (L : SU) (hL : TyX L) (hN : N = 0 ∨ N = 24576) : ∀ (n sz : Nat) (u0 : SU) (x0 x1 x2 : Int32), Rg 1 13 x0 → 13 - x0.toInt ≤ (n : Int) → Met l yX9_goOn wsX9_goOn ({ frames := n + 1, cells := 0, slots := 0, locals := 40 * (n + 1) }) (PQ D cI cS (wX cI cS a na nc N L u0) sz [.ref (a 34), .int x0, .int x1, .int x2]) (QF (S := SU) D (wX cI cS a na nc N L u0) (wX cI cS a na nc N L) sz (fun r _ => Rg 0 1 r ∧ True)) 0 0 (va_A (wX cI cS a na nc N L u0) sz) := by
  intro n
  induction n with
  | zero =>
    intro sz u0 x0 x1 x2 px0 hrk
    have px0 : Rg 13 13 x0 := ⟨by omega, px0.2⟩
    refine Met.ofW (cc := cX9_goOn) (maxL := 7) (ret := (some .boolean)) (by decide) rfl ?_
    intro p e s m args below meth c s₁ B hml hv
    obtain ⟨rfl, hsz, hP, hKK, hD0⟩ := hv
    have hx := B.exec
    have hb := B.bytes
    have hr := B.returns
    have hts := atoms_spec (ws := wsX9_goOn) B.pre
    have hown : s.vm.findClass RX9 = some m.cls := findClass_of_methodNamed B.named
    have hlocks := B.notSynchronized
    have hK := hKK.1
    subst hsz
    have hD := hD0.self (sz := s.heap.size)
    obtain ⟨A, hAe⟩ : ∃ A, A = va_A (wX cI cS a na nc N L u0) s.heap.size := ⟨_, rfl⟩
    rw [← hAe] at hD
    have hA : ∀ q : Nat, s.heap.size ≤ q → A q := fun q h => by rw [hAe]; exact Or.inr h
    have hS : va_S A s.heap s.heap [] := va_S.rf
    have hl := lv_entry ([.ref (a 34), .int x0, .int x1, .int x2]) (n := 7) (Nat.le_of_ble_eq_true rfl)
    rw [lg_entry_eq]
    generalize (lg_sl ([.ref (a 34), .int x0, .int x1, .int x2]) ++ List.replicate (7 - (lg_sl ([.ref (a 34), .int x0, .int x1, .int x2])).length) Slot.unset).toArray = ls at hl ⊢
    have hl : lv_has ls 7 [(0, .ref (a 34)), (1, .int x0), (2, .int x1), (3, .int x2)] := hl
    obtain ⟨u, hu9⟩ : ∃ u : SU, u = u0 := ⟨_, rfl⟩
    rw [← hu9] at hP hD
    refine lv_iload_n hx hb dX9_goOn_0 rfl (lv_at hl 1 rfl) ?_
    refine lv_iconst (v := 1) hx hb dX9_goOn_1 (by decide) ?_
    refine lv_icmp_lt (tgt := 16) hx hb dX9_goOn_2 (by decide) (fun c34398 => ?_) (fun c34398 => ?_)
    · exact absurd c34398 (wk_nlt px0 (by decide : Rg 1 1 (1 : Int32)) (by decide))
    · refine lv_iload_n hx hb dX9_goOn_5 rfl (lv_at hl 1 rfl) ?_
      refine lv_iload_n hx hb dX9_goOn_6 rfl (lv_at hl 2 rfl) ?_
      refine lv_icmp_ge (tgt := 16) hx hb dX9_goOn_7 (by decide) (fun c34399 => ?_) (fun c34399 => ?_)
      · have g34400 : Rg (-2147483648) 13 x1 := rg_lel (rg_any x1) px0 c34399 (by decide)
        refine lv_iconst (v := 0) hx hb dX9_goOn_16 (by decide) ?_
        subst hAe
        exact W.zret (v := 0) hx hb hr (by decide) (fun t ht hW => ⟨⟨_, u, rfl, ⟨(by decide : Rg 0 1 (0 : Int32)), trivial⟩, by rw [ht]; exact hP, hD⟩, hS.F ht⟩) hS.2.2 dX9_goOn_17
      · have g34401 : Rg 14 2147483647 x1 := rg_ltr px0 (rg_any x1) (rg_nle c34399) (by decide)
        refine lv_iload_n hx hb dX9_goOn_10 rfl (lv_at hl 2 rfl) ?_
        refine lv_bipush (v := 12) hx hb dX9_goOn_11 (by decide) ?_
        refine lv_icmp_le (tgt := 18) hx hb dX9_goOn_13 (by decide) (fun c34402 => ?_) (fun c34402 => ?_)
        · exact absurd c34402 (wk_nle g34401 (by decide : Rg 12 12 (12 : Int32)) (by decide))
        · refine lv_iconst (v := 0) hx hb dX9_goOn_16 (by decide) ?_
          subst hAe
          exact W.zret (v := 0) hx hb hr (by decide) (fun t ht hW => ⟨⟨_, u, rfl, ⟨(by decide : Rg 0 1 (0 : Int32)), trivial⟩, by rw [ht]; exact hP, hD⟩, hS.F ht⟩) hS.2.2 dX9_goOn_17
  | succ n ih =>
    intro sz u0 x0 x1 x2 px0 hrk
    refine Met.ofW (cc := cX9_goOn) (maxL := 7) (ret := (some .boolean)) (by decide) rfl ?_
    intro p e s m args below meth c s₁ B hml hv
    obtain ⟨rfl, hsz, hP, hKK, hD0⟩ := hv
    have hx := B.exec
    have hb := B.bytes
    have hr := B.returns
    have hts := atoms_spec (ws := wsX9_goOn) B.pre
    have hown : s.vm.findClass RX9 = some m.cls := findClass_of_methodNamed B.named
    have hlocks := B.notSynchronized
    have hK := hKK.1
    have hin2 : ∀ w ∈ wsX20, w ∈ wsX9_goOn := by decide +kernel
    have hin9 : ∀ w ∈ wsX90, w ∈ wsX9_goOn := by decide +kernel
    subst hsz
    have hD := hD0.self (sz := s.heap.size)
    obtain ⟨A, hAe⟩ : ∃ A, A = va_A (wX cI cS a na nc N L u0) s.heap.size := ⟨_, rfl⟩
    rw [← hAe] at hD
    have hA : ∀ q : Nat, s.heap.size ≤ q → A q := fun q h => by rw [hAe]; exact Or.inr h
    have hS : va_S A s.heap s.heap [] := va_S.rf
    have hl := lv_entry ([.ref (a 34), .int x0, .int x1, .int x2]) (n := 7) (Nat.le_of_ble_eq_true rfl)
    rw [lg_entry_eq]
    generalize (lg_sl ([.ref (a 34), .int x0, .int x1, .int x2]) ++ List.replicate (7 - (lg_sl ([.ref (a 34), .int x0, .int x1, .int x2])).length) Slot.unset).toArray = ls at hl ⊢
    have hl : lv_has ls 7 [(0, .ref (a 34)), (1, .int x0), (2, .int x1), (3, .int x2)] := hl
    obtain ⟨u, hu9⟩ : ∃ u : SU, u = u0 := ⟨_, rfl⟩
    rw [← hu9] at hP hD
    have lp56 : ∀ (n56 : Nat) (y56_l4 : Int32) (y56_l5 : Int32) (y56_l6 : Int32) (u : SU) (H : Heap) (locs : List Loc) (ls : Array Slot), Rg 1 11 x0 → Rg 2 12 x1 → Rg 0 1 y56_l4 → Rg 0 12 y56_l6 → (y56_l4 = 0 → x0.toInt ≤ 10) → va_P D cls (wX cI cS a na nc N L u) H → va_D A (wX cI cS a na nc N L u) → va_S A s.heap H locs → lv_has ls 7 [(0, .ref (a 34)), (1, .int x0), (2, .int x1), (3, .int x2), (4, .int y56_l4), (5, .int y56_l5), (6, .int y56_l6)] → 12 - y56_l6.toInt < (n56 : Int) → W p l e (headSpec wsX9_goOn ({ frames := n + 1 + 1, cells := 0, slots := 0, locals := 40 * (n + 1 + 1) })).room s m ([.ref (a 34), .int x0, .int x1, .int x2]).toArray below meth c H locs 0 0 (MQ below (QF (S := SU) D (wX cI cS a na nc N L u0) (wX cI cS a na nc N L) s.heap.size (fun r _ => Rg 0 1 r ∧ True)) ([.ref (a 34), .int x0, .int x1, .int x2]).toArray s 0 0 (va_A (wX cI cS a na nc N L u0) s.heap.size)) (F0 m 56 ls []) := by
      intro n56
      induction n56 with
      | zero =>
        intro y56_l4 y56_l5 y56_l6 u H locs ls g56_l1 g56_l2 g56_l4 g56_l6 x56_0 hP hD hS hl hm56
        exact absurd rfl (me_z g56_l6 hm56)
      | succ n56 ih56 =>
        intro y56_l4 y56_l5 y56_l6 u H locs ls g56_l1 g56_l2 g56_l4 g56_l6 x56_0 hP hD hS hl hm56
        have ct95 : ∀ (y95_s0 : Int32) (u : SU) (H : Heap) (locs : List Loc) (ls : Array Slot), Rg 1 11 x0 → Rg 2 12 x1 → Rg 0 1 y56_l4 → Rg 0 11 y56_l6 → Rg 0 1 y95_s0 → Rg 0 1 y56_l4 → va_P D cls (wX cI cS a na nc N L u) H → va_D A (wX cI cS a na nc N L u) → va_S A s.heap H locs → lv_has ls 7 [(0, .ref (a 34)), (1, .int x0), (2, .int x1), (3, .int x2), (4, .int y56_l4), (5, .int y56_l5), (6, .int y56_l6)] → W p l e (headSpec wsX9_goOn ({ frames := n + 1 + 1, cells := 0, slots := 0, locals := 40 * (n + 1 + 1) })).room s m ([.ref (a 34), .int x0, .int x1, .int x2]).toArray below meth c H locs 0 0 (MQ below (QF (S := SU) D (wX cI cS a na nc N L u0) (wX cI cS a na nc N L) s.heap.size (fun r _ => Rg 0 1 r ∧ True)) ([.ref (a 34), .int x0, .int x1, .int x2]).toArray s 0 0 (va_A (wX cI cS a na nc N L u0) s.heap.size)) (F0 m 95 ls [.int y95_s0, .int y56_l4]) := by
          intro y95_s0 u H locs ls g95_l1 g95_l2 g95_l4 g95_l6 g95_s0 g95_s1 hP hD hS hl
          refine lv_icmp_eq (tgt := 101) hx hb dX9_goOn_95 (by decide) (fun c34847 => ?_) (fun c34847 => ?_)
          · refine lv_aload_n hx hb dX9_goOn_101 rfl (lv_at hl 0 rfl) ?_
            refine va_get (D := D) (ci := 9) (v := .ref (a 36)) (C := RX9) (T := TX9) (N := 6) hx hb hts hin9 hown hK hP 34 rfl rfl 3 (by decide) (hts (.fieldLink RX9 15 "MissedPoints$Told" "row" "[I") (by decide +kernel)) (fun _ h9 => h9) rfl dX9_goOn_102 ?_
            refine lv_iload_n hx hb dX9_goOn_105 rfl (lv_at hl 1 rfl) ?_
            refine lv_iload hx hb dX9_goOn_106 (lv_at hl 6 rfl) ?_
            refine ks_ast hx hb hK hP hD hS rfl (k := 36) rfl sx_36 (rg_in g95_l1 (by decide) (by decide)) dX9_goOn_108 (fun u H locs hP hD hS => ?_)
            refine lv_iload hx hb dX9_goOn_109 (lv_at hl 4 rfl) ?_
            refine lv_if_eq (tgt := 116) hx hb dX9_goOn_111 (by decide) (fun c34848 => ?_) (fun c34848 => ?_)
            · have g34849 : Rg 0 0 y56_l4 := wk_eql g95_l4 (by decide : Rg 0 0 (0 : Int32)) c34848 (by decide)
              have g34850 : Rg 1 10 x0 := ⟨g95_l1.1, x56_0 c34848⟩
              refine lv_aload_n hx hb dX9_goOn_116 rfl (lv_at hl 0 rfl) ?_
              refine va_get (D := D) (ci := 9) (v := .ref (a 36)) (C := RX9) (T := TX9) (N := 6) hx hb hts hin9 hown hK hP 34 rfl rfl 3 (by decide) (hts (.fieldLink RX9 15 "MissedPoints$Told" "row" "[I") (by decide +kernel)) (fun _ h9 => h9) rfl dX9_goOn_117 ?_
              refine lv_iload_n hx hb dX9_goOn_120 rfl (lv_at hl 1 rfl) ?_
              refine lv_iconst (v := 1) hx hb dX9_goOn_121 (by decide) ?_
              refine wk_iadd (e1 := 2) (f := 11) hx hb dX9_goOn_122 g34850 (by decide : Rg 1 1 (1 : Int32)) (by decide) (fun r34851 hr34851 er34851 qr34851 => ?_)
              refine lv_aload_n hx hb dX9_goOn_123 rfl (lv_at hl 0 rfl) ?_
              refine va_get (D := D) (ci := 9) (v := .ref (a 35)) (C := RX9) (T := TX9) (N := 6) hx hb hts hin9 hown hK hP 34 rfl rfl 2 (by decide) (hts (.fieldLink RX9 9 "MissedPoints$Told" "mates" "[I") (by decide +kernel)) (fun _ h9 => h9) rfl dX9_goOn_124 ?_
              refine lv_iload hx hb dX9_goOn_127 (lv_at hl 6 rfl) ?_
              refine wk_aldA hx hb hK hP 35 0 rfl rfl (rg_in g95_l6 (by decide) (by decide)) dX9_goOn_129 (fun r34852 => ?_)
              refine ks_ast hx hb hK hP hD hS rfl (k := 36) rfl sx_36 (rg_in hr34851 (by decide) (by decide)) dX9_goOn_130 (fun u H locs hP hD hS => ?_)
              refine lv_aload_n hx hb dX9_goOn_131 rfl (lv_at hl 0 rfl) ?_
              refine lv_iload_n hx hb dX9_goOn_132 rfl (lv_at hl 1 rfl) ?_
              refine lv_iconst (v := 2) hx hb dX9_goOn_133 (by decide) ?_
              refine wk_iadd (e1 := 3) (f := 12) hx hb dX9_goOn_134 g34850 (by decide : Rg 2 2 (2 : Int32)) (by decide) (fun r34853 hr34853 er34853 qr34853 => ?_)
              refine lv_iload_n hx hb dX9_goOn_135 rfl (lv_at hl 2 rfl) ?_
              refine lv_iload_n hx hb dX9_goOn_136 rfl (lv_at hl 3 rfl) ?_
              refine lv_iconst (v := 1) hx hb dX9_goOn_137 (by decide) ?_
              refine lv_iload hx hb dX9_goOn_138 (lv_at hl 6 rfl) ?_
              refine wk_ishl1 (f := 2048) hx hb dX9_goOn_140 g95_l6 (by decide) (fun r34854 hr34854 qr34854 => ?_)
              refine lv_ior hx hb dX9_goOn_141 ?_
              refine wk_topP (P := fun r => r = x2 ||| r34854) rfl (fun r34855 qr34855 => ?_)
              refine lv_iconst (v := 1) hx hb dX9_goOn_142 (by decide) ?_
              refine lv_aload_n hx hb dX9_goOn_143 rfl (lv_at hl 0 rfl) ?_
              refine va_get (D := D) (ci := 9) (v := .ref (a 35)) (C := RX9) (T := TX9) (N := 6) hx hb hts hin9 hown hK hP 34 rfl rfl 2 (by decide) (hts (.fieldLink RX9 9 "MissedPoints$Told" "mates" "[I") (by decide +kernel)) (fun _ h9 => h9) rfl dX9_goOn_144 ?_
              refine lv_iload hx hb dX9_goOn_147 (lv_at hl 6 rfl) ?_
              refine wk_aldA hx hb hK hP 35 0 rfl rfl (rg_in g95_l6 (by decide) (by decide)) dX9_goOn_149 (fun r34856 => ?_)
              refine lv_ishl hx hb dX9_goOn_150 ?_
              refine wk_topP (P := fun r => r = (1 : Int32) <<< (r34856 &&& 31)) rfl (fun r34857 qr34857 => ?_)
              refine lv_ior hx hb dX9_goOn_151 ?_
              refine wk_topP (P := fun r => r = r34855 ||| r34857) rfl (fun r34858 qr34858 => ?_)
              refine wk_qi (wX cI cS a na nc N L) u (As := [.int r34853, .int x1, .int r34858]) (rest := []) ⟨hx, hb, hml, hown, hts⟩ (ih _ u r34853 x1 r34858 ((show Rg 1 13 r34853 from rg_w hr34853 (by decide) (by decide))) (by have z1 := er34853; have z2 : (2 : Int32).toInt = 2 := (by decide); omega)) hKK hP hD hS hA 34 (ci := 9) rfl rfl (cwV 3 hts gX9_goOn_X9_goOn rfl rfl rfl (by decide +kernel) ⟨by show n + 1 + 1 ≤ (n + 1) + 1; omega, by show 8 + (7 + 11) + 40 * (n + 1) ≤ 40 * ((n + 1) + 1); omega⟩) rfl hl.1 rfl (Nat.le_of_ble_eq_true rfl) dX9_goOn_152 ⟨Nat.le_of_ble_eq_true rfl, Nat.le_of_ble_eq_true rfl⟩ (fun r34859 u H locs hr34859 hP hD hS => ?_)
              refine lv_if_eq (tgt := 160) hx hb dX9_goOn_155 (by decide) (fun c34860 => ?_) (fun c34860 => ?_)
              · have g34861 : Rg 0 0 r34859 := wk_eql hr34859.1 (by decide : Rg 0 0 (0 : Int32)) c34860 (by decide)
                refine wk_iinc (lv' := fun r => [(6, .int r), (0, .ref (a 34)), (1, .int x0), (2, .int x1), (3, .int x2), (4, .int y56_l4), (5, .int y56_l5)]) (e1 := 1) (f := 12) hx hb dX9_goOn_160 hl (k := 6) rfl (by decide) g95_l6 (by decide) (fun _ => rfl) (fun r34862 ls hr34862 er34862 hl => ?_)
                refine lv_goto (tgt := 56) hx hb dX9_goOn_163 (by decide) ?_
                exact ih56 y56_l4 y56_l5 r34862 u _ _ ls (show Rg 1 11 x0 from rg_w g34850 (by decide) (by decide)) g95_l2 (show Rg 0 1 y56_l4 from rg_w g34849 (by decide) (by decide)) (show Rg 0 12 r34862 from rg_w hr34862 (by decide) (by decide)) (by exact x56_0) hP hD hS (lv_sub (l' := [(0, .ref (a 34)), (1, .int x0), (2, .int x1), (3, .int x2), (4, .int y56_l4), (5, .int y56_l5), (6, .int r34862)]) hl [1, 2, 3, 4, 5, 6, 0] rfl) (me_up hm56 er34862 (by decide))
              · have g34863 : Rg 1 1 r34859 := rg_ne_lo (k := 0) hr34859.1 (by decide) c34860 (by decide)
                refine lv_iconst (v := 1) hx hb dX9_goOn_158 (by decide) ?_
                subst hAe
                exact W.zret (v := 1) hx hb hr (by decide) (fun t ht hW => ⟨⟨_, u, rfl, ⟨(by decide : Rg 0 1 (1 : Int32)), trivial⟩, by rw [ht]; exact hP, hD⟩, hS.F ht⟩) hS.2.2 dX9_goOn_159
            · have g34864 : Rg 1 1 y56_l4 := rg_ne_lo (k := 0) g95_l4 (by decide) c34848 (by decide)
              refine lv_iconst (v := 1) hx hb dX9_goOn_114 (by decide) ?_
              subst hAe
              exact W.zret (v := 1) hx hb hr (by decide) (fun t ht hW => ⟨⟨_, u, rfl, ⟨(by decide : Rg 0 1 (1 : Int32)), trivial⟩, by rw [ht]; exact hP, hD⟩, hS.F ht⟩) hS.2.2 dX9_goOn_115
          · refine lv_goto (tgt := 160) hx hb dX9_goOn_98 (by decide) ?_
            refine wk_iinc (lv' := fun r => [(6, .int r), (0, .ref (a 34)), (1, .int x0), (2, .int x1), (3, .int x2), (4, .int y56_l4), (5, .int y56_l5)]) (e1 := 1) (f := 12) hx hb dX9_goOn_160 hl (k := 6) rfl (by decide) g95_l6 (by decide) (fun _ => rfl) (fun r34865 ls hr34865 er34865 hl => ?_)
            refine lv_goto (tgt := 56) hx hb dX9_goOn_163 (by decide) ?_
            exact ih56 y56_l4 y56_l5 r34865 u _ _ ls g95_l1 g95_l2 g95_l4 (show Rg 0 12 r34865 from rg_w hr34865 (by decide) (by decide)) (by exact x56_0) hP hD hS (lv_sub (l' := [(0, .ref (a 34)), (1, .int x0), (2, .int x1), (3, .int x2), (4, .int y56_l4), (5, .int y56_l5), (6, .int r34865)]) hl [1, 2, 3, 4, 5, 6, 0] rfl) (me_up hm56 er34865 (by decide))
        refine lv_iload hx hb dX9_goOn_56 (lv_at hl 6 rfl) ?_
        refine lv_aload_n hx hb dX9_goOn_58 rfl (lv_at hl 0 rfl) ?_
        refine va_get (D := D) (ci := 9) (v := .ref (a 1)) (C := RX9) (T := TX9) (N := 6) hx hb hts hin9 hown hK hP 34 rfl rfl 0 (by decide) (hts (.fieldLink RX9 21 "MissedPoints$Told" "net" "LMissedPoints$Net;") (by decide +kernel)) (fun _ h9 => h9) rfl dX9_goOn_59 ?_
        refine va_getN (D := D) (ci := 2) (v := .int (L 1 1)) (C := RX2) (T := TX2) (N := 3) hx hb hts hin2 hown hK hP 1 rfl rfl 1 (by decide) (va_Nw.use rfl hKK.2.2.2.2.2.2.2.2.2.2.2.2.2.2.2.2.1) (fun _ h9 => h9) rfl dX9_goOn_62 ?_
        refine lv_icmp_ge (tgt := 166) hx hb dX9_goOn_65 (by decide) (fun c34866 => ?_) (fun c34866 => ?_)
        · refine lv_iconst (v := 0) hx hb dX9_goOn_166 (by decide) ?_
          subst hAe
          exact W.zret (v := 0) hx hb hr (by decide) (fun t ht hW => ⟨⟨_, u, rfl, ⟨(by decide : Rg 0 1 (0 : Int32)), trivial⟩, by rw [ht]; exact hP, hD⟩, hS.F ht⟩) hS.2.2 dX9_goOn_167
        · have g34867 : Rg 1 12 (L 1 1) := rg_ltr g56_l6 hL.1 (rg_nle c34866) (by decide)
          have g34868 : Rg 0 11 y56_l6 := rg_ltl g56_l6 hL.1 (rg_nle c34866) (by decide)
          refine lv_iload hx hb dX9_goOn_68 (lv_at hl 5 rfl) ?_
          refine lv_iload hx hb dX9_goOn_70 (lv_at hl 6 rfl) ?_
          refine lv_ishr hx hb dX9_goOn_72 ?_
          refine wk_topP (P := fun r => r = y56_l5 >>> (y56_l6 &&& 31)) rfl (fun r34869 qr34869 => ?_)
          refine lv_iconst (v := 1) hx hb dX9_goOn_73 (by decide) ?_
          refine wk_iandr hx hb dX9_goOn_74 (by decide : Rg 1 1 (1 : Int32)) (by decide) (fun r34870 hr34870 qr34870 => ?_)
          refine lv_if_eq (tgt := 160) hx hb dX9_goOn_75 (by decide) (fun c34871 => ?_) (fun c34871 => ?_)
          · have g34872 : Rg 0 0 r34870 := wk_eql hr34870 (by decide : Rg 0 0 (0 : Int32)) c34871 (by decide)
            refine wk_iinc (lv' := fun r => [(6, .int r), (0, .ref (a 34)), (1, .int x0), (2, .int x1), (3, .int x2), (4, .int y56_l4), (5, .int y56_l5)]) (e1 := 1) (f := 12) hx hb dX9_goOn_160 hl (k := 6) rfl (by decide) g34868 (by decide) (fun _ => rfl) (fun r34873 ls hr34873 er34873 hl => ?_)
            refine lv_goto (tgt := 56) hx hb dX9_goOn_163 (by decide) ?_
            exact ih56 y56_l4 y56_l5 r34873 u _ _ ls g56_l1 g56_l2 g56_l4 (show Rg 0 12 r34873 from rg_w hr34873 (by decide) (by decide)) (by exact x56_0) hP hD hS (lv_sub (l' := [(0, .ref (a 34)), (1, .int x0), (2, .int x1), (3, .int x2), (4, .int y56_l4), (5, .int y56_l5), (6, .int r34873)]) hl [1, 2, 3, 4, 5, 6, 0] rfl) (me_up hm56 er34873 (by decide))
          · have g34874 : Rg 1 1 r34870 := rg_ne_lo (k := 0) hr34870 (by decide) c34871 (by decide)
            refine lv_iload hx hb dX9_goOn_78 (lv_at hl 4 rfl) ?_
            refine lv_aload_n hx hb dX9_goOn_80 rfl (lv_at hl 0 rfl) ?_
            refine va_get (D := D) (ci := 9) (v := .ref (a 35)) (C := RX9) (T := TX9) (N := 6) hx hb hts hin9 hown hK hP 34 rfl rfl 2 (by decide) (hts (.fieldLink RX9 9 "MissedPoints$Told" "mates" "[I") (by decide +kernel)) (fun _ h9 => h9) rfl dX9_goOn_81 ?_
            refine lv_iload hx hb dX9_goOn_84 (lv_at hl 6 rfl) ?_
            refine wk_aldA hx hb hK hP 35 0 rfl rfl (rg_in g34868 (by decide) (by decide)) dX9_goOn_86 (fun r34875 => ?_)
            refine lv_if_ge (tgt := 94) hx hb dX9_goOn_87 (by decide) (fun c34876 => ?_) (fun c34876 => ?_)
            · have g34877 : Rg 0 2147483647 r34875 := rg_ler (by decide : Rg 0 0 (0 : Int32)) (rg_any r34875) c34876 (by decide)
              refine lv_iconst (v := 0) hx hb dX9_goOn_94 (by decide) ?_
              exact ct95 (0 : Int32) u _ _ ls g56_l1 g56_l2 g56_l4 g34868 (by decide : Rg 0 1 (0 : Int32)) g56_l4 hP hD hS (lv_sub (l' := [(0, .ref (a 34)), (1, .int x0), (2, .int x1), (3, .int x2), (4, .int y56_l4), (5, .int y56_l5), (6, .int y56_l6)]) hl [0, 1, 2, 3, 4, 5, 6] rfl)
            · have g34878 : Rg (-2147483648) (-1) r34875 := rg_ltl (rg_any r34875) (by decide : Rg 0 0 (0 : Int32)) (rg_nle c34876) (by decide)
              refine lv_iconst (v := 1) hx hb dX9_goOn_90 (by decide) ?_
              refine lv_goto (tgt := 95) hx hb dX9_goOn_91 (by decide) ?_
              exact ct95 (1 : Int32) u _ _ ls g56_l1 g56_l2 g56_l4 g34868 (by decide : Rg 0 1 (1 : Int32)) g56_l4 hP hD hS (lv_sub (l' := [(0, .ref (a 34)), (1, .int x0), (2, .int x1), (3, .int x2), (4, .int y56_l4), (5, .int y56_l5), (6, .int y56_l6)]) hl [0, 1, 2, 3, 4, 5, 6] rfl)
    refine lv_iload_n hx hb dX9_goOn_0 rfl (lv_at hl 1 rfl) ?_
    refine lv_iconst (v := 1) hx hb dX9_goOn_1 (by decide) ?_
    refine lv_icmp_lt (tgt := 16) hx hb dX9_goOn_2 (by decide) (fun c34879 => ?_) (fun c34879 => ?_)
    · exact absurd c34879 (wk_nlt px0 (by decide : Rg 1 1 (1 : Int32)) (by decide))
    · refine lv_iload_n hx hb dX9_goOn_5 rfl (lv_at hl 1 rfl) ?_
      refine lv_iload_n hx hb dX9_goOn_6 rfl (lv_at hl 2 rfl) ?_
      refine lv_icmp_ge (tgt := 16) hx hb dX9_goOn_7 (by decide) (fun c34880 => ?_) (fun c34880 => ?_)
      · have g34881 : Rg (-2147483648) 13 x1 := rg_lel (rg_any x1) px0 c34880 (by decide)
        refine lv_iconst (v := 0) hx hb dX9_goOn_16 (by decide) ?_
        subst hAe
        exact W.zret (v := 0) hx hb hr (by decide) (fun t ht hW => ⟨⟨_, u, rfl, ⟨(by decide : Rg 0 1 (0 : Int32)), trivial⟩, by rw [ht]; exact hP, hD⟩, hS.F ht⟩) hS.2.2 dX9_goOn_17
      · have g34882 : Rg 2 2147483647 x1 := rg_ltr px0 (rg_any x1) (rg_nle c34880) (by decide)
        refine lv_iload_n hx hb dX9_goOn_10 rfl (lv_at hl 2 rfl) ?_
        refine lv_bipush (v := 12) hx hb dX9_goOn_11 (by decide) ?_
        refine lv_icmp_le (tgt := 18) hx hb dX9_goOn_13 (by decide) (fun c34883 => ?_) (fun c34883 => ?_)
        · have g34884 : Rg 2 12 x1 := rg_lel g34882 (by decide : Rg 12 12 (12 : Int32)) c34883 (by decide)
          have g34885 : Rg 1 11 x0 := ⟨px0.1, by have z1 := (lz_lt _ _).mp (rg_nle c34880); have z2 := (lz_le _ _).mp c34883; have z3 : (12 : Int32).toInt = 12 := (by decide); omega⟩
          refine lv_iload_n hx hb dX9_goOn_18 rfl (lv_at hl 1 rfl) ?_
          refine lv_iload_n hx hb dX9_goOn_19 rfl (lv_at hl 2 rfl) ?_
          refine lv_iconst (v := 1) hx hb dX9_goOn_20 (by decide) ?_
          refine wk_isub (e1 := 1) (f := 11) hx hb dX9_goOn_21 g34884 (by decide : Rg 1 1 (1 : Int32)) (by decide) (fun r34886 hr34886 er34886 qr34886 => ?_)
          refine lv_icmp_ne (tgt := 29) hx hb dX9_goOn_22 (by decide) (fun c34887 => ?_) (fun c34887 => ?_)
          · refine lv_iconst (v := 0) hx hb dX9_goOn_29 (by decide) ?_
            refine lv_istore (lv' := [(4, .int 0), (0, .ref (a 34)), (1, .int x0), (2, .int x1), (3, .int x2)]) hx hb dX9_goOn_30 hl (by decide) rfl (fun ls hl => ?_)
            refine lv_aload_n hx hb dX9_goOn_32 rfl (lv_at hl 1 rfl) ?_
            refine va_get (D := D) (ci := 9) (v := .ref (a 1)) (C := RX9) (T := TX9) (N := 6) hx hb hts hin9 hown hK hP 34 rfl rfl 0 (by decide) (hts (.fieldLink RX9 21 "MissedPoints$Told" "net" "LMissedPoints$Net;") (by decide +kernel)) (fun _ h9 => h9) rfl dX9_goOn_33 ?_
            refine lv_aload_n hx hb dX9_goOn_36 rfl (lv_at hl 1 rfl) ?_
            refine va_get (D := D) (ci := 9) (v := .ref (a 36)) (C := RX9) (T := TX9) (N := 6) hx hb hts hin9 hown hK hP 34 rfl rfl 3 (by decide) (hts (.fieldLink RX9 15 "MissedPoints$Told" "row" "[I") (by decide +kernel)) (fun _ h9 => h9) rfl dX9_goOn_37 ?_
            refine lv_iload_n hx hb dX9_goOn_40 rfl (lv_at hl 2 rfl) ?_
            refine lv_iconst (v := 1) hx hb dX9_goOn_41 (by decide) ?_
            refine wk_isub (e1 := 0) (f := 10) hx hb dX9_goOn_42 g34885 (by decide : Rg 1 1 (1 : Int32)) (by decide) (fun r34888 hr34888 er34888 qr34888 => ?_)
            refine wk_aldA hx hb hK hP 36 0 rfl rfl (rg_in hr34888 (by decide) (by decide)) dX9_goOn_43 (fun r34889 => ?_)
            refine wk_sv 1 (As := [.int r34889]) (rest := []) ⟨hx, hb, hml, hown, hts⟩ (k_X2_near l D cI cS a na nc N L u hL hN r34889) hKK hP (ci := 2) rfl rfl (cwV 1 hts gX9_goOn_X2_near rfl rfl rfl (by decide +kernel) ⟨by show 1 + 1 ≤ (n + 1) + 1; omega, by show 8 + (2 + 11) + 40 ≤ 40 * ((n + 1) + 1); omega⟩) rfl hl.1 rfl (Nat.le_of_ble_eq_true rfl) dX9_goOn_44 ⟨Nat.le_of_ble_eq_true rfl, Nat.le_of_ble_eq_true rfl⟩ (fun r34890 hr34890 => ?_)
            refine lv_iload_n hx hb dX9_goOn_47 rfl (lv_at hl 4 rfl) ?_
            refine lv_iconst (v := (-1)) hx hb dX9_goOn_48 (by decide) ?_
            refine lv_ixor hx hb dX9_goOn_49 ?_
            refine wk_topP (P := fun r => r = x2 ^^^ ((-1) : Int32)) rfl (fun r34891 qr34891 => ?_)
            refine lv_iand hx hb dX9_goOn_50 ?_
            refine wk_topP (P := fun r => r = r34890 &&& r34891) rfl (fun r34892 qr34892 => ?_)
            refine lv_istore (lv' := [(5, .int r34892), (4, .int 0), (0, .ref (a 34)), (1, .int x0), (2, .int x1), (3, .int x2)]) hx hb dX9_goOn_51 hl (by decide) rfl (fun ls hl => ?_)
            refine lv_iconst (v := 0) hx hb dX9_goOn_53 (by decide) ?_
            refine lv_istore (lv' := [(6, .int 0), (5, .int r34892), (4, .int 0), (0, .ref (a 34)), (1, .int x0), (2, .int x1), (3, .int x2)]) hx hb dX9_goOn_54 hl (by decide) rfl (fun ls hl => ?_)
            exact lp56 13 (0 : Int32) r34892 (0 : Int32) u _ _ ls g34885 g34884 (by decide : Rg 0 1 (0 : Int32)) (by decide : Rg 0 12 (0 : Int32)) (by exact fun _ => by have z1 := (lz_lt _ _).mp (rg_nle c34880); have z2 : ¬ x0.toInt = r34886.toInt := fun z => c34887 (Int32.toInt_inj.mp z); have z3 := er34886; have z4 := (lz_le _ _).mp c34883; have z5 : (12 : Int32).toInt = 12 := (by decide); have z9 : (1 : Int32).toInt = 1 := (by decide); omega) hP hD hS (lv_sub (l' := [(0, .ref (a 34)), (1, .int x0), (2, .int x1), (3, .int x2), (4, .int 0), (5, .int r34892), (6, .int 0)]) hl [3, 4, 5, 6, 2, 1, 0] rfl) (me_i (by decide : Rg 0 12 (0 : Int32)) (by decide))
          · refine lv_iconst (v := 1) hx hb dX9_goOn_25 (by decide) ?_
            refine lv_goto (tgt := 30) hx hb dX9_goOn_26 (by decide) ?_
            refine lv_istore (lv' := [(4, .int 1), (0, .ref (a 34)), (1, .int x0), (2, .int x1), (3, .int x2)]) hx hb dX9_goOn_30 hl (by decide) rfl (fun ls hl => ?_)
            refine lv_aload_n hx hb dX9_goOn_32 rfl (lv_at hl 1 rfl) ?_
            refine va_get (D := D) (ci := 9) (v := .ref (a 1)) (C := RX9) (T := TX9) (N := 6) hx hb hts hin9 hown hK hP 34 rfl rfl 0 (by decide) (hts (.fieldLink RX9 21 "MissedPoints$Told" "net" "LMissedPoints$Net;") (by decide +kernel)) (fun _ h9 => h9) rfl dX9_goOn_33 ?_
            refine lv_aload_n hx hb dX9_goOn_36 rfl (lv_at hl 1 rfl) ?_
            refine va_get (D := D) (ci := 9) (v := .ref (a 36)) (C := RX9) (T := TX9) (N := 6) hx hb hts hin9 hown hK hP 34 rfl rfl 3 (by decide) (hts (.fieldLink RX9 15 "MissedPoints$Told" "row" "[I") (by decide +kernel)) (fun _ h9 => h9) rfl dX9_goOn_37 ?_
            refine lv_iload_n hx hb dX9_goOn_40 rfl (lv_at hl 2 rfl) ?_
            refine lv_iconst (v := 1) hx hb dX9_goOn_41 (by decide) ?_
            refine wk_isub (e1 := 0) (f := 10) hx hb dX9_goOn_42 g34885 (by decide : Rg 1 1 (1 : Int32)) (by decide) (fun r34893 hr34893 er34893 qr34893 => ?_)
            refine wk_aldA hx hb hK hP 36 0 rfl rfl (rg_in hr34893 (by decide) (by decide)) dX9_goOn_43 (fun r34894 => ?_)
            refine wk_sv 1 (As := [.int r34894]) (rest := []) ⟨hx, hb, hml, hown, hts⟩ (k_X2_near l D cI cS a na nc N L u hL hN r34894) hKK hP (ci := 2) rfl rfl (cwV 1 hts gX9_goOn_X2_near rfl rfl rfl (by decide +kernel) ⟨by show 1 + 1 ≤ (n + 1) + 1; omega, by show 8 + (2 + 11) + 40 ≤ 40 * ((n + 1) + 1); omega⟩) rfl hl.1 rfl (Nat.le_of_ble_eq_true rfl) dX9_goOn_44 ⟨Nat.le_of_ble_eq_true rfl, Nat.le_of_ble_eq_true rfl⟩ (fun r34895 hr34895 => ?_)
            refine lv_iload_n hx hb dX9_goOn_47 rfl (lv_at hl 4 rfl) ?_
            refine lv_iconst (v := (-1)) hx hb dX9_goOn_48 (by decide) ?_
            refine lv_ixor hx hb dX9_goOn_49 ?_
            refine wk_topP (P := fun r => r = x2 ^^^ ((-1) : Int32)) rfl (fun r34896 qr34896 => ?_)
            refine lv_iand hx hb dX9_goOn_50 ?_
            refine wk_topP (P := fun r => r = r34895 &&& r34896) rfl (fun r34897 qr34897 => ?_)
            refine lv_istore (lv' := [(5, .int r34897), (4, .int 1), (0, .ref (a 34)), (1, .int x0), (2, .int x1), (3, .int x2)]) hx hb dX9_goOn_51 hl (by decide) rfl (fun ls hl => ?_)
            refine lv_iconst (v := 0) hx hb dX9_goOn_53 (by decide) ?_
            refine lv_istore (lv' := [(6, .int 0), (5, .int r34897), (4, .int 1), (0, .ref (a 34)), (1, .int x0), (2, .int x1), (3, .int x2)]) hx hb dX9_goOn_54 hl (by decide) rfl (fun ls hl => ?_)
            exact lp56 13 (1 : Int32) r34897 (0 : Int32) u _ _ ls g34885 g34884 (by decide : Rg 0 1 (1 : Int32)) (by decide : Rg 0 12 (0 : Int32)) (by exact fun h9 => absurd h9 (by decide)) hP hD hS (lv_sub (l' := [(0, .ref (a 34)), (1, .int x0), (2, .int x1), (3, .int x2), (4, .int 1), (5, .int r34897), (6, .int 0)]) hl [3, 4, 5, 6, 2, 1, 0] rfl) (me_i (by decide : Rg 0 12 (0 : Int32)) (by decide))
        · have g34898 : Rg 13 2147483647 x1 := rg_ltr (by decide : Rg 12 12 (12 : Int32)) g34882 (rg_nle c34883) (by decide)
          refine lv_iconst (v := 0) hx hb dX9_goOn_16 (by decide) ?_
          subst hAe
          exact W.zret (v := 0) hx hb hr (by decide) (fun t ht hW => ⟨⟨_, u, rfl, ⟨(by decide : Rg 0 1 (0 : Int32)), trivial⟩, by rw [ht]; exact hP, hD⟩, hS.F ht⟩) hS.2.2 dX9_goOn_17
theorem k_X9_goOn (l : Launch) (D : va_G) (cI cS : ClassId) (sz : Nat) (a : Nat → Nat) (na nc N : Nat) (L u0 : SU) (hL : TyX L) (hN : N = 0 ∨ N = 24576) (x0 x1 x2 : Int32) (px0 : Rg 1 1 x0) : Met l yX9_goOn wsX9_goOn ({ frames := 13 + 1, cells := 0, slots := 0, locals := 40 * (13 + 1) }) (PQ D cI cS (wX cI cS a na nc N L u0) sz [.ref (a 34), .int x0, .int x1, .int x2]) (QF (S := SU) D (wX cI cS a na nc N L u0) (wX cI cS a na nc N L) sz (fun r _ => Rg 0 1 r ∧ True)) 0 0 (va_A (wX cI cS a na nc N L u0) sz) := k_X9_goOn_r l D cI cS a na nc N L hL hN 13 sz u0 x0 x1 x2 (rg_w px0 (by decide) (by decide)) (by have z1 := px0; omega)
set_option maxRecDepth 20000 in
theorem ggX3_numberOf_X1_keep : GoodIn wsX3_numberOf wsX1_keep := goodIn_r _ [29, 19, 20, 21, 37, 38] (by decide +kernel) (by decide +kernel)
set_option maxRecDepth 20000 in
theorem gX3_numberOf_X1_keep : GoodIn wsX3_numberOf (wsV RX3 65 RX1 yX1_keep wsX1_keep) := goodIn_app (goodIn_of _ (by decide +kernel)) ggX3_numberOf_X1_keep
set_option maxRecDepth 20000 in
theorem ggX3_numberOf_X1_recall : GoodIn wsX3_numberOf wsX1_recall := goodIn_r _ [18, 19, 20, 21, 37, 38] (by decide +kernel) (by decide +kernel)
set_option maxRecDepth 20000 in
theorem gX3_numberOf_X1_recall : GoodIn wsX3_numberOf (wsV RX3 58 RX1 yX1_recall wsX1_recall) := goodIn_app (goodIn_of _ (by decide +kernel)) ggX3_numberOf_X1_recall
set_option maxRecDepth 20000 in
theorem ggX3_numberOf_X3_numberOf : GoodIn wsX3_numberOf wsX3_numberOf := goodIn_r _ [0, 1, 2, 3, 4, 5, 6, 7, 8, 9, 10, 11, 12, 13, 14, 15, 16, 17, 18, 19, 20, 21, 22, 23, 24, 25, 26, 27, 28, 29, 30, 31, 32, 33, 34, 35, 36, 37, 38] (by decide +kernel) (by decide +kernel)
set_option maxRecDepth 20000 in
theorem gX3_numberOf_X3_numberOf : GoodIn wsX3_numberOf (wsV RX3 73 RX3 yX3_numberOf wsX3_numberOf) := goodIn_app (goodIn_of _ (by decide +kernel)) ggX3_numberOf_X3_numberOf
theorem dX3_numberOf_29 : decode cX3_numberOf 29 = .ok (.iload 4, 2) := by decide +kernel
theorem dX3_numberOf_31 : decode cX3_numberOf 31 = .ok (.bipush 12, 2) := by decide +kernel
theorem dX3_numberOf_33 : decode cX3_numberOf 33 = .ok (.if_icmp .ge 9, 3) := by decide +kernel
theorem dX3_numberOf_36 : decode cX3_numberOf 36 = .ok (.iload_n 3, 1) := by decide +kernel
theorem dX3_numberOf_37 : decode cX3_numberOf 37 = .ok (.bipush 12, 2) := by decide +kernel
theorem dX3_numberOf_39 : decode cX3_numberOf 39 = .ok (.if_icmp .le 5, 3) := by decide +kernel
theorem dX3_numberOf_100 : decode cX3_numberOf 100 = .ok (.iload 7, 2) := by decide +kernel
theorem dX3_numberOf_102 : decode cX3_numberOf 102 = .ok (.iload_n 2, 1) := by decide +kernel
theorem dX3_numberOf_103 : decode cX3_numberOf 103 = .ok (.iload_n 3, 1) := by decide +kernel
theorem dX3_numberOf_104 : decode cX3_numberOf 104 = .ok (.iconst 1, 1) := by decide +kernel
theorem dX3_numberOf_105 : decode cX3_numberOf 105 = .ok (.iadd, 1) := by decide +kernel
theorem dX3_numberOf_106 : decode cX3_numberOf 106 = .ok (.invokevirtual 73, 3) := by decide +kernel
theorem dX3_numberOf_109 : decode cX3_numberOf 109 = .ok (.istore 9, 2) := by decide +kernel
theorem dX3_numberOf_111 : decode cX3_numberOf 111 = .ok (.iconst 0, 1) := by decide +kernel
theorem dX3_numberOf_112 : decode cX3_numberOf 112 = .ok (.istore 10, 2) := by decide +kernel
theorem dX3_numberOf_114 : decode cX3_numberOf 114 = .ok (.iload 10, 2) := by decide +kernel
theorem dX3_numberOf_116 : decode cX3_numberOf 116 = .ok (.iload 4, 2) := by decide +kernel
theorem dX3_numberOf_118 : decode cX3_numberOf 118 = .ok (.if_icmp .ge 43, 3) := by decide +kernel
theorem dX3_numberOf_121 : decode cX3_numberOf 121 = .ok (.iload 8, 2) := by decide +kernel
theorem dX3_numberOf_123 : decode cX3_numberOf 123 = .ok (.iload 10, 2) := by decide +kernel
theorem dX3_numberOf_125 : decode cX3_numberOf 125 = .ok (.ishr, 1) := by decide +kernel
theorem dX3_numberOf_126 : decode cX3_numberOf 126 = .ok (.iconst 1, 1) := by decide +kernel
theorem dX3_numberOf_127 : decode cX3_numberOf 127 = .ok (.iand, 1) := by decide +kernel
theorem dX3_numberOf_128 : decode cX3_numberOf 128 = .ok (.ifCond .eq 27, 3) := by decide +kernel
theorem dX3_numberOf_131 : decode cX3_numberOf 131 = .ok (.iload 9, 2) := by decide +kernel
theorem dX3_numberOf_133 : decode cX3_numberOf 133 = .ok (.aload_n 0, 1) := by decide +kernel
theorem dX3_numberOf_134 : decode cX3_numberOf 134 = .ok (.iload 7, 2) := by decide +kernel
theorem dX3_numberOf_136 : decode cX3_numberOf 136 = .ok (.iconst 1, 1) := by decide +kernel
theorem dX3_numberOf_137 : decode cX3_numberOf 137 = .ok (.iload 10, 2) := by decide +kernel
theorem dX3_numberOf_139 : decode cX3_numberOf 139 = .ok (.ishl, 1) := by decide +kernel
theorem dX3_numberOf_140 : decode cX3_numberOf 140 = .ok (.iconst (-1), 1) := by decide +kernel
theorem dX3_numberOf_141 : decode cX3_numberOf 141 = .ok (.ixor, 1) := by decide +kernel
theorem dX3_numberOf_142 : decode cX3_numberOf 142 = .ok (.iand, 1) := by decide +kernel
theorem dX3_numberOf_143 : decode cX3_numberOf 143 = .ok (.iload_n 2, 1) := by decide +kernel
theorem dX3_numberOf_144 : decode cX3_numberOf 144 = .ok (.iconst 1, 1) := by decide +kernel
theorem dX3_numberOf_145 : decode cX3_numberOf 145 = .ok (.isub, 1) := by decide +kernel
theorem dX3_numberOf_146 : decode cX3_numberOf 146 = .ok (.iload_n 3, 1) := by decide +kernel
theorem dX3_numberOf_147 : decode cX3_numberOf 147 = .ok (.iconst 1, 1) := by decide +kernel
theorem dX3_numberOf_148 : decode cX3_numberOf 148 = .ok (.iadd, 1) := by decide +kernel
theorem dX3_numberOf_149 : decode cX3_numberOf 149 = .ok (.invokevirtual 73, 3) := by decide +kernel
theorem dX3_numberOf_152 : decode cX3_numberOf 152 = .ok (.iadd, 1) := by decide +kernel
theorem dX3_numberOf_153 : decode cX3_numberOf 153 = .ok (.istore 9, 2) := by decide +kernel
theorem dX3_numberOf_155 : decode cX3_numberOf 155 = .ok (.iinc 10 1, 3) := by decide +kernel
theorem dX3_numberOf_158 : decode cX3_numberOf 158 = .ok (.goto (-44), 3) := by decide +kernel
theorem dX3_numberOf_161 : decode cX3_numberOf 161 = .ok (.aload_n 0, 1) := by decide +kernel
theorem dX3_numberOf_162 : decode cX3_numberOf 162 = .ok (.getfield 20, 3) := by decide +kernel
theorem dX3_numberOf_165 : decode cX3_numberOf 165 = .ok (.iload 5, 2) := by decide +kernel
theorem dX3_numberOf_167 : decode cX3_numberOf 167 = .ok (.iload 9, 2) := by decide +kernel
theorem dX3_numberOf_169 : decode cX3_numberOf 169 = .ok (.invokevirtual 65, 3) := by decide +kernel
theorem dX3_numberOf_172 : decode cX3_numberOf 172 = .ok (.iload 9, 2) := by decide +kernel
theorem dX3_numberOf_174 : decode cX3_numberOf 174 = .ok (.ireturn, 1) := by decide +kernel
theorem dX3_numberOf_44 : decode cX3_numberOf 44 = .ok (.iload_n 2, 1) := by decide +kernel
theorem dX3_numberOf_45 : decode cX3_numberOf 45 = .ok (.iconst 1, 1) := by decide +kernel
theorem dX3_numberOf_46 : decode cX3_numberOf 46 = .ok (.isub, 1) := by decide +kernel
theorem dX3_numberOf_47 : decode cX3_numberOf 47 = .ok (.sipush 4096, 3) := by decide +kernel
theorem dX3_numberOf_50 : decode cX3_numberOf 50 = .ok (.imul, 1) := by decide +kernel
theorem dX3_numberOf_51 : decode cX3_numberOf 51 = .ok (.iload_n 1, 1) := by decide +kernel
theorem dX3_numberOf_52 : decode cX3_numberOf 52 = .ok (.iadd, 1) := by decide +kernel
theorem dX3_numberOf_53 : decode cX3_numberOf 53 = .ok (.istore 5, 2) := by decide +kernel
theorem dX3_numberOf_55 : decode cX3_numberOf 55 = .ok (.aload_n 0, 1) := by decide +kernel
theorem dX3_numberOf_56 : decode cX3_numberOf 56 = .ok (.getfield 20, 3) := by decide +kernel
theorem dX3_numberOf_59 : decode cX3_numberOf 59 = .ok (.iload 5, 2) := by decide +kernel
theorem dX3_numberOf_61 : decode cX3_numberOf 61 = .ok (.invokevirtual 58, 3) := by decide +kernel
theorem dX3_numberOf_64 : decode cX3_numberOf 64 = .ok (.istore 6, 2) := by decide +kernel
theorem dX3_numberOf_66 : decode cX3_numberOf 66 = .ok (.iload 6, 2) := by decide +kernel
theorem dX3_numberOf_68 : decode cX3_numberOf 68 = .ok (.ifCond .lt 6, 3) := by decide +kernel
theorem dX3_numberOf_71 : decode cX3_numberOf 71 = .ok (.iload 6, 2) := by decide +kernel
theorem dX3_numberOf_73 : decode cX3_numberOf 73 = .ok (.ireturn, 1) := by decide +kernel
theorem dX3_numberOf_74 : decode cX3_numberOf 74 = .ok (.iload_n 1, 1) := by decide +kernel
theorem dX3_numberOf_75 : decode cX3_numberOf 75 = .ok (.iconst 1, 1) := by decide +kernel
theorem dX3_numberOf_76 : decode cX3_numberOf 76 = .ok (.iload 4, 2) := by decide +kernel
theorem dX3_numberOf_78 : decode cX3_numberOf 78 = .ok (.ishl, 1) := by decide +kernel
theorem dX3_numberOf_79 : decode cX3_numberOf 79 = .ok (.iconst (-1), 1) := by decide +kernel
theorem dX3_numberOf_80 : decode cX3_numberOf 80 = .ok (.ixor, 1) := by decide +kernel
theorem dX3_numberOf_81 : decode cX3_numberOf 81 = .ok (.iand, 1) := by decide +kernel
theorem dX3_numberOf_82 : decode cX3_numberOf 82 = .ok (.istore 7, 2) := by decide +kernel
theorem dX3_numberOf_84 : decode cX3_numberOf 84 = .ok (.aload_n 0, 1) := by decide +kernel
theorem dX3_numberOf_85 : decode cX3_numberOf 85 = .ok (.getfield 23, 3) := by decide +kernel
theorem dX3_numberOf_88 : decode cX3_numberOf 88 = .ok (.getfield 61, 3) := by decide +kernel
theorem dX3_numberOf_91 : decode cX3_numberOf 91 = .ok (.iload 4, 2) := by decide +kernel
theorem dX3_numberOf_93 : decode cX3_numberOf 93 = .ok (.iaload, 1) := by decide +kernel
theorem dX3_numberOf_94 : decode cX3_numberOf 94 = .ok (.iload 7, 2) := by decide +kernel
theorem dX3_numberOf_96 : decode cX3_numberOf 96 = .ok (.iand, 1) := by decide +kernel
theorem dX3_numberOf_97 : decode cX3_numberOf 97 = .ok (.istore 8, 2) := by decide +kernel
theorem dX3_numberOf_99 : decode cX3_numberOf 99 = .ok (.aload_n 0, 1) := by decide +kernel
set_option maxHeartbeats 8000000 in
set_option maxRecDepth 100000 in
theorem k_X3_numberOf_r (l : Launch) (D : va_G) (cI cS : ClassId) (a : Nat → Nat) (na nc N : Nat) (L : SU) (hL : TyX L) (hN : N = 0 ∨ N = 24576) : ∀ (n sz : Nat) (u0 : SU) (x0 x1 x2 : Int32), Rg 0 65549 x1 → Rg 0 13 x2 → 13 - x2.toInt ≤ (n : Int) → Met l yX3_numberOf wsX3_numberOf ({ frames := n + 1, cells := 0, slots := 0, locals := 40 * (n + 1) }) (PQ D cI cS (wX cI cS a na nc N L u0) sz [.ref (a 7), .int x0, .int x1, .int x2]) (QF (S := SU) D (wX cI cS a na nc N L u0) (wX cI cS a na nc N L) sz (fun r _ => Rg (-2147483648) 2147483647 r ∧ True)) 0 0 (va_A (wX cI cS a na nc N L u0) sz) := by
  intro n
  induction n with
  | zero =>
    intro sz u0 x0 x1 x2 px1 px2 hrk
    have px2 : Rg 13 13 x2 := ⟨by omega, px2.2⟩
    refine Met.ofW (cc := cX3_numberOf) (maxL := 11) (ret := (some .int)) (by decide) rfl ?_
    intro p e s m args below meth c s₁ B hml hv
    obtain ⟨rfl, hsz, hP, hKK, hD0⟩ := hv
    have hx := B.exec
    have hb := B.bytes
    have hr := B.returns
    have hts := atoms_spec (ws := wsX3_numberOf) B.pre
    have hown : s.vm.findClass RX3 = some m.cls := findClass_of_methodNamed B.named
    have hlocks := B.notSynchronized
    have hK := hKK.1
    subst hsz
    have hD := hD0.self (sz := s.heap.size)
    obtain ⟨A, hAe⟩ : ∃ A, A = va_A (wX cI cS a na nc N L u0) s.heap.size := ⟨_, rfl⟩
    rw [← hAe] at hD
    have hA : ∀ q : Nat, s.heap.size ≤ q → A q := fun q h => by rw [hAe]; exact Or.inr h
    have hS : va_S A s.heap s.heap [] := va_S.rf
    have hl := lv_entry ([.ref (a 7), .int x0, .int x1, .int x2]) (n := 11) (Nat.le_of_ble_eq_true rfl)
    rw [lg_entry_eq]
    generalize (lg_sl ([.ref (a 7), .int x0, .int x1, .int x2]) ++ List.replicate (11 - (lg_sl ([.ref (a 7), .int x0, .int x1, .int x2])).length) Slot.unset).toArray = ls at hl ⊢
    have hl : lv_has ls 11 [(0, .ref (a 7)), (1, .int x0), (2, .int x1), (3, .int x2)] := hl
    obtain ⟨u, hu9⟩ : ∃ u : SU, u = u0 := ⟨_, rfl⟩
    rw [← hu9] at hP hD
    refine lv_iload_n hx hb dX3_numberOf_0 rfl (lv_at hl 2 rfl) ?_
    refine lv_if_ne (tgt := 6) hx hb dX3_numberOf_1 (by decide) (fun c34914 => ?_) (fun c34914 => ?_)
    · have g34915 : Rg 1 65549 x1 := rg_ne_lo (k := 0) px1 (by decide) c34914 (by decide)
      refine lv_bipush (v := 31) hx hb dX3_numberOf_6 (by decide) ?_
      refine lv_iload_n hx hb dX3_numberOf_8 rfl (lv_at hl 1 rfl) ?_
      refine lz_ss (As := [.int x0]) (rest := [.int 31]) ⟨hx, hb, hml, hown, hts⟩ (k_J6_numberOfLeadingZeros_0f7a4 l D cI cS x0) hKK (hP.sub (ws' := []) [] rfl) (va_cwS 1 hts gX3_numberOf_J6_numberOfLeadingZeros_0f7a4 rfl rfl rfl (by decide +kernel) ⟨by show 0 + 1 ≤ 0 + 1; omega, by show 8 + (2 + 11) + 0 ≤ 40 * (0 + 1); omega⟩) rfl hl.1 rfl (Nat.le_of_ble_eq_true rfl) dX3_numberOf_9 ⟨Nat.le_of_ble_eq_true rfl, Nat.le_of_ble_eq_true rfl⟩ (fun r34916 hr34916 => ?_)
      refine wk_isub (e1 := (-1)) (f := 31) hx hb dX3_numberOf_12 (by decide : Rg 31 31 (31 : Int32)) hr34916.1 (by decide) (fun r34917 hr34917 er34917 qr34917 => ?_)
      refine lv_istore (lv' := [(4, .int r34917), (0, .ref (a 7)), (1, .int x0), (2, .int x1), (3, .int x2)]) hx hb dX3_numberOf_13 hl (by decide) rfl (fun ls hl => ?_)
      refine lv_iload_n hx hb dX3_numberOf_15 rfl (lv_at hl 3 rfl) ?_
      refine lv_if_lt (tgt := 42) hx hb dX3_numberOf_16 (by decide) (fun c34918 => ?_) (fun c34918 => ?_)
      · exact absurd c34918 (wk_nlt g34915 (by decide : Rg 0 0 (0 : Int32)) (by decide))
      · refine lv_iconst (v := 2) hx hb dX3_numberOf_19 (by decide) ?_
        refine lv_iload_n hx hb dX3_numberOf_20 rfl (lv_at hl 3 rfl) ?_
        refine wk_imul (f := 131098) hx hb dX3_numberOf_21 (by decide : Rg 0 2 (2 : Int32)) (show Rg 0 65549 x1 from rg_w g34915 (by decide) (by decide)) (by decide) (fun r34919 hr34919 er34919 qr34919 => ?_)
        refine lv_iload_n hx hb dX3_numberOf_22 rfl (lv_at hl 2 rfl) ?_
        refine lz_ss (As := [.int x0]) (rest := [.int r34919]) ⟨hx, hb, hml, hown, hts⟩ (k_J6_bitCount_0f7a4 l D cI cS x0) hKK (hP.sub (ws' := []) [] rfl) (va_cwS 1 hts gX3_numberOf_J6_bitCount_0f7a4 rfl rfl rfl (by decide +kernel) ⟨by show 0 + 1 ≤ 0 + 1; omega, by show 8 + (1 + 11) + 0 ≤ 40 * (0 + 1); omega⟩) rfl hl.1 rfl (Nat.le_of_ble_eq_true rfl) dX3_numberOf_23 ⟨Nat.le_of_ble_eq_true rfl, Nat.le_of_ble_eq_true rfl⟩ (fun r34920 hr34920 => ?_)
        refine lv_icmp_gt (tgt := 42) hx hb dX3_numberOf_26 (by decide) (fun c34921 => ?_) (fun c34921 => ?_)
        · have g34922 : Rg (-2147483648) 131097 r34920 := rg_ltl hr34920.1 hr34919 c34921 (by decide)
          refine lv_iconst (v := 0) hx hb dX3_numberOf_42 (by decide) ?_
          subst hAe
          exact W.iret (v := 0) hx hb hr (fun t ht hW => ⟨⟨_, u, rfl, ⟨(by decide : Rg (-2147483648) 2147483647 (0 : Int32)), trivial⟩, by rw [ht]; exact hP, hD⟩, hS.F ht⟩) hS.2.2 dX3_numberOf_43
        · have g34923 : Rg 0 2147483647 r34920 := rg_ler hr34919 hr34920.1 (rg_nlt c34921) (by decide)
          refine lv_iload hx hb dX3_numberOf_29 (lv_at hl 0 rfl) ?_
          refine lv_bipush (v := 12) hx hb dX3_numberOf_31 (by decide) ?_
          refine lv_icmp_ge (tgt := 42) hx hb dX3_numberOf_33 (by decide) (fun c34924 => ?_) (fun c34924 => ?_)
          · have g34925 : Rg 12 31 r34917 := rg_ler (by decide : Rg 12 12 (12 : Int32)) hr34917 c34924 (by decide)
            refine lv_iconst (v := 0) hx hb dX3_numberOf_42 (by decide) ?_
            subst hAe
            exact W.iret (v := 0) hx hb hr (fun t ht hW => ⟨⟨_, u, rfl, ⟨(by decide : Rg (-2147483648) 2147483647 (0 : Int32)), trivial⟩, by rw [ht]; exact hP, hD⟩, hS.F ht⟩) hS.2.2 dX3_numberOf_43
          · have g34926 : Rg (-1) 11 r34917 := rg_ltl hr34917 (by decide : Rg 12 12 (12 : Int32)) (rg_nle c34924) (by decide)
            refine lv_iload_n hx hb dX3_numberOf_36 rfl (lv_at hl 4 rfl) ?_
            refine lv_bipush (v := 12) hx hb dX3_numberOf_37 (by decide) ?_
            refine lv_icmp_le (tgt := 44) hx hb dX3_numberOf_39 (by decide) (fun c34927 => ?_) (fun c34927 => ?_)
            · exact absurd c34927 (wk_nle px2 (by decide : Rg 12 12 (12 : Int32)) (by decide))
            · refine lv_iconst (v := 0) hx hb dX3_numberOf_42 (by decide) ?_
              subst hAe
              exact W.iret (v := 0) hx hb hr (fun t ht hW => ⟨⟨_, u, rfl, ⟨(by decide : Rg (-2147483648) 2147483647 (0 : Int32)), trivial⟩, by rw [ht]; exact hP, hD⟩, hS.F ht⟩) hS.2.2 dX3_numberOf_43
    · have g34928 : Rg 0 0 x1 := wk_eql px1 (by decide : Rg 0 0 (0 : Int32)) c34914 (by decide)
      refine lv_iconst (v := 1) hx hb dX3_numberOf_4 (by decide) ?_
      subst hAe
      exact W.iret (v := 1) hx hb hr (fun t ht hW => ⟨⟨_, u, rfl, ⟨(by decide : Rg (-2147483648) 2147483647 (1 : Int32)), trivial⟩, by rw [ht]; exact hP, hD⟩, hS.F ht⟩) hS.2.2 dX3_numberOf_5
  | succ n ih =>
    intro sz u0 x0 x1 x2 px1 px2 hrk
    refine Met.ofW (cc := cX3_numberOf) (maxL := 11) (ret := (some .int)) (by decide) rfl ?_
    intro p e s m args below meth c s₁ B hml hv
    obtain ⟨rfl, hsz, hP, hKK, hD0⟩ := hv
    have hx := B.exec
    have hb := B.bytes
    have hr := B.returns
    have hts := atoms_spec (ws := wsX3_numberOf) B.pre
    have hown : s.vm.findClass RX3 = some m.cls := findClass_of_methodNamed B.named
    have hlocks := B.notSynchronized
    have hK := hKK.1
    have hin2 : ∀ w ∈ wsX20, w ∈ wsX3_numberOf := by decide +kernel
    have hin3 : ∀ w ∈ wsX30, w ∈ wsX3_numberOf := by decide +kernel
    subst hsz
    have hD := hD0.self (sz := s.heap.size)
    obtain ⟨A, hAe⟩ : ∃ A, A = va_A (wX cI cS a na nc N L u0) s.heap.size := ⟨_, rfl⟩
    rw [← hAe] at hD
    have hA : ∀ q : Nat, s.heap.size ≤ q → A q := fun q h => by rw [hAe]; exact Or.inr h
    have hS : va_S A s.heap s.heap [] := va_S.rf
    have hl := lv_entry ([.ref (a 7), .int x0, .int x1, .int x2]) (n := 11) (Nat.le_of_ble_eq_true rfl)
    rw [lg_entry_eq]
    generalize (lg_sl ([.ref (a 7), .int x0, .int x1, .int x2]) ++ List.replicate (11 - (lg_sl ([.ref (a 7), .int x0, .int x1, .int x2])).length) Slot.unset).toArray = ls at hl ⊢
    have hl : lv_has ls 11 [(0, .ref (a 7)), (1, .int x0), (2, .int x1), (3, .int x2)] := hl
    obtain ⟨u, hu9⟩ : ∃ u : SU, u = u0 := ⟨_, rfl⟩
    rw [← hu9] at hP hD
    have lp114 : ∀ (n114 : Nat) (y114_l4 : Int32) (y114_l5 : Int32) (y114_l7 : Int32) (y114_l8 : Int32) (y114_l9 : Int32) (y114_l10 : Int32) (u : SU) (H : Heap) (locs : List Loc) (ls : Array Slot), Rg 1 65549 x1 → Rg 0 12 x2 → Rg 0 11 y114_l4 → Rg 0 11 y114_l10 → va_P D cls (wX cI cS a na nc N L u) H → va_D A (wX cI cS a na nc N L u) → va_S A s.heap H locs → lv_has ls 11 [(0, .ref (a 7)), (2, .int x1), (3, .int x2), (4, .int y114_l4), (5, .int y114_l5), (7, .int y114_l7), (8, .int y114_l8), (9, .int y114_l9), (10, .int y114_l10)] → 11 - y114_l10.toInt < (n114 : Int) → W p l e (headSpec wsX3_numberOf ({ frames := n + 1 + 1, cells := 0, slots := 0, locals := 40 * (n + 1 + 1) })).room s m ([.ref (a 7), .int x0, .int x1, .int x2]).toArray below meth c H locs 0 0 (MQ below (QF (S := SU) D (wX cI cS a na nc N L u0) (wX cI cS a na nc N L) s.heap.size (fun r _ => Rg (-2147483648) 2147483647 r ∧ True)) ([.ref (a 7), .int x0, .int x1, .int x2]).toArray s 0 0 (va_A (wX cI cS a na nc N L u0) s.heap.size)) (F0 m 114 ls []) := by
      intro n114
      induction n114 with
      | zero =>
        intro y114_l4 y114_l5 y114_l7 y114_l8 y114_l9 y114_l10 u H locs ls g114_l2 g114_l3 g114_l4 g114_l10 hP hD hS hl hm114
        exact absurd rfl (me_z g114_l10 hm114)
      | succ n114 ih114 =>
        intro y114_l4 y114_l5 y114_l7 y114_l8 y114_l9 y114_l10 u H locs ls g114_l2 g114_l3 g114_l4 g114_l10 hP hD hS hl hm114
        refine lv_iload hx hb dX3_numberOf_114 (lv_at hl 8 rfl) ?_
        refine lv_iload hx hb dX3_numberOf_116 (lv_at hl 3 rfl) ?_
        refine lv_icmp_ge (tgt := 161) hx hb dX3_numberOf_118 (by decide) (fun c35328 => ?_) (fun c35328 => ?_)
        · refine lv_aload_n hx hb dX3_numberOf_161 rfl (lv_at hl 0 rfl) ?_
          refine va_get (D := D) (ci := 3) (v := .ref na) (C := RX3) (T := TX3) (N := 4) hx hb hts hin3 hown hK hP 7 rfl rfl 2 (by decide) (hts (.fieldLink RX3 20 "MissedPoints$Pairs" "numbers" "LMissedPoints$Memo;") (by decide +kernel)) (fun _ h9 => h9) rfl dX3_numberOf_162 ?_
          refine lv_iload hx hb dX3_numberOf_165 (lv_at hl 4 rfl) ?_
          refine lv_iload hx hb dX3_numberOf_167 (lv_at hl 7 rfl) ?_
          refine wk_qv (wX cI cS a na nc N L) u (As := [.int y114_l5, .int y114_l9]) (rest := []) ⟨hx, hb, hml, hown, hts⟩ (k_X1_keep_13 l D cI cS _ a na nc N L u hL hN y114_l5 y114_l9) hKK hP hD hS hA 13 (ci := 1) rfl rfl (cwV 2 hts gX3_numberOf_X1_keep rfl rfl rfl (by decide +kernel) ⟨by show 0 + 1 ≤ (n + 1) + 1; omega, by show 8 + (3 + 11) + 0 ≤ 40 * ((n + 1) + 1); omega⟩) rfl hl.1 rfl (Nat.le_of_ble_eq_true rfl) dX3_numberOf_169 ⟨Nat.le_of_ble_eq_true rfl, Nat.le_of_ble_eq_true rfl⟩ (fun u H locs hr35329 hP hD hS => ?_)
          refine lv_iload hx hb dX3_numberOf_172 (lv_at hl 7 rfl) ?_
          subst hAe
          exact W.iret (v := y114_l9) hx hb hr (fun t ht hW => ⟨⟨_, u, rfl, ⟨(rg_any y114_l9), trivial⟩, by rw [ht]; exact hP, hD⟩, hS.F ht⟩) hS.2.2 dX3_numberOf_174
        · have g35330 : Rg 1 11 y114_l4 := rg_ltr g114_l10 g114_l4 (rg_nle c35328) (by decide)
          have g35331 : Rg 0 10 y114_l10 := rg_ltl g114_l10 g114_l4 (rg_nle c35328) (by decide)
          refine lv_iload hx hb dX3_numberOf_121 (lv_at hl 6 rfl) ?_
          refine lv_iload hx hb dX3_numberOf_123 (lv_at hl 8 rfl) ?_
          refine lv_ishr hx hb dX3_numberOf_125 ?_
          refine wk_topP (P := fun r => r = y114_l8 >>> (y114_l10 &&& 31)) rfl (fun r35332 qr35332 => ?_)
          refine lv_iconst (v := 1) hx hb dX3_numberOf_126 (by decide) ?_
          refine wk_iandr hx hb dX3_numberOf_127 (by decide : Rg 1 1 (1 : Int32)) (by decide) (fun r35333 hr35333 qr35333 => ?_)
          refine lv_if_eq (tgt := 155) hx hb dX3_numberOf_128 (by decide) (fun c35334 => ?_) (fun c35334 => ?_)
          · have g35335 : Rg 0 0 r35333 := wk_eql hr35333 (by decide : Rg 0 0 (0 : Int32)) c35334 (by decide)
            refine wk_iinc (lv' := fun r => [(10, .int r), (0, .ref (a 7)), (2, .int x1), (3, .int x2), (4, .int y114_l4), (5, .int y114_l5), (7, .int y114_l7), (8, .int y114_l8), (9, .int y114_l9)]) (e1 := 1) (f := 11) hx hb dX3_numberOf_155 hl (k := 8) rfl (by decide) g35331 (by decide) (fun _ => rfl) (fun r35336 ls hr35336 er35336 hl => ?_)
            refine lv_goto (tgt := 114) hx hb dX3_numberOf_158 (by decide) ?_
            exact ih114 y114_l4 y114_l5 y114_l7 y114_l8 y114_l9 r35336 u _ _ ls g114_l2 g114_l3 (show Rg 0 11 y114_l4 from rg_w g35330 (by decide) (by decide)) (show Rg 0 11 r35336 from rg_w hr35336 (by decide) (by decide)) hP hD hS (lv_sub (l' := [(0, .ref (a 7)), (2, .int x1), (3, .int x2), (4, .int y114_l4), (5, .int y114_l5), (7, .int y114_l7), (8, .int y114_l8), (9, .int y114_l9), (10, .int r35336)]) hl [1, 2, 3, 4, 5, 6, 7, 8, 0] rfl) (me_up hm114 er35336 (by decide))
          · have g35337 : Rg 1 1 r35333 := rg_ne_lo (k := 0) hr35333 (by decide) c35334 (by decide)
            refine lv_iload hx hb dX3_numberOf_131 (lv_at hl 7 rfl) ?_
            refine lv_aload_n hx hb dX3_numberOf_133 rfl (lv_at hl 0 rfl) ?_
            refine lv_iload hx hb dX3_numberOf_134 (lv_at hl 5 rfl) ?_
            refine lv_iconst (v := 1) hx hb dX3_numberOf_136 (by decide) ?_
            refine lv_iload hx hb dX3_numberOf_137 (lv_at hl 8 rfl) ?_
            refine wk_ishl1 (f := 1024) hx hb dX3_numberOf_139 g35331 (by decide) (fun r35338 hr35338 qr35338 => ?_)
            refine lv_iconst (v := (-1)) hx hb dX3_numberOf_140 (by decide) ?_
            refine lv_ixor hx hb dX3_numberOf_141 ?_
            refine wk_topP (P := fun r => r = r35338 ^^^ ((-1) : Int32)) rfl (fun r35339 qr35339 => ?_)
            refine lv_iand hx hb dX3_numberOf_142 ?_
            refine wk_topP (P := fun r => r = y114_l7 &&& r35339) rfl (fun r35340 qr35340 => ?_)
            refine lv_iload_n hx hb dX3_numberOf_143 rfl (lv_at hl 1 rfl) ?_
            refine lv_iconst (v := 1) hx hb dX3_numberOf_144 (by decide) ?_
            refine wk_isub (e1 := 0) (f := 65548) hx hb dX3_numberOf_145 g114_l2 (by decide : Rg 1 1 (1 : Int32)) (by decide) (fun r35341 hr35341 er35341 qr35341 => ?_)
            refine lv_iload_n hx hb dX3_numberOf_146 rfl (lv_at hl 2 rfl) ?_
            refine lv_iconst (v := 1) hx hb dX3_numberOf_147 (by decide) ?_
            refine wk_iadd (e1 := 1) (f := 13) hx hb dX3_numberOf_148 g114_l3 (by decide : Rg 1 1 (1 : Int32)) (by decide) (fun r35342 hr35342 er35342 qr35342 => ?_)
            refine wk_qi (wX cI cS a na nc N L) u (As := [.int r35340, .int r35341, .int r35342]) (rest := [.int y114_l9]) ⟨hx, hb, hml, hown, hts⟩ (ih _ u r35340 r35341 r35342 ((show Rg 0 65549 r35341 from rg_w hr35341 (by decide) (by decide))) ((show Rg 0 13 r35342 from rg_w hr35342 (by decide) (by decide))) (by have z1 := er35342; have z9 : (1 : Int32).toInt = 1 := (by decide); omega)) hKK hP hD hS hA 7 (ci := 3) rfl rfl (cwV 3 hts gX3_numberOf_X3_numberOf rfl rfl rfl (by decide +kernel) ⟨by show n + 1 + 1 ≤ (n + 1) + 1; omega, by show 8 + (11 + 11) + 40 * (n + 1) ≤ 40 * ((n + 1) + 1); omega⟩) rfl hl.1 rfl (Nat.le_of_ble_eq_true rfl) dX3_numberOf_149 ⟨Nat.le_of_ble_eq_true rfl, Nat.le_of_ble_eq_true rfl⟩ (fun r35343 u H locs hr35343 hP hD hS => ?_)
            refine lv_iadd hx hb dX3_numberOf_152 ?_
            refine wk_topP (P := fun r => r = y114_l9 + r35343) rfl (fun r35344 qr35344 => ?_)
            refine lv_istore (lv' := [(9, .int r35344), (0, .ref (a 7)), (2, .int x1), (3, .int x2), (4, .int y114_l4), (5, .int y114_l5), (7, .int y114_l7), (8, .int y114_l8), (10, .int y114_l10)]) hx hb dX3_numberOf_153 hl (by decide) rfl (fun ls hl => ?_)
            refine wk_iinc (lv' := fun r => [(10, .int r), (9, .int r35344), (0, .ref (a 7)), (2, .int x1), (3, .int x2), (4, .int y114_l4), (5, .int y114_l5), (7, .int y114_l7), (8, .int y114_l8)]) (e1 := 1) (f := 11) hx hb dX3_numberOf_155 hl (k := 8) rfl (by decide) g35331 (by decide) (fun _ => rfl) (fun r35345 ls hr35345 er35345 hl => ?_)
            refine lv_goto (tgt := 114) hx hb dX3_numberOf_158 (by decide) ?_
            exact ih114 y114_l4 y114_l5 y114_l7 y114_l8 r35344 r35345 u _ _ ls g114_l2 g114_l3 (show Rg 0 11 y114_l4 from rg_w g35330 (by decide) (by decide)) (show Rg 0 11 r35345 from rg_w hr35345 (by decide) (by decide)) hP hD hS (lv_sub (l' := [(0, .ref (a 7)), (2, .int x1), (3, .int x2), (4, .int y114_l4), (5, .int y114_l5), (7, .int y114_l7), (8, .int y114_l8), (9, .int r35344), (10, .int r35345)]) hl [2, 3, 4, 5, 6, 7, 8, 1, 0] rfl) (me_up hm114 er35345 (by decide))
    refine lv_iload_n hx hb dX3_numberOf_0 rfl (lv_at hl 2 rfl) ?_
    refine lv_if_ne (tgt := 6) hx hb dX3_numberOf_1 (by decide) (fun c35346 => ?_) (fun c35346 => ?_)
    · have g35347 : Rg 1 65549 x1 := rg_ne_lo (k := 0) px1 (by decide) c35346 (by decide)
      refine lv_bipush (v := 31) hx hb dX3_numberOf_6 (by decide) ?_
      refine lv_iload_n hx hb dX3_numberOf_8 rfl (lv_at hl 1 rfl) ?_
      refine lz_ss (As := [.int x0]) (rest := [.int 31]) ⟨hx, hb, hml, hown, hts⟩ (k_J6_numberOfLeadingZeros_0f7a4 l D cI cS x0) hKK (hP.sub (ws' := []) [] rfl) (va_cwS 1 hts gX3_numberOf_J6_numberOfLeadingZeros_0f7a4 rfl rfl rfl (by decide +kernel) ⟨by show 0 + 1 ≤ (n + 1) + 1; omega, by show 8 + (2 + 11) + 0 ≤ 40 * ((n + 1) + 1); omega⟩) rfl hl.1 rfl (Nat.le_of_ble_eq_true rfl) dX3_numberOf_9 ⟨Nat.le_of_ble_eq_true rfl, Nat.le_of_ble_eq_true rfl⟩ (fun r35348 hr35348 => ?_)
      refine wk_isub (e1 := (-1)) (f := 31) hx hb dX3_numberOf_12 (by decide : Rg 31 31 (31 : Int32)) hr35348.1 (by decide) (fun r35349 hr35349 er35349 qr35349 => ?_)
      refine lv_istore (lv' := [(4, .int r35349), (0, .ref (a 7)), (1, .int x0), (2, .int x1), (3, .int x2)]) hx hb dX3_numberOf_13 hl (by decide) rfl (fun ls hl => ?_)
      refine lv_iload_n hx hb dX3_numberOf_15 rfl (lv_at hl 3 rfl) ?_
      refine lv_if_lt (tgt := 42) hx hb dX3_numberOf_16 (by decide) (fun c35350 => ?_) (fun c35350 => ?_)
      · exact absurd c35350 (wk_nlt g35347 (by decide : Rg 0 0 (0 : Int32)) (by decide))
      · refine lv_iconst (v := 2) hx hb dX3_numberOf_19 (by decide) ?_
        refine lv_iload_n hx hb dX3_numberOf_20 rfl (lv_at hl 3 rfl) ?_
        refine wk_imul (f := 131098) hx hb dX3_numberOf_21 (by decide : Rg 0 2 (2 : Int32)) (show Rg 0 65549 x1 from rg_w g35347 (by decide) (by decide)) (by decide) (fun r35351 hr35351 er35351 qr35351 => ?_)
        refine lv_iload_n hx hb dX3_numberOf_22 rfl (lv_at hl 2 rfl) ?_
        refine lz_ss (As := [.int x0]) (rest := [.int r35351]) ⟨hx, hb, hml, hown, hts⟩ (k_J6_bitCount_0f7a4 l D cI cS x0) hKK (hP.sub (ws' := []) [] rfl) (va_cwS 1 hts gX3_numberOf_J6_bitCount_0f7a4 rfl rfl rfl (by decide +kernel) ⟨by show 0 + 1 ≤ (n + 1) + 1; omega, by show 8 + (1 + 11) + 0 ≤ 40 * ((n + 1) + 1); omega⟩) rfl hl.1 rfl (Nat.le_of_ble_eq_true rfl) dX3_numberOf_23 ⟨Nat.le_of_ble_eq_true rfl, Nat.le_of_ble_eq_true rfl⟩ (fun r35352 hr35352 => ?_)
        refine lv_icmp_gt (tgt := 42) hx hb dX3_numberOf_26 (by decide) (fun c35353 => ?_) (fun c35353 => ?_)
        · have g35354 : Rg (-2147483648) 131097 r35352 := rg_ltl hr35352.1 hr35351 c35353 (by decide)
          refine lv_iconst (v := 0) hx hb dX3_numberOf_42 (by decide) ?_
          subst hAe
          exact W.iret (v := 0) hx hb hr (fun t ht hW => ⟨⟨_, u, rfl, ⟨(by decide : Rg (-2147483648) 2147483647 (0 : Int32)), trivial⟩, by rw [ht]; exact hP, hD⟩, hS.F ht⟩) hS.2.2 dX3_numberOf_43
        · have g35355 : Rg 0 2147483647 r35352 := rg_ler hr35351 hr35352.1 (rg_nlt c35353) (by decide)
          refine lv_iload hx hb dX3_numberOf_29 (lv_at hl 0 rfl) ?_
          refine lv_bipush (v := 12) hx hb dX3_numberOf_31 (by decide) ?_
          refine lv_icmp_ge (tgt := 42) hx hb dX3_numberOf_33 (by decide) (fun c35356 => ?_) (fun c35356 => ?_)
          · have g35357 : Rg 12 31 r35349 := rg_ler (by decide : Rg 12 12 (12 : Int32)) hr35349 c35356 (by decide)
            refine lv_iconst (v := 0) hx hb dX3_numberOf_42 (by decide) ?_
            subst hAe
            exact W.iret (v := 0) hx hb hr (fun t ht hW => ⟨⟨_, u, rfl, ⟨(by decide : Rg (-2147483648) 2147483647 (0 : Int32)), trivial⟩, by rw [ht]; exact hP, hD⟩, hS.F ht⟩) hS.2.2 dX3_numberOf_43
          · have g35358 : Rg (-1) 11 r35349 := rg_ltl hr35349 (by decide : Rg 12 12 (12 : Int32)) (rg_nle c35356) (by decide)
            refine lv_iload_n hx hb dX3_numberOf_36 rfl (lv_at hl 4 rfl) ?_
            refine lv_bipush (v := 12) hx hb dX3_numberOf_37 (by decide) ?_
            refine lv_icmp_le (tgt := 44) hx hb dX3_numberOf_39 (by decide) (fun c35359 => ?_) (fun c35359 => ?_)
            · have g35360 : Rg 0 12 x2 := rg_lel px2 (by decide : Rg 12 12 (12 : Int32)) c35359 (by decide)
              have z35361 : ¬ x0 = 0 := fun z8 => by have z1 := congrArg Int32.toInt (hr35352.2 z8); have z2 := (lz_le _ _).mp (rg_nlt c35353); have z3 := er35351; have z4 : (2 : Int32).toInt = 2 := (by decide); have z5 := g35347; have z6 : (0 : Int32).toInt = 0 := (by decide); rw [z4] at z3; omega
              have g35362 : Rg 0 11 r35349 := ⟨by have z1 := hr35348.2 z35361; have z2 := er35349; have z3 : (31 : Int32).toInt = 31 := (by decide); omega, g35358.2⟩
              refine lv_iload_n hx hb dX3_numberOf_44 rfl (lv_at hl 3 rfl) ?_
              refine lv_iconst (v := 1) hx hb dX3_numberOf_45 (by decide) ?_
              refine wk_isub (e1 := 0) (f := 65548) hx hb dX3_numberOf_46 g35347 (by decide : Rg 1 1 (1 : Int32)) (by decide) (fun r35363 hr35363 er35363 qr35363 => ?_)
              refine lv_sipush (v := 4096) hx hb dX3_numberOf_47 (by decide) ?_
              refine wk_imul (f := 268484608) hx hb dX3_numberOf_50 hr35363 (by decide : Rg 0 4096 (4096 : Int32)) (by decide) (fun r35364 hr35364 er35364 qr35364 => ?_)
              refine lv_iload_n hx hb dX3_numberOf_51 rfl (lv_at hl 2 rfl) ?_
              refine lv_iadd hx hb dX3_numberOf_52 ?_
              refine wk_topP (P := fun r => r = r35364 + x0) rfl (fun r35365 qr35365 => ?_)
              refine lv_istore (lv' := [(5, .int r35365), (4, .int r35349), (0, .ref (a 7)), (1, .int x0), (2, .int x1), (3, .int x2)]) hx hb dX3_numberOf_53 hl (by decide) rfl (fun ls hl => ?_)
              refine lv_aload_n hx hb dX3_numberOf_55 rfl (lv_at hl 2 rfl) ?_
              refine va_get (D := D) (ci := 3) (v := .ref na) (C := RX3) (T := TX3) (N := 4) hx hb hts hin3 hown hK hP 7 rfl rfl 2 (by decide) (hts (.fieldLink RX3 20 "MissedPoints$Pairs" "numbers" "LMissedPoints$Memo;") (by decide +kernel)) (fun _ h9 => h9) rfl dX3_numberOf_56 ?_
              refine lv_iload hx hb dX3_numberOf_59 (lv_at hl 0 rfl) ?_
              refine wk_sv 13 (As := [.int r35365]) (rest := []) ⟨hx, hb, hml, hown, hts⟩ (k_X1_recall_13 l D cI cS a na nc N L u hL hN r35365) hKK hP (ci := 1) rfl rfl (cwV 1 hts gX3_numberOf_X1_recall rfl rfl rfl (by decide +kernel) ⟨by show 0 + 1 ≤ (n + 1) + 1; omega, by show 8 + (2 + 11) + 0 ≤ 40 * ((n + 1) + 1); omega⟩) rfl hl.1 rfl (Nat.le_of_ble_eq_true rfl) dX3_numberOf_61 ⟨Nat.le_of_ble_eq_true rfl, Nat.le_of_ble_eq_true rfl⟩ (fun r35366 hr35366 => ?_)
              refine lv_istore (lv' := [(6, .int r35366), (5, .int r35365), (4, .int r35349), (0, .ref (a 7)), (1, .int x0), (2, .int x1), (3, .int x2)]) hx hb dX3_numberOf_64 hl (by decide) rfl (fun ls hl => ?_)
              refine lv_iload hx hb dX3_numberOf_66 (lv_at hl 0 rfl) ?_
              refine lv_if_lt (tgt := 74) hx hb dX3_numberOf_68 (by decide) (fun c35367 => ?_) (fun c35367 => ?_)
              · have g35368 : Rg (-1) (-1) r35366 := rg_ltl hr35366.1 (by decide : Rg 0 0 (0 : Int32)) c35367 (by decide)
                refine lv_iload_n hx hb dX3_numberOf_74 rfl (lv_at hl 4 rfl) ?_
                refine lv_iconst (v := 1) hx hb dX3_numberOf_75 (by decide) ?_
                refine lv_iload hx hb dX3_numberOf_76 (lv_at hl 2 rfl) ?_
                refine wk_ishl1 (f := 2048) hx hb dX3_numberOf_78 g35362 (by decide) (fun r35369 hr35369 qr35369 => ?_)
                refine lv_iconst (v := (-1)) hx hb dX3_numberOf_79 (by decide) ?_
                refine lv_ixor hx hb dX3_numberOf_80 ?_
                refine wk_topP (P := fun r => r = r35369 ^^^ ((-1) : Int32)) rfl (fun r35370 qr35370 => ?_)
                refine lv_iand hx hb dX3_numberOf_81 ?_
                refine wk_topP (P := fun r => r = x0 &&& r35370) rfl (fun r35371 qr35371 => ?_)
                refine lv_istore (lv' := [(7, .int r35371), (6, .int r35366), (5, .int r35365), (4, .int r35349), (0, .ref (a 7)), (1, .int x0), (2, .int x1), (3, .int x2)]) hx hb dX3_numberOf_82 hl (by decide) rfl (fun ls hl => ?_)
                refine lv_aload_n hx hb dX3_numberOf_84 rfl (lv_at hl 4 rfl) ?_
                refine va_get (D := D) (ci := 3) (v := .ref (a 1)) (C := RX3) (T := TX3) (N := 4) hx hb hts hin3 hown hK hP 7 rfl rfl 0 (by decide) (hts (.fieldLink RX3 23 "MissedPoints$Pairs" "net" "LMissedPoints$Net;") (by decide +kernel)) (fun _ h9 => h9) rfl dX3_numberOf_85 ?_
                refine va_getN (D := D) (ci := 2) (v := .ref (a 2)) (C := RX2) (T := TX2) (N := 3) hx hb hts hin2 hown hK hP 1 rfl rfl 0 (by decide) (va_Nw.use rfl hKK.2.2.2.2.2.2.2.2.2.2.2.2.1) (fun _ h9 => h9) rfl dX3_numberOf_88 ?_
                refine lv_iload hx hb dX3_numberOf_91 (lv_at hl 3 rfl) ?_
                refine wk_aldA hx hb hK hP 2 0 rfl rfl (rg_in g35362 (by decide) (by decide)) dX3_numberOf_93 (fun r35372 => ?_)
                refine lv_iload hx hb dX3_numberOf_94 (lv_at hl 0 rfl) ?_
                refine lv_iand hx hb dX3_numberOf_96 ?_
                refine wk_topP (P := fun r => r = r35372 &&& r35371) rfl (fun r35373 qr35373 => ?_)
                refine lv_istore (lv' := [(8, .int r35373), (7, .int r35371), (6, .int r35366), (5, .int r35365), (4, .int r35349), (0, .ref (a 7)), (1, .int x0), (2, .int x1), (3, .int x2)]) hx hb dX3_numberOf_97 hl (by decide) rfl (fun ls hl => ?_)
                refine lv_aload_n hx hb dX3_numberOf_99 rfl (lv_at hl 5 rfl) ?_
                refine lv_iload hx hb dX3_numberOf_100 (lv_at hl 1 rfl) ?_
                refine lv_iload_n hx hb dX3_numberOf_102 rfl (lv_at hl 7 rfl) ?_
                refine lv_iload_n hx hb dX3_numberOf_103 rfl (lv_at hl 8 rfl) ?_
                refine lv_iconst (v := 1) hx hb dX3_numberOf_104 (by decide) ?_
                refine wk_iadd (e1 := 1) (f := 13) hx hb dX3_numberOf_105 g35360 (by decide : Rg 1 1 (1 : Int32)) (by decide) (fun r35374 hr35374 er35374 qr35374 => ?_)
                refine wk_qi (wX cI cS a na nc N L) u (As := [.int r35371, .int x1, .int r35374]) (rest := []) ⟨hx, hb, hml, hown, hts⟩ (ih _ u r35371 x1 r35374 ((show Rg 0 65549 x1 from rg_w g35347 (by decide) (by decide))) ((show Rg 0 13 r35374 from rg_w hr35374 (by decide) (by decide))) (by have z1 := er35374; have z9 : (1 : Int32).toInt = 1 := (by decide); omega)) hKK hP hD hS hA 7 (ci := 3) rfl rfl (cwV 3 hts gX3_numberOf_X3_numberOf rfl rfl rfl (by decide +kernel) ⟨by show n + 1 + 1 ≤ (n + 1) + 1; omega, by show 8 + (11 + 11) + 40 * (n + 1) ≤ 40 * ((n + 1) + 1); omega⟩) rfl hl.1 rfl (Nat.le_of_ble_eq_true rfl) dX3_numberOf_106 ⟨Nat.le_of_ble_eq_true rfl, Nat.le_of_ble_eq_true rfl⟩ (fun r35375 u H locs hr35375 hP hD hS => ?_)
                refine lv_istore (lv' := [(9, .int r35375), (8, .int r35373), (7, .int r35371), (6, .int r35366), (5, .int r35365), (4, .int r35349), (0, .ref (a 7)), (1, .int x0), (2, .int x1), (3, .int x2)]) hx hb dX3_numberOf_109 hl (by decide) rfl (fun ls hl => ?_)
                refine lv_iconst (v := 0) hx hb dX3_numberOf_111 (by decide) ?_
                refine lv_istore (lv' := [(10, .int 0), (9, .int r35375), (8, .int r35373), (7, .int r35371), (6, .int r35366), (5, .int r35365), (4, .int r35349), (0, .ref (a 7)), (1, .int x0), (2, .int x1), (3, .int x2)]) hx hb dX3_numberOf_112 hl (by decide) rfl (fun ls hl => ?_)
                exact lp114 12 r35349 r35365 r35371 r35373 r35375 (0 : Int32) u _ _ ls g35347 g35360 g35362 (by decide : Rg 0 11 (0 : Int32)) hP hD hS (lv_sub (l' := [(0, .ref (a 7)), (2, .int x1), (3, .int x2), (4, .int r35349), (5, .int r35365), (7, .int r35371), (8, .int r35373), (9, .int r35375), (10, .int 0)]) hl [7, 9, 10, 6, 5, 3, 2, 1, 0] rfl) (me_i (by decide : Rg 0 11 (0 : Int32)) (by decide))
              · have g35376 : Rg 0 65535 r35366 := rg_ler (by decide : Rg 0 0 (0 : Int32)) hr35366.1 (rg_nlt c35367) (by decide)
                refine lv_iload hx hb dX3_numberOf_71 (lv_at hl 0 rfl) ?_
                subst hAe
                exact W.iret (v := r35366) hx hb hr (fun t ht hW => ⟨⟨_, u, rfl, ⟨(rg_any r35366), trivial⟩, by rw [ht]; exact hP, hD⟩, hS.F ht⟩) hS.2.2 dX3_numberOf_73
            · have g35377 : Rg 13 13 x2 := rg_ltr (by decide : Rg 12 12 (12 : Int32)) px2 (rg_nle c35359) (by decide)
              refine lv_iconst (v := 0) hx hb dX3_numberOf_42 (by decide) ?_
              subst hAe
              exact W.iret (v := 0) hx hb hr (fun t ht hW => ⟨⟨_, u, rfl, ⟨(by decide : Rg (-2147483648) 2147483647 (0 : Int32)), trivial⟩, by rw [ht]; exact hP, hD⟩, hS.F ht⟩) hS.2.2 dX3_numberOf_43
    · have g35378 : Rg 0 0 x1 := wk_eql px1 (by decide : Rg 0 0 (0 : Int32)) c35346 (by decide)
      refine lv_iconst (v := 1) hx hb dX3_numberOf_4 (by decide) ?_
      subst hAe
      exact W.iret (v := 1) hx hb hr (fun t ht hW => ⟨⟨_, u, rfl, ⟨(by decide : Rg (-2147483648) 2147483647 (1 : Int32)), trivial⟩, by rw [ht]; exact hP, hD⟩, hS.F ht⟩) hS.2.2 dX3_numberOf_5
theorem k_X3_numberOf (l : Launch) (D : va_G) (cI cS : ClassId) (sz : Nat) (a : Nat → Nat) (na nc N : Nat) (L u0 : SU) (hL : TyX L) (hN : N = 0 ∨ N = 24576) (x0 x1 x2 : Int32) (px1 : Rg 0 65549 x1) (px2 : Rg 0 0 x2) : Met l yX3_numberOf wsX3_numberOf ({ frames := 13 + 1, cells := 0, slots := 0, locals := 40 * (13 + 1) }) (PQ D cI cS (wX cI cS a na nc N L u0) sz [.ref (a 7), .int x0, .int x1, .int x2]) (QF (S := SU) D (wX cI cS a na nc N L u0) (wX cI cS a na nc N L) sz (fun r _ => Rg (-2147483648) 2147483647 r ∧ True)) 0 0 (va_A (wX cI cS a na nc N L u0) sz) := k_X3_numberOf_r l D cI cS a na nc N L hL hN 13 sz u0 x0 x1 x2 (px1) (rg_w px2 (by decide) (by decide)) (by have z1 := px2; omega)
set_option maxHeartbeats 4000000 in
set_option maxRecDepth 100000 in
theorem k_X3_best (l : Launch) (D : va_G) (cI cS : ClassId) (sz : Nat) (a : Nat → Nat) (na nc N : Nat) (L u0 : SU) (hL : TyX L) (hN : N = 0 ∨ N = 24576) (x0 : Int32) : Met l yX3_best wsX3_best ({ frames := 15, cells := 0, slots := 0, locals := 600 }) (PQ D cI cS (wX cI cS a na nc N L u0) sz [.ref (a 7), .int x0]) (QF (S := SU) D (wX cI cS a na nc N L u0) (wX cI cS a na nc N L) sz (fun r _ => Rg 0 65549 r ∧ True)) 0 0 (va_A (wX cI cS a na nc N L u0) sz) := by
  refine Met.ofW (cc := cX3_best) (maxL := 2) (ret := (some .int)) (by decide) rfl ?_
  intro p e s m args below meth c s₁ B hml hv
  obtain ⟨rfl, hsz, hP, hKK, hD0⟩ := hv
  have hx := B.exec
  have hb := B.bytes
  have hr := B.returns
  have hts := atoms_spec (ws := wsX3_best) B.pre
  have hown : s.vm.findClass RX3 = some m.cls := findClass_of_methodNamed B.named
  have hlocks := B.notSynchronized
  have hK := hKK.1
  subst hsz
  have hD := hD0.self (sz := s.heap.size)
  obtain ⟨A, hAe⟩ : ∃ A, A = va_A (wX cI cS a na nc N L u0) s.heap.size := ⟨_, rfl⟩
  rw [← hAe] at hD
  have hA : ∀ q : Nat, s.heap.size ≤ q → A q := fun q h => by rw [hAe]; exact Or.inr h
  have hS : va_S A s.heap s.heap [] := va_S.rf
  have hl := lv_entry ([.ref (a 7), .int x0]) (n := 2) (Nat.le_of_ble_eq_true rfl)
  rw [lg_entry_eq]
  generalize (lg_sl ([.ref (a 7), .int x0]) ++ List.replicate (2 - (lg_sl ([.ref (a 7), .int x0])).length) Slot.unset).toArray = ls at hl ⊢
  have hl : lv_has ls 2 [(0, .ref (a 7)), (1, .int x0)] := hl
  obtain ⟨u, hu9⟩ : ∃ u : SU, u = u0 := ⟨_, rfl⟩
  rw [← hu9] at hP hD
  refine lv_aload_n hx hb dX3_best_0 rfl (lv_at hl 0 rfl) ?_
  refine wk_qv (wX cI cS a na nc N L) u (As := []) (rest := []) ⟨hx, hb, hml, hown, hts⟩ (k_X3_notice l D cI cS _ a na nc N L u hL hN) hKK hP hD hS hA 7 (ci := 3) rfl rfl (cwV 0 hts gX3_best_X3_notice rfl rfl rfl (by decide +kernel) ⟨Nat.le_of_ble_eq_true rfl, Nat.le_of_ble_eq_true rfl⟩) rfl hl.1 rfl (Nat.le_of_ble_eq_true rfl) dX3_best_1 ⟨Nat.le_of_ble_eq_true rfl, Nat.le_of_ble_eq_true rfl⟩ (fun u H locs hr35381 hP hD hS => ?_)
  refine lv_aload_n hx hb dX3_best_4 rfl (lv_at hl 0 rfl) ?_
  refine lv_iload_n hx hb dX3_best_5 rfl (lv_at hl 1 rfl) ?_
  refine lv_iconst (v := 0) hx hb dX3_best_6 (by decide) ?_
  refine wk_qi (wX cI cS a na nc N L) u (As := [.int x0, .int 0]) (rest := []) ⟨hx, hb, hml, hown, hts⟩ (k_X3_bestOf l D cI cS _ a na nc N L u hL hN x0 (0 : Int32) (by decide : Rg 0 0 (0 : Int32))) hKK hP hD hS hA 7 (ci := 3) rfl rfl (cwV 2 hts gX3_best_X3_bestOf rfl rfl rfl (by decide +kernel) ⟨Nat.le_of_ble_eq_true rfl, Nat.le_of_ble_eq_true rfl⟩) rfl hl.1 rfl (Nat.le_of_ble_eq_true rfl) dX3_best_7 ⟨Nat.le_of_ble_eq_true rfl, Nat.le_of_ble_eq_true rfl⟩ (fun r35382 u H locs hr35382 hP hD hS => ?_)
  subst hAe
  exact W.iret (v := r35382) hx hb hr (fun t ht hW => ⟨⟨_, u, rfl, ⟨hr35382.1, trivial⟩, by rw [ht]; exact hP, hD⟩, hS.F ht⟩) hS.2.2 dX3_best_10
set_option maxHeartbeats 4000000 in
set_option maxRecDepth 100000 in
theorem k_X3_lack (l : Launch) (D : va_G) (cI cS : ClassId) (sz : Nat) (a : Nat → Nat) (na nc N : Nat) (L u0 : SU) (hL : TyX L) (hN : N = 0 ∨ N = 24576) (x0 : Int32) : Met l yX3_lack wsX3_lack ({ frames := 16, cells := 0, slots := 0, locals := 640 }) (PQ D cI cS (wX cI cS a na nc N L u0) sz [.ref (a 7), .int x0]) (QF (S := SU) D (wX cI cS a na nc N L u0) (wX cI cS a na nc N L) sz (fun r _ => Rg (-2147483648) 2147483647 r ∧ True)) 0 0 (va_A (wX cI cS a na nc N L u0) sz) := by
  refine Met.ofW (cc := cX3_lack) (maxL := 2) (ret := (some .int)) (by decide) rfl ?_
  intro p e s m args below meth c s₁ B hml hv
  obtain ⟨rfl, hsz, hP, hKK, hD0⟩ := hv
  have hx := B.exec
  have hb := B.bytes
  have hr := B.returns
  have hts := atoms_spec (ws := wsX3_lack) B.pre
  have hown : s.vm.findClass RX3 = some m.cls := findClass_of_methodNamed B.named
  have hlocks := B.notSynchronized
  have hK := hKK.1
  subst hsz
  have hD := hD0.self (sz := s.heap.size)
  obtain ⟨A, hAe⟩ : ∃ A, A = va_A (wX cI cS a na nc N L u0) s.heap.size := ⟨_, rfl⟩
  rw [← hAe] at hD
  have hA : ∀ q : Nat, s.heap.size ≤ q → A q := fun q h => by rw [hAe]; exact Or.inr h
  have hS : va_S A s.heap s.heap [] := va_S.rf
  have hl := lv_entry ([.ref (a 7), .int x0]) (n := 2) (Nat.le_of_ble_eq_true rfl)
  rw [lg_entry_eq]
  generalize (lg_sl ([.ref (a 7), .int x0]) ++ List.replicate (2 - (lg_sl ([.ref (a 7), .int x0])).length) Slot.unset).toArray = ls at hl ⊢
  have hl : lv_has ls 2 [(0, .ref (a 7)), (1, .int x0)] := hl
  obtain ⟨u, hu9⟩ : ∃ u : SU, u = u0 := ⟨_, rfl⟩
  rw [← hu9] at hP hD
  refine lv_iload_n hx hb dX3_lack_0 rfl (lv_at hl 1 rfl) ?_
  refine lz_ss (As := [.int x0]) (rest := []) ⟨hx, hb, hml, hown, hts⟩ (k_J6_bitCount_0f7a4 l D cI cS x0) hKK (hP.sub (ws' := []) [] rfl) (va_cwS 1 hts gX3_lack_J6_bitCount_0f7a4 rfl rfl rfl (by decide +kernel) ⟨Nat.le_of_ble_eq_true rfl, Nat.le_of_ble_eq_true rfl⟩) rfl hl.1 rfl (Nat.le_of_ble_eq_true rfl) dX3_lack_1 ⟨Nat.le_of_ble_eq_true rfl, Nat.le_of_ble_eq_true rfl⟩ (fun r35387 hr35387 => ?_)
  refine lv_iconst (v := 2) hx hb dX3_lack_4 (by decide) ?_
  refine lv_aload_n hx hb dX3_lack_5 rfl (lv_at hl 0 rfl) ?_
  refine lv_iload_n hx hb dX3_lack_6 rfl (lv_at hl 1 rfl) ?_
  refine wk_qi (wX cI cS a na nc N L) u (As := [.int x0]) (rest := [.int 2, .int r35387]) ⟨hx, hb, hml, hown, hts⟩ (k_X3_best l D cI cS _ a na nc N L u hL hN x0) hKK hP hD hS hA 7 (ci := 3) rfl rfl (cwV 1 hts gX3_lack_X3_best rfl rfl rfl (by decide +kernel) ⟨Nat.le_of_ble_eq_true rfl, Nat.le_of_ble_eq_true rfl⟩) rfl hl.1 rfl (Nat.le_of_ble_eq_true rfl) dX3_lack_7 ⟨Nat.le_of_ble_eq_true rfl, Nat.le_of_ble_eq_true rfl⟩ (fun r35388 u H locs hr35388 hP hD hS => ?_)
  refine wk_imul (f := 131098) hx hb dX3_lack_10 (by decide : Rg 0 2 (2 : Int32)) hr35388.1 (by decide) (fun r35389 hr35389 er35389 qr35389 => ?_)
  refine lv_isub hx hb dX3_lack_11 ?_
  refine wk_topP (P := fun r => r = r35387 - r35389) rfl (fun r35390 qr35390 => ?_)
  subst hAe
  exact W.iret (v := r35390) hx hb hr (fun t ht hW => ⟨⟨_, u, rfl, ⟨(rg_any r35390), trivial⟩, by rw [ht]; exact hP, hD⟩, hS.F ht⟩) hS.2.2 dX3_lack_12
set_option maxRecDepth 20000 in
theorem ggX3_isWhole_J6_bitCount_0f7a4 : GoodIn wsX3_isWhole wsJ6_bitCount_0f7a4 := goodIn_r _ [37, 38, 39, 40] (by decide +kernel) (by decide +kernel)
set_option maxRecDepth 20000 in
theorem gX3_isWhole_J6_bitCount_0f7a4 : GoodIn wsX3_isWhole (va_wsS RX3 46 yJ6_bitCount_0f7a4 wsJ6_bitCount_0f7a4) := goodIn_app (goodIn_of _ (by decide +kernel)) ggX3_isWhole_J6_bitCount_0f7a4
set_option maxRecDepth 20000 in
theorem ggX3_isWhole_X3_best : GoodIn wsX3_isWhole wsX3_best := goodIn_r _ [5, 6, 7, 8, 4, 9, 10, 11, 12, 13, 14, 15, 16, 17, 18, 19, 20, 21, 22, 23, 24, 25, 26, 27, 28, 29, 30, 31, 32, 33, 34, 35, 36, 37, 38, 39, 40, 41, 42, 43, 44, 45, 46, 47, 48, 49, 50, 51, 52, 53] (by decide +kernel) (by decide +kernel)
set_option maxRecDepth 20000 in
theorem gX3_isWhole_X3_best : GoodIn wsX3_isWhole (wsV RX3 52 RX3 yX3_best wsX3_best) := goodIn_app (goodIn_of _ (by decide +kernel)) ggX3_isWhole_X3_best
theorem dX3_isWhole_0 : decode cX3_isWhole 0 = .ok (.iconst 2, 1) := by decide +kernel
theorem dX3_isWhole_1 : decode cX3_isWhole 1 = .ok (.aload_n 0, 1) := by decide +kernel
theorem dX3_isWhole_11 : decode cX3_isWhole 11 = .ok (.if_icmp .ne 7, 3) := by decide +kernel
theorem dX3_isWhole_14 : decode cX3_isWhole 14 = .ok (.iconst 1, 1) := by decide +kernel
theorem dX3_isWhole_15 : decode cX3_isWhole 15 = .ok (.goto 4, 3) := by decide +kernel
theorem dX3_isWhole_18 : decode cX3_isWhole 18 = .ok (.iconst 0, 1) := by decide +kernel
theorem dX3_isWhole_19 : decode cX3_isWhole 19 = .ok (.ireturn, 1) := by decide +kernel
theorem dX3_isWhole_2 : decode cX3_isWhole 2 = .ok (.iload_n 1, 1) := by decide +kernel
theorem dX3_isWhole_3 : decode cX3_isWhole 3 = .ok (.invokevirtual 52, 3) := by decide +kernel
theorem dX3_isWhole_6 : decode cX3_isWhole 6 = .ok (.imul, 1) := by decide +kernel
theorem dX3_isWhole_7 : decode cX3_isWhole 7 = .ok (.iload_n 1, 1) := by decide +kernel
theorem dX3_isWhole_8 : decode cX3_isWhole 8 = .ok (.invokestatic 46, 3) := by decide +kernel
set_option maxHeartbeats 4000000 in
set_option maxRecDepth 100000 in
theorem k_X3_isWhole (l : Launch) (D : va_G) (cI cS : ClassId) (sz : Nat) (a : Nat → Nat) (na nc N : Nat) (L u0 : SU) (hL : TyX L) (hN : N = 0 ∨ N = 24576) (x0 : Int32) : Met l yX3_isWhole wsX3_isWhole ({ frames := 16, cells := 0, slots := 0, locals := 640 }) (PQ D cI cS (wX cI cS a na nc N L u0) sz [.ref (a 7), .int x0]) (QF (S := SU) D (wX cI cS a na nc N L u0) (wX cI cS a na nc N L) sz (fun r _ => Rg 0 1 r ∧ True)) 0 0 (va_A (wX cI cS a na nc N L u0) sz) := by
  refine Met.ofW (cc := cX3_isWhole) (maxL := 2) (ret := (some .boolean)) (by decide) rfl ?_
  intro p e s m args below meth c s₁ B hml hv
  obtain ⟨rfl, hsz, hP, hKK, hD0⟩ := hv
  have hx := B.exec
  have hb := B.bytes
  have hr := B.returns
  have hts := atoms_spec (ws := wsX3_isWhole) B.pre
  have hown : s.vm.findClass RX3 = some m.cls := findClass_of_methodNamed B.named
  have hlocks := B.notSynchronized
  have hK := hKK.1
  subst hsz
  have hD := hD0.self (sz := s.heap.size)
  obtain ⟨A, hAe⟩ : ∃ A, A = va_A (wX cI cS a na nc N L u0) s.heap.size := ⟨_, rfl⟩
  rw [← hAe] at hD
  have hA : ∀ q : Nat, s.heap.size ≤ q → A q := fun q h => by rw [hAe]; exact Or.inr h
  have hS : va_S A s.heap s.heap [] := va_S.rf
  have hl := lv_entry ([.ref (a 7), .int x0]) (n := 2) (Nat.le_of_ble_eq_true rfl)
  rw [lg_entry_eq]
  generalize (lg_sl ([.ref (a 7), .int x0]) ++ List.replicate (2 - (lg_sl ([.ref (a 7), .int x0])).length) Slot.unset).toArray = ls at hl ⊢
  have hl : lv_has ls 2 [(0, .ref (a 7)), (1, .int x0)] := hl
  obtain ⟨u, hu9⟩ : ∃ u : SU, u = u0 := ⟨_, rfl⟩
  rw [← hu9] at hP hD
  refine lv_iconst (v := 2) hx hb dX3_isWhole_0 (by decide) ?_
  refine lv_aload_n hx hb dX3_isWhole_1 rfl (lv_at hl 0 rfl) ?_
  refine lv_iload_n hx hb dX3_isWhole_2 rfl (lv_at hl 1 rfl) ?_
  refine wk_qi (wX cI cS a na nc N L) u (As := [.int x0]) (rest := [.int 2]) ⟨hx, hb, hml, hown, hts⟩ (k_X3_best l D cI cS _ a na nc N L u hL hN x0) hKK hP hD hS hA 7 (ci := 3) rfl rfl (cwV 1 hts gX3_isWhole_X3_best rfl rfl rfl (by decide +kernel) ⟨Nat.le_of_ble_eq_true rfl, Nat.le_of_ble_eq_true rfl⟩) rfl hl.1 rfl (Nat.le_of_ble_eq_true rfl) dX3_isWhole_3 ⟨Nat.le_of_ble_eq_true rfl, Nat.le_of_ble_eq_true rfl⟩ (fun r35396 u H locs hr35396 hP hD hS => ?_)
  refine wk_imul (f := 131098) hx hb dX3_isWhole_6 (by decide : Rg 0 2 (2 : Int32)) hr35396.1 (by decide) (fun r35397 hr35397 er35397 qr35397 => ?_)
  refine lv_iload_n hx hb dX3_isWhole_7 rfl (lv_at hl 1 rfl) ?_
  refine lz_ss (As := [.int x0]) (rest := [.int r35397]) ⟨hx, hb, hml, hown, hts⟩ (k_J6_bitCount_0f7a4 l D cI cS x0) hKK (hP.sub (ws' := []) [] rfl) (va_cwS 1 hts gX3_isWhole_J6_bitCount_0f7a4 rfl rfl rfl (by decide +kernel) ⟨Nat.le_of_ble_eq_true rfl, Nat.le_of_ble_eq_true rfl⟩) rfl hl.1 rfl (Nat.le_of_ble_eq_true rfl) dX3_isWhole_8 ⟨Nat.le_of_ble_eq_true rfl, Nat.le_of_ble_eq_true rfl⟩ (fun r35398 hr35398 => ?_)
  refine lv_icmp_ne (tgt := 18) hx hb dX3_isWhole_11 (by decide) (fun c35399 => ?_) (fun c35399 => ?_)
  · refine lv_iconst (v := 0) hx hb dX3_isWhole_18 (by decide) ?_
    subst hAe
    exact W.zret (v := 0) hx hb hr (by decide) (fun t ht hW => ⟨⟨_, u, rfl, ⟨(by decide : Rg 0 1 (0 : Int32)), trivial⟩, by rw [ht]; exact hP, hD⟩, hS.F ht⟩) hS.2.2 dX3_isWhole_19
  · have g35400 : Rg 0 131098 r35398 := wk_eqr hr35397 hr35398.1 c35399 (by decide)
    refine lv_iconst (v := 1) hx hb dX3_isWhole_14 (by decide) ?_
    refine lv_goto (tgt := 19) hx hb dX3_isWhole_15 (by decide) ?_
    subst hAe
    exact W.zret (v := 1) hx hb hr (by decide) (fun t ht hW => ⟨⟨_, u, rfl, ⟨(by decide : Rg 0 1 (1 : Int32)), trivial⟩, by rw [ht]; exact hP, hD⟩, hS.F ht⟩) hS.2.2 dX3_isWhole_19
theorem dX3_loosePoints_27 : decode cX3_loosePoints 27 = .ok (.aload_n 0, 1) := by decide +kernel
theorem dX3_loosePoints_28 : decode cX3_loosePoints 28 = .ok (.aload_n 0, 1) := by decide +kernel
theorem dX3_loosePoints_29 : decode cX3_loosePoints 29 = .ok (.getfield 23, 3) := by decide +kernel
theorem dX3_loosePoints_32 : decode cX3_loosePoints 32 = .ok (.invokevirtual 77, 3) := by decide +kernel
theorem dX3_loosePoints_35 : decode cX3_loosePoints 35 = .ok (.iconst 1, 1) := by decide +kernel
theorem dX3_loosePoints_36 : decode cX3_loosePoints 36 = .ok (.iload_n 3, 1) := by decide +kernel
theorem dX3_loosePoints_37 : decode cX3_loosePoints 37 = .ok (.ishl, 1) := by decide +kernel
theorem dX3_loosePoints_38 : decode cX3_loosePoints 38 = .ok (.iconst (-1), 1) := by decide +kernel
theorem dX3_loosePoints_39 : decode cX3_loosePoints 39 = .ok (.ixor, 1) := by decide +kernel
theorem dX3_loosePoints_40 : decode cX3_loosePoints 40 = .ok (.iand, 1) := by decide +kernel
theorem dX3_loosePoints_41 : decode cX3_loosePoints 41 = .ok (.invokevirtual 52, 3) := by decide +kernel
theorem dX3_loosePoints_44 : decode cX3_loosePoints 44 = .ok (.iload_n 1, 1) := by decide +kernel
theorem dX3_loosePoints_45 : decode cX3_loosePoints 45 = .ok (.if_icmp .ne 9, 3) := by decide +kernel
theorem dX3_loosePoints_48 : decode cX3_loosePoints 48 = .ok (.iload_n 2, 1) := by decide +kernel
theorem dX3_loosePoints_49 : decode cX3_loosePoints 49 = .ok (.iconst 1, 1) := by decide +kernel
theorem dX3_loosePoints_50 : decode cX3_loosePoints 50 = .ok (.iload_n 3, 1) := by decide +kernel
theorem dX3_loosePoints_51 : decode cX3_loosePoints 51 = .ok (.ishl, 1) := by decide +kernel
theorem dX3_loosePoints_52 : decode cX3_loosePoints 52 = .ok (.ior, 1) := by decide +kernel
theorem dX3_loosePoints_53 : decode cX3_loosePoints 53 = .ok (.istore_n 2, 1) := by decide +kernel
theorem dX3_loosePoints_54 : decode cX3_loosePoints 54 = .ok (.iinc 3 1, 3) := by decide +kernel
theorem dX3_loosePoints_57 : decode cX3_loosePoints 57 = .ok (.goto (-41), 3) := by decide +kernel
set_option maxHeartbeats 4000000 in
set_option maxRecDepth 100000 in
theorem k_X3_loosePoints (l : Launch) (D : va_G) (cI cS : ClassId) (sz : Nat) (a : Nat → Nat) (na nc N : Nat) (L u0 : SU) (hL : TyX L) (hN : N = 0 ∨ N = 24576) : Met l yX3_loosePoints wsX3_loosePoints ({ frames := 16, cells := 0, slots := 0, locals := 640 }) (PQ D cI cS (wX cI cS a na nc N L u0) sz [.ref (a 7)]) (QF (S := SU) D (wX cI cS a na nc N L u0) (wX cI cS a na nc N L) sz (fun r _ => Rg 0 4095 r ∧ True)) 0 0 (va_A (wX cI cS a na nc N L u0) sz) := by
  refine Met.ofW (cc := cX3_loosePoints) (maxL := 4) (ret := (some .int)) (by decide) rfl ?_
  intro p e s m args below meth c s₁ B hml hv
  obtain ⟨rfl, hsz, hP, hKK, hD0⟩ := hv
  have hx := B.exec
  have hb := B.bytes
  have hr := B.returns
  have hts := atoms_spec (ws := wsX3_loosePoints) B.pre
  have hown : s.vm.findClass RX3 = some m.cls := findClass_of_methodNamed B.named
  have hlocks := B.notSynchronized
  have hK := hKK.1
  have hin2 : ∀ w ∈ wsX20, w ∈ wsX3_loosePoints := by decide +kernel
  have hin3 : ∀ w ∈ wsX30, w ∈ wsX3_loosePoints := by decide +kernel
  subst hsz
  have hD := hD0.self (sz := s.heap.size)
  obtain ⟨A, hAe⟩ : ∃ A, A = va_A (wX cI cS a na nc N L u0) s.heap.size := ⟨_, rfl⟩
  rw [← hAe] at hD
  have hA : ∀ q : Nat, s.heap.size ≤ q → A q := fun q h => by rw [hAe]; exact Or.inr h
  have hS : va_S A s.heap s.heap [] := va_S.rf
  have hl := lv_entry ([.ref (a 7)]) (n := 4) (Nat.le_of_ble_eq_true rfl)
  rw [lg_entry_eq]
  generalize (lg_sl ([.ref (a 7)]) ++ List.replicate (4 - (lg_sl ([.ref (a 7)])).length) Slot.unset).toArray = ls at hl ⊢
  have hl : lv_has ls 4 [(0, .ref (a 7))] := hl
  obtain ⟨u, hu9⟩ : ∃ u : SU, u = u0 := ⟨_, rfl⟩
  rw [← hu9] at hP hD
  have lp16 : ∀ (n16 : Nat) (y16_l1 : Int32) (y16_l2 : Int32) (y16_l3 : Int32) (u : SU) (H : Heap) (locs : List Loc) (ls : Array Slot), Rg 0 65549 y16_l1 → Rg 0 4095 y16_l2 → Rg 0 12 y16_l3 → va_P D cls (wX cI cS a na nc N L u) H → va_D A (wX cI cS a na nc N L u) → va_S A s.heap H locs → lv_has ls 4 [(0, .ref (a 7)), (1, .int y16_l1), (2, .int y16_l2), (3, .int y16_l3)] → 12 - y16_l3.toInt < (n16 : Int) → W p l e (headSpec wsX3_loosePoints ({ frames := 16, cells := 0, slots := 0, locals := 640 })).room s m ([.ref (a 7)]).toArray below meth c H locs 0 0 (MQ below (QF (S := SU) D (wX cI cS a na nc N L u0) (wX cI cS a na nc N L) s.heap.size (fun r _ => Rg 0 4095 r ∧ True)) ([.ref (a 7)]).toArray s 0 0 (va_A (wX cI cS a na nc N L u0) s.heap.size)) (F0 m 16 ls []) := by
    intro n16
    induction n16 with
    | zero =>
      intro y16_l1 y16_l2 y16_l3 u H locs ls g16_l1 g16_l2 g16_l3 hP hD hS hl hm16
      exact absurd rfl (me_z g16_l3 hm16)
    | succ n16 ih16 =>
      intro y16_l1 y16_l2 y16_l3 u H locs ls g16_l1 g16_l2 g16_l3 hP hD hS hl hm16
      refine lv_iload_n hx hb dX3_loosePoints_16 rfl (lv_at hl 3 rfl) ?_
      refine lv_aload_n hx hb dX3_loosePoints_17 rfl (lv_at hl 0 rfl) ?_
      refine va_get (D := D) (ci := 3) (v := .ref (a 1)) (C := RX3) (T := TX3) (N := 4) hx hb hts hin3 hown hK hP 7 rfl rfl 0 (by decide) (hts (.fieldLink RX3 23 "MissedPoints$Pairs" "net" "LMissedPoints$Net;") (by decide +kernel)) (fun _ h9 => h9) rfl dX3_loosePoints_18 ?_
      refine va_getN (D := D) (ci := 2) (v := .int (L 1 1)) (C := RX2) (T := TX2) (N := 3) hx hb hts hin2 hown hK hP 1 rfl rfl 1 (by decide) (va_Nw.use rfl hKK.2.2.2.2.2.2.2.2.2.2.2.2.2.1) (fun _ h9 => h9) rfl dX3_loosePoints_21 ?_
      refine lv_icmp_ge (tgt := 60) hx hb dX3_loosePoints_24 (by decide) (fun c35531 => ?_) (fun c35531 => ?_)
      · refine lv_iload_n hx hb dX3_loosePoints_60 rfl (lv_at hl 2 rfl) ?_
        subst hAe
        exact W.iret (v := y16_l2) hx hb hr (fun t ht hW => ⟨⟨_, u, rfl, ⟨g16_l2, trivial⟩, by rw [ht]; exact hP, hD⟩, hS.F ht⟩) hS.2.2 dX3_loosePoints_61
      · have g35532 : Rg 1 12 (L 1 1) := rg_ltr g16_l3 hL.1 (rg_nle c35531) (by decide)
        have g35533 : Rg 0 11 y16_l3 := rg_ltl g16_l3 hL.1 (rg_nle c35531) (by decide)
        refine lv_aload_n hx hb dX3_loosePoints_27 rfl (lv_at hl 0 rfl) ?_
        refine lv_aload_n hx hb dX3_loosePoints_28 rfl (lv_at hl 0 rfl) ?_
        refine va_get (D := D) (ci := 3) (v := .ref (a 1)) (C := RX3) (T := TX3) (N := 4) hx hb hts hin3 hown hK hP 7 rfl rfl 0 (by decide) (hts (.fieldLink RX3 23 "MissedPoints$Pairs" "net" "LMissedPoints$Net;") (by decide +kernel)) (fun _ h9 => h9) rfl dX3_loosePoints_29 ?_
        refine wk_sv 1 (As := []) (rest := [.ref (a 7)]) ⟨hx, hb, hml, hown, hts⟩ (k_X2_all l D cI cS a na nc N L u hL hN) hKK hP (ci := 2) rfl rfl (cwV 0 hts gX3_loosePoints_X2_all rfl rfl rfl (by decide +kernel) ⟨Nat.le_of_ble_eq_true rfl, Nat.le_of_ble_eq_true rfl⟩) rfl hl.1 rfl (Nat.le_of_ble_eq_true rfl) dX3_loosePoints_32 ⟨Nat.le_of_ble_eq_true rfl, Nat.le_of_ble_eq_true rfl⟩ (fun r35534 hr35534 => ?_)
        refine lv_iconst (v := 1) hx hb dX3_loosePoints_35 (by decide) ?_
        refine lv_iload_n hx hb dX3_loosePoints_36 rfl (lv_at hl 3 rfl) ?_
        refine wk_ishl1 (f := 2048) hx hb dX3_loosePoints_37 g35533 (by decide) (fun r35535 hr35535 qr35535 => ?_)
        refine lv_iconst (v := (-1)) hx hb dX3_loosePoints_38 (by decide) ?_
        refine lv_ixor hx hb dX3_loosePoints_39 ?_
        refine wk_topP (P := fun r => r = r35535 ^^^ ((-1) : Int32)) rfl (fun r35536 qr35536 => ?_)
        refine wk_iandl hx hb dX3_loosePoints_40 hr35534.1 (by decide) (fun r35537 hr35537 qr35537 => ?_)
        refine wk_qi (wX cI cS a na nc N L) u (As := [.int r35537]) (rest := []) ⟨hx, hb, hml, hown, hts⟩ (k_X3_best l D cI cS _ a na nc N L u hL hN r35537) hKK hP hD hS hA 7 (ci := 3) rfl rfl (cwV 1 hts gX3_loosePoints_X3_best rfl rfl rfl (by decide +kernel) ⟨Nat.le_of_ble_eq_true rfl, Nat.le_of_ble_eq_true rfl⟩) rfl hl.1 rfl (Nat.le_of_ble_eq_true rfl) dX3_loosePoints_41 ⟨Nat.le_of_ble_eq_true rfl, Nat.le_of_ble_eq_true rfl⟩ (fun r35538 u H locs hr35538 hP hD hS => ?_)
        refine lv_iload_n hx hb dX3_loosePoints_44 rfl (lv_at hl 1 rfl) ?_
        refine lv_icmp_ne (tgt := 54) hx hb dX3_loosePoints_45 (by decide) (fun c35539 => ?_) (fun c35539 => ?_)
        · refine wk_iinc (lv' := fun r => [(3, .int r), (0, .ref (a 7)), (1, .int y16_l1), (2, .int y16_l2)]) (e1 := 1) (f := 12) hx hb dX3_loosePoints_54 hl (k := 3) rfl (by decide) g35533 (by decide) (fun _ => rfl) (fun r35540 ls hr35540 er35540 hl => ?_)
          refine lv_goto (tgt := 16) hx hb dX3_loosePoints_57 (by decide) ?_
          exact ih16 y16_l1 y16_l2 r35540 u _ _ ls g16_l1 g16_l2 (show Rg 0 12 r35540 from rg_w hr35540 (by decide) (by decide)) hP hD hS (lv_sub (l' := [(0, .ref (a 7)), (1, .int y16_l1), (2, .int y16_l2), (3, .int r35540)]) hl [1, 2, 3, 0] rfl) (me_up hm16 er35540 (by decide))
        · refine lv_iload_n hx hb dX3_loosePoints_48 rfl (lv_at hl 2 rfl) ?_
          refine lv_iconst (v := 1) hx hb dX3_loosePoints_49 (by decide) ?_
          refine lv_iload_n hx hb dX3_loosePoints_50 rfl (lv_at hl 3 rfl) ?_
          refine wk_ishl1 (f := 2048) hx hb dX3_loosePoints_51 g35533 (by decide) (fun r35541 hr35541 qr35541 => ?_)
          refine wk_ior 12 (e1 := 1) (f := 4095) hx hb dX3_loosePoints_52 g16_l2 hr35541 (by decide) (fun r35542 hr35542 qr35542 => ?_)
          refine lv_istore_n (lv' := [(2, .int r35542), (0, .ref (a 7)), (1, .int y16_l1), (3, .int y16_l3)]) hx hb dX3_loosePoints_53 rfl hl (by decide) rfl (fun ls hl => ?_)
          refine wk_iinc (lv' := fun r => [(3, .int r), (2, .int r35542), (0, .ref (a 7)), (1, .int y16_l1)]) (e1 := 1) (f := 12) hx hb dX3_loosePoints_54 hl (k := 3) rfl (by decide) g35533 (by decide) (fun _ => rfl) (fun r35543 ls hr35543 er35543 hl => ?_)
          refine lv_goto (tgt := 16) hx hb dX3_loosePoints_57 (by decide) ?_
          exact ih16 y16_l1 r35542 r35543 u _ _ ls g16_l1 (show Rg 0 4095 r35542 from rg_w hr35542 (by decide) (by decide)) (show Rg 0 12 r35543 from rg_w hr35543 (by decide) (by decide)) hP hD hS (lv_sub (l' := [(0, .ref (a 7)), (1, .int y16_l1), (2, .int r35542), (3, .int r35543)]) hl [2, 3, 1, 0] rfl) (me_up hm16 er35543 (by decide))
  refine lv_aload_n hx hb dX3_loosePoints_0 rfl (lv_at hl 0 rfl) ?_
  refine lv_aload_n hx hb dX3_loosePoints_1 rfl (lv_at hl 0 rfl) ?_
  refine va_get (D := D) (ci := 3) (v := .ref (a 1)) (C := RX3) (T := TX3) (N := 4) hx hb hts hin3 hown hK hP 7 rfl rfl 0 (by decide) (hts (.fieldLink RX3 23 "MissedPoints$Pairs" "net" "LMissedPoints$Net;") (by decide +kernel)) (fun _ h9 => h9) rfl dX3_loosePoints_2 ?_
  refine wk_sv 1 (As := []) (rest := [.ref (a 7)]) ⟨hx, hb, hml, hown, hts⟩ (k_X2_all l D cI cS a na nc N L u hL hN) hKK hP (ci := 2) rfl rfl (cwV 0 hts gX3_loosePoints_X2_all rfl rfl rfl (by decide +kernel) ⟨Nat.le_of_ble_eq_true rfl, Nat.le_of_ble_eq_true rfl⟩) rfl hl.1 rfl (Nat.le_of_ble_eq_true rfl) dX3_loosePoints_5 ⟨Nat.le_of_ble_eq_true rfl, Nat.le_of_ble_eq_true rfl⟩ (fun r35544 hr35544 => ?_)
  refine wk_qi (wX cI cS a na nc N L) u (As := [.int r35544]) (rest := []) ⟨hx, hb, hml, hown, hts⟩ (k_X3_best l D cI cS _ a na nc N L u hL hN r35544) hKK hP hD hS hA 7 (ci := 3) rfl rfl (cwV 1 hts gX3_loosePoints_X3_best rfl rfl rfl (by decide +kernel) ⟨Nat.le_of_ble_eq_true rfl, Nat.le_of_ble_eq_true rfl⟩) rfl hl.1 rfl (Nat.le_of_ble_eq_true rfl) dX3_loosePoints_8 ⟨Nat.le_of_ble_eq_true rfl, Nat.le_of_ble_eq_true rfl⟩ (fun r35545 u H locs hr35545 hP hD hS => ?_)
  refine lv_istore_n (lv' := [(1, .int r35545), (0, .ref (a 7))]) hx hb dX3_loosePoints_11 rfl hl (by decide) rfl (fun ls hl => ?_)
  refine lv_iconst (v := 0) hx hb dX3_loosePoints_12 (by decide) ?_
  refine lv_istore_n (lv' := [(2, .int 0), (1, .int r35545), (0, .ref (a 7))]) hx hb dX3_loosePoints_13 rfl hl (by decide) rfl (fun ls hl => ?_)
  refine lv_iconst (v := 0) hx hb dX3_loosePoints_14 (by decide) ?_
  refine lv_istore_n (lv' := [(3, .int 0), (2, .int 0), (1, .int r35545), (0, .ref (a 7))]) hx hb dX3_loosePoints_15 rfl hl (by decide) rfl (fun ls hl => ?_)
  exact lp16 13 r35545 (0 : Int32) (0 : Int32) u _ _ ls hr35545.1 (by decide : Rg 0 4095 (0 : Int32)) (by decide : Rg 0 12 (0 : Int32)) hP hD hS (lv_sub (l' := [(0, .ref (a 7)), (1, .int r35545), (2, .int 0), (3, .int 0)]) hl [3, 2, 1, 0] rfl) (me_i (by decide : Rg 0 12 (0 : Int32)) (by decide))
set_option maxRecDepth 20000 in
theorem ggX3_isMend_X2_all : GoodIn wsX3_isMend wsX2_all := goodIn_r _ [20, 16, 68, 69, 70] (by decide +kernel) (by decide +kernel)
set_option maxRecDepth 20000 in
theorem gX3_isMend_X2_all : GoodIn wsX3_isMend (wsV RX3 77 RX2 yX2_all wsX2_all) := goodIn_app (goodIn_of _ (by decide +kernel)) ggX3_isMend_X2_all
set_option maxRecDepth 20000 in
theorem ggX3_isMend_X2_joined : GoodIn wsX3_isMend wsX2_joined := goodIn_r _ [6, 7, 8, 9, 10, 5, 11, 12, 13, 14, 15, 16, 68, 69, 70] (by decide +kernel) (by decide +kernel)
set_option maxRecDepth 20000 in
theorem gX3_isMend_X2_joined : GoodIn wsX3_isMend (wsV RX3 84 RX2 yX2_joined wsX2_joined) := goodIn_app (goodIn_of _ (by decide +kernel)) ggX3_isMend_X2_joined
set_option maxRecDepth 20000 in
theorem ggX3_isMend_X3_best : GoodIn wsX3_isMend wsX3_best := goodIn_r _ [25, 26, 27, 28, 24, 29, 30, 1, 31, 32, 33, 34, 35, 36, 37, 38, 39, 40, 41, 42, 43, 44, 45, 46, 47, 48, 49, 50, 51, 52, 53, 54, 55, 56, 57, 58, 59, 60, 61, 62, 63, 64, 65, 66, 67, 68, 69, 70, 71, 72] (by decide +kernel) (by decide +kernel)
set_option maxRecDepth 20000 in
theorem gX3_isMend_X3_best : GoodIn wsX3_isMend (wsV RX3 52 RX3 yX3_best wsX3_best) := goodIn_app (goodIn_of _ (by decide +kernel)) ggX3_isMend_X3_best
theorem dX3_isMend_0 : decode cX3_isMend 0 = .ok (.aload_n 0, 1) := by decide +kernel
theorem dX3_isMend_1 : decode cX3_isMend 1 = .ok (.getfield 23, 3) := by decide +kernel
theorem dX3_isMend_12 : decode cX3_isMend 12 = .ok (.aload_n 0, 1) := by decide +kernel
theorem dX3_isMend_13 : decode cX3_isMend 13 = .ok (.aload_n 0, 1) := by decide +kernel
theorem dX3_isMend_14 : decode cX3_isMend 14 = .ok (.getfield 23, 3) := by decide +kernel
theorem dX3_isMend_17 : decode cX3_isMend 17 = .ok (.invokevirtual 77, 3) := by decide +kernel
theorem dX3_isMend_20 : decode cX3_isMend 20 = .ok (.iconst 1, 1) := by decide +kernel
theorem dX3_isMend_21 : decode cX3_isMend 21 = .ok (.iload_n 1, 1) := by decide +kernel
theorem dX3_isMend_22 : decode cX3_isMend 22 = .ok (.ishl, 1) := by decide +kernel
theorem dX3_isMend_23 : decode cX3_isMend 23 = .ok (.iconst 1, 1) := by decide +kernel
theorem dX3_isMend_24 : decode cX3_isMend 24 = .ok (.iload_n 2, 1) := by decide +kernel
theorem dX3_isMend_25 : decode cX3_isMend 25 = .ok (.ishl, 1) := by decide +kernel
theorem dX3_isMend_26 : decode cX3_isMend 26 = .ok (.ior, 1) := by decide +kernel
theorem dX3_isMend_27 : decode cX3_isMend 27 = .ok (.iconst (-1), 1) := by decide +kernel
theorem dX3_isMend_28 : decode cX3_isMend 28 = .ok (.ixor, 1) := by decide +kernel
theorem dX3_isMend_29 : decode cX3_isMend 29 = .ok (.iand, 1) := by decide +kernel
theorem dX3_isMend_30 : decode cX3_isMend 30 = .ok (.invokevirtual 52, 3) := by decide +kernel
theorem dX3_isMend_33 : decode cX3_isMend 33 = .ok (.aload_n 0, 1) := by decide +kernel
theorem dX3_isMend_34 : decode cX3_isMend 34 = .ok (.aload_n 0, 1) := by decide +kernel
theorem dX3_isMend_35 : decode cX3_isMend 35 = .ok (.getfield 23, 3) := by decide +kernel
theorem dX3_isMend_38 : decode cX3_isMend 38 = .ok (.invokevirtual 77, 3) := by decide +kernel
theorem dX3_isMend_4 : decode cX3_isMend 4 = .ok (.iload_n 1, 1) := by decide +kernel
theorem dX3_isMend_41 : decode cX3_isMend 41 = .ok (.invokevirtual 52, 3) := by decide +kernel
theorem dX3_isMend_44 : decode cX3_isMend 44 = .ok (.if_icmp .ne 7, 3) := by decide +kernel
theorem dX3_isMend_47 : decode cX3_isMend 47 = .ok (.iconst 1, 1) := by decide +kernel
theorem dX3_isMend_48 : decode cX3_isMend 48 = .ok (.goto 4, 3) := by decide +kernel
theorem dX3_isMend_5 : decode cX3_isMend 5 = .ok (.iload_n 2, 1) := by decide +kernel
theorem dX3_isMend_51 : decode cX3_isMend 51 = .ok (.iconst 0, 1) := by decide +kernel
theorem dX3_isMend_52 : decode cX3_isMend 52 = .ok (.ireturn, 1) := by decide +kernel
theorem dX3_isMend_6 : decode cX3_isMend 6 = .ok (.invokevirtual 84, 3) := by decide +kernel
theorem dX3_isMend_9 : decode cX3_isMend 9 = .ok (.ifCond .ne 42, 3) := by decide +kernel
set_option maxHeartbeats 4000000 in
set_option maxRecDepth 100000 in
theorem k_X3_isMend (l : Launch) (D : va_G) (cI cS : ClassId) (sz : Nat) (a : Nat → Nat) (na nc N : Nat) (L u0 : SU) (hL : TyX L) (hN : N = 0 ∨ N = 24576) (x0 x1 : Int32) : Met l yX3_isMend wsX3_isMend ({ frames := 16, cells := 0, slots := 0, locals := 640 }) (PQ D cI cS (wX cI cS a na nc N L u0) sz [.ref (a 7), .int x0, .int x1]) (QF (S := SU) D (wX cI cS a na nc N L u0) (wX cI cS a na nc N L) sz (fun r _ => Rg 0 1 r ∧ True)) 0 0 (va_A (wX cI cS a na nc N L u0) sz) := by
  refine Met.ofW (cc := cX3_isMend) (maxL := 3) (ret := (some .boolean)) (by decide) rfl ?_
  intro p e s m args below meth c s₁ B hml hv
  obtain ⟨rfl, hsz, hP, hKK, hD0⟩ := hv
  have hx := B.exec
  have hb := B.bytes
  have hr := B.returns
  have hts := atoms_spec (ws := wsX3_isMend) B.pre
  have hown : s.vm.findClass RX3 = some m.cls := findClass_of_methodNamed B.named
  have hlocks := B.notSynchronized
  have hK := hKK.1
  have hin3 : ∀ w ∈ wsX30, w ∈ wsX3_isMend := by decide +kernel
  subst hsz
  have hD := hD0.self (sz := s.heap.size)
  obtain ⟨A, hAe⟩ : ∃ A, A = va_A (wX cI cS a na nc N L u0) s.heap.size := ⟨_, rfl⟩
  rw [← hAe] at hD
  have hA : ∀ q : Nat, s.heap.size ≤ q → A q := fun q h => by rw [hAe]; exact Or.inr h
  have hS : va_S A s.heap s.heap [] := va_S.rf
  have hl := lv_entry ([.ref (a 7), .int x0, .int x1]) (n := 3) (Nat.le_of_ble_eq_true rfl)
  rw [lg_entry_eq]
  generalize (lg_sl ([.ref (a 7), .int x0, .int x1]) ++ List.replicate (3 - (lg_sl ([.ref (a 7), .int x0, .int x1])).length) Slot.unset).toArray = ls at hl ⊢
  have hl : lv_has ls 3 [(0, .ref (a 7)), (1, .int x0), (2, .int x1)] := hl
  obtain ⟨u, hu9⟩ : ∃ u : SU, u = u0 := ⟨_, rfl⟩
  rw [← hu9] at hP hD
  refine lv_aload_n hx hb dX3_isMend_0 rfl (lv_at hl 0 rfl) ?_
  refine va_get (D := D) (ci := 3) (v := .ref (a 1)) (C := RX3) (T := TX3) (N := 4) hx hb hts hin3 hown hK hP 7 rfl rfl 0 (by decide) (hts (.fieldLink RX3 23 "MissedPoints$Pairs" "net" "LMissedPoints$Net;") (by decide +kernel)) (fun _ h9 => h9) rfl dX3_isMend_1 ?_
  refine lv_iload_n hx hb dX3_isMend_4 rfl (lv_at hl 1 rfl) ?_
  refine lv_iload_n hx hb dX3_isMend_5 rfl (lv_at hl 2 rfl) ?_
  refine wk_sv 1 (As := [.int x0, .int x1]) (rest := []) ⟨hx, hb, hml, hown, hts⟩ (k_X2_joined l D cI cS a na nc N L u hL hN x0 x1) hKK hP (ci := 2) rfl rfl (cwV 2 hts gX3_isMend_X2_joined rfl rfl rfl (by decide +kernel) ⟨Nat.le_of_ble_eq_true rfl, Nat.le_of_ble_eq_true rfl⟩) rfl hl.1 rfl (Nat.le_of_ble_eq_true rfl) dX3_isMend_6 ⟨Nat.le_of_ble_eq_true rfl, Nat.le_of_ble_eq_true rfl⟩ (fun r35562 hr35562 => ?_)
  refine lv_if_ne (tgt := 51) hx hb dX3_isMend_9 (by decide) (fun c35563 => ?_) (fun c35563 => ?_)
  · have g35564 : Rg 0 11 x0 := (hr35562.2 c35563).1
    have g35565 : Rg 0 11 x1 := (hr35562.2 c35563).2
    have g35566 : Rg 1 1 r35562 := rg_ne_lo (k := 0) hr35562.1 (by decide) c35563 (by decide)
    refine lv_iconst (v := 0) hx hb dX3_isMend_51 (by decide) ?_
    subst hAe
    exact W.zret (v := 0) hx hb hr (by decide) (fun t ht hW => ⟨⟨_, u, rfl, ⟨(by decide : Rg 0 1 (0 : Int32)), trivial⟩, by rw [ht]; exact hP, hD⟩, hS.F ht⟩) hS.2.2 dX3_isMend_52
  · have g35567 : Rg 0 0 r35562 := wk_eql hr35562.1 (by decide : Rg 0 0 (0 : Int32)) c35563 (by decide)
    refine lv_aload_n hx hb dX3_isMend_12 rfl (lv_at hl 0 rfl) ?_
    refine lv_aload_n hx hb dX3_isMend_13 rfl (lv_at hl 0 rfl) ?_
    refine va_get (D := D) (ci := 3) (v := .ref (a 1)) (C := RX3) (T := TX3) (N := 4) hx hb hts hin3 hown hK hP 7 rfl rfl 0 (by decide) (hts (.fieldLink RX3 23 "MissedPoints$Pairs" "net" "LMissedPoints$Net;") (by decide +kernel)) (fun _ h9 => h9) rfl dX3_isMend_14 ?_
    refine wk_sv 1 (As := []) (rest := [.ref (a 7)]) ⟨hx, hb, hml, hown, hts⟩ (k_X2_all l D cI cS a na nc N L u hL hN) hKK hP (ci := 2) rfl rfl (cwV 0 hts gX3_isMend_X2_all rfl rfl rfl (by decide +kernel) ⟨Nat.le_of_ble_eq_true rfl, Nat.le_of_ble_eq_true rfl⟩) rfl hl.1 rfl (Nat.le_of_ble_eq_true rfl) dX3_isMend_17 ⟨Nat.le_of_ble_eq_true rfl, Nat.le_of_ble_eq_true rfl⟩ (fun r35568 hr35568 => ?_)
    refine lv_iconst (v := 1) hx hb dX3_isMend_20 (by decide) ?_
    refine lv_iload_n hx hb dX3_isMend_21 rfl (lv_at hl 1 rfl) ?_
    refine lv_ishl hx hb dX3_isMend_22 ?_
    refine wk_topP (P := fun r => r = (1 : Int32) <<< (x0 &&& 31)) rfl (fun r35569 qr35569 => ?_)
    refine lv_iconst (v := 1) hx hb dX3_isMend_23 (by decide) ?_
    refine lv_iload_n hx hb dX3_isMend_24 rfl (lv_at hl 2 rfl) ?_
    refine lv_ishl hx hb dX3_isMend_25 ?_
    refine wk_topP (P := fun r => r = (1 : Int32) <<< (x1 &&& 31)) rfl (fun r35570 qr35570 => ?_)
    refine lv_ior hx hb dX3_isMend_26 ?_
    refine wk_topP (P := fun r => r = r35569 ||| r35570) rfl (fun r35571 qr35571 => ?_)
    refine lv_iconst (v := (-1)) hx hb dX3_isMend_27 (by decide) ?_
    refine lv_ixor hx hb dX3_isMend_28 ?_
    refine wk_topP (P := fun r => r = r35571 ^^^ ((-1) : Int32)) rfl (fun r35572 qr35572 => ?_)
    refine wk_iandl hx hb dX3_isMend_29 hr35568.1 (by decide) (fun r35573 hr35573 qr35573 => ?_)
    refine wk_qi (wX cI cS a na nc N L) u (As := [.int r35573]) (rest := []) ⟨hx, hb, hml, hown, hts⟩ (k_X3_best l D cI cS _ a na nc N L u hL hN r35573) hKK hP hD hS hA 7 (ci := 3) rfl rfl (cwV 1 hts gX3_isMend_X3_best rfl rfl rfl (by decide +kernel) ⟨Nat.le_of_ble_eq_true rfl, Nat.le_of_ble_eq_true rfl⟩) rfl hl.1 rfl (Nat.le_of_ble_eq_true rfl) dX3_isMend_30 ⟨Nat.le_of_ble_eq_true rfl, Nat.le_of_ble_eq_true rfl⟩ (fun r35574 u H locs hr35574 hP hD hS => ?_)
    refine lv_aload_n hx hb dX3_isMend_33 rfl (lv_at hl 0 rfl) ?_
    refine lv_aload_n hx hb dX3_isMend_34 rfl (lv_at hl 0 rfl) ?_
    refine va_get (D := D) (ci := 3) (v := .ref (a 1)) (C := RX3) (T := TX3) (N := 4) hx hb hts hin3 hown hK hP 7 rfl rfl 0 (by decide) (hts (.fieldLink RX3 23 "MissedPoints$Pairs" "net" "LMissedPoints$Net;") (by decide +kernel)) (fun _ h9 => h9) rfl dX3_isMend_35 ?_
    refine wk_sv 1 (As := []) (rest := [.ref (a 7), .int r35574]) ⟨hx, hb, hml, hown, hts⟩ (k_X2_all l D cI cS a na nc N L u hL hN) hKK hP (ci := 2) rfl rfl (cwV 0 hts gX3_isMend_X2_all rfl rfl rfl (by decide +kernel) ⟨Nat.le_of_ble_eq_true rfl, Nat.le_of_ble_eq_true rfl⟩) rfl hl.1 rfl (Nat.le_of_ble_eq_true rfl) dX3_isMend_38 ⟨Nat.le_of_ble_eq_true rfl, Nat.le_of_ble_eq_true rfl⟩ (fun r35575 hr35575 => ?_)
    refine wk_qi (wX cI cS a na nc N L) u (As := [.int r35575]) (rest := [.int r35574]) ⟨hx, hb, hml, hown, hts⟩ (k_X3_best l D cI cS _ a na nc N L u hL hN r35575) hKK hP hD hS hA 7 (ci := 3) rfl rfl (cwV 1 hts gX3_isMend_X3_best rfl rfl rfl (by decide +kernel) ⟨Nat.le_of_ble_eq_true rfl, Nat.le_of_ble_eq_true rfl⟩) rfl hl.1 rfl (Nat.le_of_ble_eq_true rfl) dX3_isMend_41 ⟨Nat.le_of_ble_eq_true rfl, Nat.le_of_ble_eq_true rfl⟩ (fun r35576 u H locs hr35576 hP hD hS => ?_)
    refine lv_icmp_ne (tgt := 51) hx hb dX3_isMend_44 (by decide) (fun c35577 => ?_) (fun c35577 => ?_)
    · refine lv_iconst (v := 0) hx hb dX3_isMend_51 (by decide) ?_
      subst hAe
      exact W.zret (v := 0) hx hb hr (by decide) (fun t ht hW => ⟨⟨_, u, rfl, ⟨(by decide : Rg 0 1 (0 : Int32)), trivial⟩, by rw [ht]; exact hP, hD⟩, hS.F ht⟩) hS.2.2 dX3_isMend_52
    · refine lv_iconst (v := 1) hx hb dX3_isMend_47 (by decide) ?_
      refine lv_goto (tgt := 52) hx hb dX3_isMend_48 (by decide) ?_
      subst hAe
      exact W.zret (v := 1) hx hb hr (by decide) (fun t ht hW => ⟨⟨_, u, rfl, ⟨(by decide : Rg 0 1 (1 : Int32)), trivial⟩, by rw [ht]; exact hP, hD⟩, hS.F ht⟩) hS.2.2 dX3_isMend_52
set_option maxRecDepth 20000 in
theorem ggX3_allowedMates_X2_all : GoodIn wsX3_allowedMates wsX2_all := goodIn_r _ [16, 12, 64, 65, 66] (by decide +kernel) (by decide +kernel)
set_option maxRecDepth 20000 in
theorem gX3_allowedMates_X2_all : GoodIn wsX3_allowedMates (wsV RX3 77 RX2 yX2_all wsX2_all) := goodIn_app (goodIn_of _ (by decide +kernel)) ggX3_allowedMates_X2_all
set_option maxRecDepth 20000 in
theorem ggX3_allowedMates_X2_near : GoodIn wsX3_allowedMates wsX2_near := goodIn_r _ [6, 7, 8, 9, 10, 5, 11, 12, 64, 65, 66] (by decide +kernel) (by decide +kernel)
set_option maxRecDepth 20000 in
theorem gX3_allowedMates_X2_near : GoodIn wsX3_allowedMates (wsV RX3 91 RX2 yX2_near wsX2_near) := goodIn_app (goodIn_of _ (by decide +kernel)) ggX3_allowedMates_X2_near
set_option maxRecDepth 20000 in
theorem ggX3_allowedMates_X3_best : GoodIn wsX3_allowedMates wsX3_best := goodIn_r _ [21, 22, 23, 24, 20, 25, 26, 1, 27, 28, 29, 30, 31, 32, 33, 34, 35, 36, 37, 38, 39, 40, 41, 42, 43, 44, 45, 46, 47, 48, 49, 50, 51, 52, 53, 54, 55, 56, 57, 58, 59, 60, 61, 62, 63, 64, 65, 66, 67, 68] (by decide +kernel) (by decide +kernel)
set_option maxRecDepth 20000 in
theorem gX3_allowedMates_X3_best : GoodIn wsX3_allowedMates (wsV RX3 52 RX3 yX3_best wsX3_best) := goodIn_app (goodIn_of _ (by decide +kernel)) ggX3_allowedMates_X3_best
theorem dX3_allowedMates_0 : decode cX3_allowedMates 0 = .ok (.aload_n 0, 1) := by decide +kernel
theorem dX3_allowedMates_1 : decode cX3_allowedMates 1 = .ok (.getfield 23, 3) := by decide +kernel
theorem dX3_allowedMates_10 : decode cX3_allowedMates 10 = .ok (.getfield 23, 3) := by decide +kernel
theorem dX3_allowedMates_13 : decode cX3_allowedMates 13 = .ok (.invokevirtual 77, 3) := by decide +kernel
theorem dX3_allowedMates_16 : decode cX3_allowedMates 16 = .ok (.iconst 1, 1) := by decide +kernel
theorem dX3_allowedMates_17 : decode cX3_allowedMates 17 = .ok (.iload_n 1, 1) := by decide +kernel
theorem dX3_allowedMates_18 : decode cX3_allowedMates 18 = .ok (.ishl, 1) := by decide +kernel
theorem dX3_allowedMates_19 : decode cX3_allowedMates 19 = .ok (.iconst (-1), 1) := by decide +kernel
theorem dX3_allowedMates_20 : decode cX3_allowedMates 20 = .ok (.ixor, 1) := by decide +kernel
theorem dX3_allowedMates_21 : decode cX3_allowedMates 21 = .ok (.iand, 1) := by decide +kernel
theorem dX3_allowedMates_22 : decode cX3_allowedMates 22 = .ok (.istore_n 3, 1) := by decide +kernel
theorem dX3_allowedMates_23 : decode cX3_allowedMates 23 = .ok (.aload_n 0, 1) := by decide +kernel
theorem dX3_allowedMates_24 : decode cX3_allowedMates 24 = .ok (.aload_n 0, 1) := by decide +kernel
theorem dX3_allowedMates_25 : decode cX3_allowedMates 25 = .ok (.getfield 23, 3) := by decide +kernel
theorem dX3_allowedMates_28 : decode cX3_allowedMates 28 = .ok (.invokevirtual 77, 3) := by decide +kernel
theorem dX3_allowedMates_31 : decode cX3_allowedMates 31 = .ok (.invokevirtual 52, 3) := by decide +kernel
theorem dX3_allowedMates_34 : decode cX3_allowedMates 34 = .ok (.iconst 1, 1) := by decide +kernel
theorem dX3_allowedMates_35 : decode cX3_allowedMates 35 = .ok (.isub, 1) := by decide +kernel
theorem dX3_allowedMates_36 : decode cX3_allowedMates 36 = .ok (.istore 4, 2) := by decide +kernel
theorem dX3_allowedMates_38 : decode cX3_allowedMates 38 = .ok (.iconst 0, 1) := by decide +kernel
theorem dX3_allowedMates_39 : decode cX3_allowedMates 39 = .ok (.istore 5, 2) := by decide +kernel
theorem dX3_allowedMates_4 : decode cX3_allowedMates 4 = .ok (.iload_n 1, 1) := by decide +kernel
theorem dX3_allowedMates_41 : decode cX3_allowedMates 41 = .ok (.iconst 0, 1) := by decide +kernel
theorem dX3_allowedMates_42 : decode cX3_allowedMates 42 = .ok (.istore 6, 2) := by decide +kernel
theorem dX3_allowedMates_44 : decode cX3_allowedMates 44 = .ok (.iload 6, 2) := by decide +kernel
theorem dX3_allowedMates_46 : decode cX3_allowedMates 46 = .ok (.aload_n 0, 1) := by decide +kernel
theorem dX3_allowedMates_47 : decode cX3_allowedMates 47 = .ok (.getfield 23, 3) := by decide +kernel
theorem dX3_allowedMates_5 : decode cX3_allowedMates 5 = .ok (.invokevirtual 91, 3) := by decide +kernel
theorem dX3_allowedMates_50 : decode cX3_allowedMates 50 = .ok (.getfield 81, 3) := by decide +kernel
theorem dX3_allowedMates_53 : decode cX3_allowedMates 53 = .ok (.if_icmp .ge 44, 3) := by decide +kernel
theorem dX3_allowedMates_56 : decode cX3_allowedMates 56 = .ok (.iload_n 2, 1) := by decide +kernel
theorem dX3_allowedMates_57 : decode cX3_allowedMates 57 = .ok (.iload 6, 2) := by decide +kernel
theorem dX3_allowedMates_59 : decode cX3_allowedMates 59 = .ok (.ishr, 1) := by decide +kernel
theorem dX3_allowedMates_60 : decode cX3_allowedMates 60 = .ok (.iconst 1, 1) := by decide +kernel
theorem dX3_allowedMates_61 : decode cX3_allowedMates 61 = .ok (.iand, 1) := by decide +kernel
theorem dX3_allowedMates_62 : decode cX3_allowedMates 62 = .ok (.ifCond .eq 29, 3) := by decide +kernel
theorem dX3_allowedMates_65 : decode cX3_allowedMates 65 = .ok (.aload_n 0, 1) := by decide +kernel
theorem dX3_allowedMates_66 : decode cX3_allowedMates 66 = .ok (.iload_n 3, 1) := by decide +kernel
theorem dX3_allowedMates_67 : decode cX3_allowedMates 67 = .ok (.iconst 1, 1) := by decide +kernel
theorem dX3_allowedMates_68 : decode cX3_allowedMates 68 = .ok (.iload 6, 2) := by decide +kernel
theorem dX3_allowedMates_70 : decode cX3_allowedMates 70 = .ok (.ishl, 1) := by decide +kernel
theorem dX3_allowedMates_71 : decode cX3_allowedMates 71 = .ok (.iconst (-1), 1) := by decide +kernel
theorem dX3_allowedMates_72 : decode cX3_allowedMates 72 = .ok (.ixor, 1) := by decide +kernel
theorem dX3_allowedMates_73 : decode cX3_allowedMates 73 = .ok (.iand, 1) := by decide +kernel
theorem dX3_allowedMates_74 : decode cX3_allowedMates 74 = .ok (.invokevirtual 52, 3) := by decide +kernel
theorem dX3_allowedMates_77 : decode cX3_allowedMates 77 = .ok (.iload 4, 2) := by decide +kernel
theorem dX3_allowedMates_79 : decode cX3_allowedMates 79 = .ok (.if_icmp .ne 12, 3) := by decide +kernel
theorem dX3_allowedMates_8 : decode cX3_allowedMates 8 = .ok (.istore_n 2, 1) := by decide +kernel
theorem dX3_allowedMates_82 : decode cX3_allowedMates 82 = .ok (.iload 5, 2) := by decide +kernel
theorem dX3_allowedMates_84 : decode cX3_allowedMates 84 = .ok (.iconst 1, 1) := by decide +kernel
theorem dX3_allowedMates_85 : decode cX3_allowedMates 85 = .ok (.iload 6, 2) := by decide +kernel
theorem dX3_allowedMates_87 : decode cX3_allowedMates 87 = .ok (.ishl, 1) := by decide +kernel
theorem dX3_allowedMates_88 : decode cX3_allowedMates 88 = .ok (.ior, 1) := by decide +kernel
theorem dX3_allowedMates_89 : decode cX3_allowedMates 89 = .ok (.istore 5, 2) := by decide +kernel
theorem dX3_allowedMates_9 : decode cX3_allowedMates 9 = .ok (.aload_n 0, 1) := by decide +kernel
theorem dX3_allowedMates_91 : decode cX3_allowedMates 91 = .ok (.iinc 6 1, 3) := by decide +kernel
theorem dX3_allowedMates_94 : decode cX3_allowedMates 94 = .ok (.goto (-50), 3) := by decide +kernel
theorem dX3_allowedMates_97 : decode cX3_allowedMates 97 = .ok (.iload 5, 2) := by decide +kernel
theorem dX3_allowedMates_99 : decode cX3_allowedMates 99 = .ok (.ireturn, 1) := by decide +kernel
set_option maxHeartbeats 4000000 in
set_option maxRecDepth 100000 in
theorem k_X3_allowedMates (l : Launch) (D : va_G) (cI cS : ClassId) (sz : Nat) (a : Nat → Nat) (na nc N : Nat) (L u0 : SU) (hL : TyX L) (hN : N = 0 ∨ N = 24576) (x0 : Int32) : Met l yX3_allowedMates wsX3_allowedMates ({ frames := 16, cells := 0, slots := 0, locals := 640 }) (PQ D cI cS (wX cI cS a na nc N L u0) sz [.ref (a 7), .int x0]) (QF (S := SU) D (wX cI cS a na nc N L u0) (wX cI cS a na nc N L) sz (fun r _ => Rg 0 4095 r ∧ True)) 0 0 (va_A (wX cI cS a na nc N L u0) sz) := by
  refine Met.ofW (cc := cX3_allowedMates) (maxL := 7) (ret := (some .int)) (by decide) rfl ?_
  intro p e s m args below meth c s₁ B hml hv
  obtain ⟨rfl, hsz, hP, hKK, hD0⟩ := hv
  have hx := B.exec
  have hb := B.bytes
  have hr := B.returns
  have hts := atoms_spec (ws := wsX3_allowedMates) B.pre
  have hown : s.vm.findClass RX3 = some m.cls := findClass_of_methodNamed B.named
  have hlocks := B.notSynchronized
  have hK := hKK.1
  have hin2 : ∀ w ∈ wsX20, w ∈ wsX3_allowedMates := by decide +kernel
  have hin3 : ∀ w ∈ wsX30, w ∈ wsX3_allowedMates := by decide +kernel
  subst hsz
  have hD := hD0.self (sz := s.heap.size)
  obtain ⟨A, hAe⟩ : ∃ A, A = va_A (wX cI cS a na nc N L u0) s.heap.size := ⟨_, rfl⟩
  rw [← hAe] at hD
  have hA : ∀ q : Nat, s.heap.size ≤ q → A q := fun q h => by rw [hAe]; exact Or.inr h
  have hS : va_S A s.heap s.heap [] := va_S.rf
  have hl := lv_entry ([.ref (a 7), .int x0]) (n := 7) (Nat.le_of_ble_eq_true rfl)
  rw [lg_entry_eq]
  generalize (lg_sl ([.ref (a 7), .int x0]) ++ List.replicate (7 - (lg_sl ([.ref (a 7), .int x0])).length) Slot.unset).toArray = ls at hl ⊢
  have hl : lv_has ls 7 [(0, .ref (a 7)), (1, .int x0)] := hl
  obtain ⟨u, hu9⟩ : ∃ u : SU, u = u0 := ⟨_, rfl⟩
  rw [← hu9] at hP hD
  have lp44 : ∀ (n44 : Nat) (y44_l2 : Int32) (y44_l3 : Int32) (y44_l4 : Int32) (y44_l5 : Int32) (y44_l6 : Int32) (u : SU) (H : Heap) (locs : List Loc) (ls : Array Slot), Rg 0 4095 y44_l3 → Rg (-1) 65548 y44_l4 → Rg 0 4095 y44_l5 → Rg 0 12 y44_l6 → va_P D cls (wX cI cS a na nc N L u) H → va_D A (wX cI cS a na nc N L u) → va_S A s.heap H locs → lv_has ls 7 [(0, .ref (a 7)), (2, .int y44_l2), (3, .int y44_l3), (4, .int y44_l4), (5, .int y44_l5), (6, .int y44_l6)] → 12 - y44_l6.toInt < (n44 : Int) → W p l e (headSpec wsX3_allowedMates ({ frames := 16, cells := 0, slots := 0, locals := 640 })).room s m ([.ref (a 7), .int x0]).toArray below meth c H locs 0 0 (MQ below (QF (S := SU) D (wX cI cS a na nc N L u0) (wX cI cS a na nc N L) s.heap.size (fun r _ => Rg 0 4095 r ∧ True)) ([.ref (a 7), .int x0]).toArray s 0 0 (va_A (wX cI cS a na nc N L u0) s.heap.size)) (F0 m 44 ls []) := by
    intro n44
    induction n44 with
    | zero =>
      intro y44_l2 y44_l3 y44_l4 y44_l5 y44_l6 u H locs ls g44_l3 g44_l4 g44_l5 g44_l6 hP hD hS hl hm44
      exact absurd rfl (me_z g44_l6 hm44)
    | succ n44 ih44 =>
      intro y44_l2 y44_l3 y44_l4 y44_l5 y44_l6 u H locs ls g44_l3 g44_l4 g44_l5 g44_l6 hP hD hS hl hm44
      refine lv_iload hx hb dX3_allowedMates_44 (lv_at hl 5 rfl) ?_
      refine lv_aload_n hx hb dX3_allowedMates_46 rfl (lv_at hl 0 rfl) ?_
      refine va_get (D := D) (ci := 3) (v := .ref (a 1)) (C := RX3) (T := TX3) (N := 4) hx hb hts hin3 hown hK hP 7 rfl rfl 0 (by decide) (hts (.fieldLink RX3 23 "MissedPoints$Pairs" "net" "LMissedPoints$Net;") (by decide +kernel)) (fun _ h9 => h9) rfl dX3_allowedMates_47 ?_
      refine va_getN (D := D) (ci := 2) (v := .int (L 1 1)) (C := RX2) (T := TX2) (N := 3) hx hb hts hin2 hown hK hP 1 rfl rfl 1 (by decide) (va_Nw.use rfl hKK.2.2.2.2.2.2.2.2.2.2.2.2.2.1) (fun _ h9 => h9) rfl dX3_allowedMates_50 ?_
      refine lv_icmp_ge (tgt := 97) hx hb dX3_allowedMates_53 (by decide) (fun c35818 => ?_) (fun c35818 => ?_)
      · refine lv_iload hx hb dX3_allowedMates_97 (lv_at hl 4 rfl) ?_
        subst hAe
        exact W.iret (v := y44_l5) hx hb hr (fun t ht hW => ⟨⟨_, u, rfl, ⟨g44_l5, trivial⟩, by rw [ht]; exact hP, hD⟩, hS.F ht⟩) hS.2.2 dX3_allowedMates_99
      · have g35819 : Rg 1 12 (L 1 1) := rg_ltr g44_l6 hL.1 (rg_nle c35818) (by decide)
        have g35820 : Rg 0 11 y44_l6 := rg_ltl g44_l6 hL.1 (rg_nle c35818) (by decide)
        refine lv_iload_n hx hb dX3_allowedMates_56 rfl (lv_at hl 1 rfl) ?_
        refine lv_iload hx hb dX3_allowedMates_57 (lv_at hl 5 rfl) ?_
        refine lv_ishr hx hb dX3_allowedMates_59 ?_
        refine wk_topP (P := fun r => r = y44_l2 >>> (y44_l6 &&& 31)) rfl (fun r35821 qr35821 => ?_)
        refine lv_iconst (v := 1) hx hb dX3_allowedMates_60 (by decide) ?_
        refine wk_iandr hx hb dX3_allowedMates_61 (by decide : Rg 1 1 (1 : Int32)) (by decide) (fun r35822 hr35822 qr35822 => ?_)
        refine lv_if_eq (tgt := 91) hx hb dX3_allowedMates_62 (by decide) (fun c35823 => ?_) (fun c35823 => ?_)
        · have g35824 : Rg 0 0 r35822 := wk_eql hr35822 (by decide : Rg 0 0 (0 : Int32)) c35823 (by decide)
          refine wk_iinc (lv' := fun r => [(6, .int r), (0, .ref (a 7)), (2, .int y44_l2), (3, .int y44_l3), (4, .int y44_l4), (5, .int y44_l5)]) (e1 := 1) (f := 12) hx hb dX3_allowedMates_91 hl (k := 5) rfl (by decide) g35820 (by decide) (fun _ => rfl) (fun r35825 ls hr35825 er35825 hl => ?_)
          refine lv_goto (tgt := 44) hx hb dX3_allowedMates_94 (by decide) ?_
          exact ih44 y44_l2 y44_l3 y44_l4 y44_l5 r35825 u _ _ ls g44_l3 g44_l4 g44_l5 (show Rg 0 12 r35825 from rg_w hr35825 (by decide) (by decide)) hP hD hS (lv_sub (l' := [(0, .ref (a 7)), (2, .int y44_l2), (3, .int y44_l3), (4, .int y44_l4), (5, .int y44_l5), (6, .int r35825)]) hl [1, 2, 3, 4, 5, 0] rfl) (me_up hm44 er35825 (by decide))
        · have g35826 : Rg 1 1 r35822 := rg_ne_lo (k := 0) hr35822 (by decide) c35823 (by decide)
          refine lv_aload_n hx hb dX3_allowedMates_65 rfl (lv_at hl 0 rfl) ?_
          refine lv_iload_n hx hb dX3_allowedMates_66 rfl (lv_at hl 2 rfl) ?_
          refine lv_iconst (v := 1) hx hb dX3_allowedMates_67 (by decide) ?_
          refine lv_iload hx hb dX3_allowedMates_68 (lv_at hl 5 rfl) ?_
          refine wk_ishl1 (f := 2048) hx hb dX3_allowedMates_70 g35820 (by decide) (fun r35827 hr35827 qr35827 => ?_)
          refine lv_iconst (v := (-1)) hx hb dX3_allowedMates_71 (by decide) ?_
          refine lv_ixor hx hb dX3_allowedMates_72 ?_
          refine wk_topP (P := fun r => r = r35827 ^^^ ((-1) : Int32)) rfl (fun r35828 qr35828 => ?_)
          refine wk_iandl hx hb dX3_allowedMates_73 g44_l3 (by decide) (fun r35829 hr35829 qr35829 => ?_)
          refine wk_qi (wX cI cS a na nc N L) u (As := [.int r35829]) (rest := []) ⟨hx, hb, hml, hown, hts⟩ (k_X3_best l D cI cS _ a na nc N L u hL hN r35829) hKK hP hD hS hA 7 (ci := 3) rfl rfl (cwV 1 hts gX3_allowedMates_X3_best rfl rfl rfl (by decide +kernel) ⟨Nat.le_of_ble_eq_true rfl, Nat.le_of_ble_eq_true rfl⟩) rfl hl.1 rfl (Nat.le_of_ble_eq_true rfl) dX3_allowedMates_74 ⟨Nat.le_of_ble_eq_true rfl, Nat.le_of_ble_eq_true rfl⟩ (fun r35830 u H locs hr35830 hP hD hS => ?_)
          refine lv_iload hx hb dX3_allowedMates_77 (lv_at hl 3 rfl) ?_
          refine lv_icmp_ne (tgt := 91) hx hb dX3_allowedMates_79 (by decide) (fun c35831 => ?_) (fun c35831 => ?_)
          · refine wk_iinc (lv' := fun r => [(6, .int r), (0, .ref (a 7)), (2, .int y44_l2), (3, .int y44_l3), (4, .int y44_l4), (5, .int y44_l5)]) (e1 := 1) (f := 12) hx hb dX3_allowedMates_91 hl (k := 5) rfl (by decide) g35820 (by decide) (fun _ => rfl) (fun r35832 ls hr35832 er35832 hl => ?_)
            refine lv_goto (tgt := 44) hx hb dX3_allowedMates_94 (by decide) ?_
            exact ih44 y44_l2 y44_l3 y44_l4 y44_l5 r35832 u _ _ ls g44_l3 g44_l4 g44_l5 (show Rg 0 12 r35832 from rg_w hr35832 (by decide) (by decide)) hP hD hS (lv_sub (l' := [(0, .ref (a 7)), (2, .int y44_l2), (3, .int y44_l3), (4, .int y44_l4), (5, .int y44_l5), (6, .int r35832)]) hl [1, 2, 3, 4, 5, 0] rfl) (me_up hm44 er35832 (by decide))
          · have g35833 : Rg 0 65548 r35830 := wk_eql hr35830.1 g44_l4 c35831 (by decide)
            have g35834 : Rg 0 65548 y44_l4 := wk_eqr hr35830.1 g44_l4 c35831 (by decide)
            refine lv_iload hx hb dX3_allowedMates_82 (lv_at hl 4 rfl) ?_
            refine lv_iconst (v := 1) hx hb dX3_allowedMates_84 (by decide) ?_
            refine lv_iload hx hb dX3_allowedMates_85 (lv_at hl 5 rfl) ?_
            refine wk_ishl1 (f := 2048) hx hb dX3_allowedMates_87 g35820 (by decide) (fun r35835 hr35835 qr35835 => ?_)
            refine wk_ior 12 (e1 := 1) (f := 4095) hx hb dX3_allowedMates_88 g44_l5 hr35835 (by decide) (fun r35836 hr35836 qr35836 => ?_)
            refine lv_istore (lv' := [(5, .int r35836), (0, .ref (a 7)), (2, .int y44_l2), (3, .int y44_l3), (4, .int y44_l4), (6, .int y44_l6)]) hx hb dX3_allowedMates_89 hl (by decide) rfl (fun ls hl => ?_)
            refine wk_iinc (lv' := fun r => [(6, .int r), (5, .int r35836), (0, .ref (a 7)), (2, .int y44_l2), (3, .int y44_l3), (4, .int y44_l4)]) (e1 := 1) (f := 12) hx hb dX3_allowedMates_91 hl (k := 5) rfl (by decide) g35820 (by decide) (fun _ => rfl) (fun r35837 ls hr35837 er35837 hl => ?_)
            refine lv_goto (tgt := 44) hx hb dX3_allowedMates_94 (by decide) ?_
            exact ih44 y44_l2 y44_l3 y44_l4 r35836 r35837 u _ _ ls g44_l3 (show Rg (-1) 65548 y44_l4 from rg_w g35834 (by decide) (by decide)) (show Rg 0 4095 r35836 from rg_w hr35836 (by decide) (by decide)) (show Rg 0 12 r35837 from rg_w hr35837 (by decide) (by decide)) hP hD hS (lv_sub (l' := [(0, .ref (a 7)), (2, .int y44_l2), (3, .int y44_l3), (4, .int y44_l4), (5, .int r35836), (6, .int r35837)]) hl [2, 3, 4, 5, 1, 0] rfl) (me_up hm44 er35837 (by decide))
  refine lv_aload_n hx hb dX3_allowedMates_0 rfl (lv_at hl 0 rfl) ?_
  refine va_get (D := D) (ci := 3) (v := .ref (a 1)) (C := RX3) (T := TX3) (N := 4) hx hb hts hin3 hown hK hP 7 rfl rfl 0 (by decide) (hts (.fieldLink RX3 23 "MissedPoints$Pairs" "net" "LMissedPoints$Net;") (by decide +kernel)) (fun _ h9 => h9) rfl dX3_allowedMates_1 ?_
  refine lv_iload_n hx hb dX3_allowedMates_4 rfl (lv_at hl 1 rfl) ?_
  refine wk_sv 1 (As := [.int x0]) (rest := []) ⟨hx, hb, hml, hown, hts⟩ (k_X2_near l D cI cS a na nc N L u hL hN x0) hKK hP (ci := 2) rfl rfl (cwV 1 hts gX3_allowedMates_X2_near rfl rfl rfl (by decide +kernel) ⟨Nat.le_of_ble_eq_true rfl, Nat.le_of_ble_eq_true rfl⟩) rfl hl.1 rfl (Nat.le_of_ble_eq_true rfl) dX3_allowedMates_5 ⟨Nat.le_of_ble_eq_true rfl, Nat.le_of_ble_eq_true rfl⟩ (fun r35838 hr35838 => ?_)
  refine lv_istore_n (lv' := [(2, .int r35838), (0, .ref (a 7)), (1, .int x0)]) hx hb dX3_allowedMates_8 rfl hl (by decide) rfl (fun ls hl => ?_)
  refine lv_aload_n hx hb dX3_allowedMates_9 rfl (lv_at hl 1 rfl) ?_
  refine va_get (D := D) (ci := 3) (v := .ref (a 1)) (C := RX3) (T := TX3) (N := 4) hx hb hts hin3 hown hK hP 7 rfl rfl 0 (by decide) (hts (.fieldLink RX3 23 "MissedPoints$Pairs" "net" "LMissedPoints$Net;") (by decide +kernel)) (fun _ h9 => h9) rfl dX3_allowedMates_10 ?_
  refine wk_sv 1 (As := []) (rest := []) ⟨hx, hb, hml, hown, hts⟩ (k_X2_all l D cI cS a na nc N L u hL hN) hKK hP (ci := 2) rfl rfl (cwV 0 hts gX3_allowedMates_X2_all rfl rfl rfl (by decide +kernel) ⟨Nat.le_of_ble_eq_true rfl, Nat.le_of_ble_eq_true rfl⟩) rfl hl.1 rfl (Nat.le_of_ble_eq_true rfl) dX3_allowedMates_13 ⟨Nat.le_of_ble_eq_true rfl, Nat.le_of_ble_eq_true rfl⟩ (fun r35839 hr35839 => ?_)
  refine lv_iconst (v := 1) hx hb dX3_allowedMates_16 (by decide) ?_
  refine lv_iload_n hx hb dX3_allowedMates_17 rfl (lv_at hl 2 rfl) ?_
  refine lv_ishl hx hb dX3_allowedMates_18 ?_
  refine wk_topP (P := fun r => r = (1 : Int32) <<< (x0 &&& 31)) rfl (fun r35840 qr35840 => ?_)
  refine lv_iconst (v := (-1)) hx hb dX3_allowedMates_19 (by decide) ?_
  refine lv_ixor hx hb dX3_allowedMates_20 ?_
  refine wk_topP (P := fun r => r = r35840 ^^^ ((-1) : Int32)) rfl (fun r35841 qr35841 => ?_)
  refine wk_iandl hx hb dX3_allowedMates_21 hr35839.1 (by decide) (fun r35842 hr35842 qr35842 => ?_)
  refine lv_istore_n (lv' := [(3, .int r35842), (2, .int r35838), (0, .ref (a 7)), (1, .int x0)]) hx hb dX3_allowedMates_22 rfl hl (by decide) rfl (fun ls hl => ?_)
  refine lv_aload_n hx hb dX3_allowedMates_23 rfl (lv_at hl 2 rfl) ?_
  refine lv_aload_n hx hb dX3_allowedMates_24 rfl (lv_at hl 2 rfl) ?_
  refine va_get (D := D) (ci := 3) (v := .ref (a 1)) (C := RX3) (T := TX3) (N := 4) hx hb hts hin3 hown hK hP 7 rfl rfl 0 (by decide) (hts (.fieldLink RX3 23 "MissedPoints$Pairs" "net" "LMissedPoints$Net;") (by decide +kernel)) (fun _ h9 => h9) rfl dX3_allowedMates_25 ?_
  refine wk_sv 1 (As := []) (rest := [.ref (a 7)]) ⟨hx, hb, hml, hown, hts⟩ (k_X2_all l D cI cS a na nc N L u hL hN) hKK hP (ci := 2) rfl rfl (cwV 0 hts gX3_allowedMates_X2_all rfl rfl rfl (by decide +kernel) ⟨Nat.le_of_ble_eq_true rfl, Nat.le_of_ble_eq_true rfl⟩) rfl hl.1 rfl (Nat.le_of_ble_eq_true rfl) dX3_allowedMates_28 ⟨Nat.le_of_ble_eq_true rfl, Nat.le_of_ble_eq_true rfl⟩ (fun r35843 hr35843 => ?_)
  refine wk_qi (wX cI cS a na nc N L) u (As := [.int r35843]) (rest := []) ⟨hx, hb, hml, hown, hts⟩ (k_X3_best l D cI cS _ a na nc N L u hL hN r35843) hKK hP hD hS hA 7 (ci := 3) rfl rfl (cwV 1 hts gX3_allowedMates_X3_best rfl rfl rfl (by decide +kernel) ⟨Nat.le_of_ble_eq_true rfl, Nat.le_of_ble_eq_true rfl⟩) rfl hl.1 rfl (Nat.le_of_ble_eq_true rfl) dX3_allowedMates_31 ⟨Nat.le_of_ble_eq_true rfl, Nat.le_of_ble_eq_true rfl⟩ (fun r35844 u H locs hr35844 hP hD hS => ?_)
  refine lv_iconst (v := 1) hx hb dX3_allowedMates_34 (by decide) ?_
  refine wk_isub (e1 := (-1)) (f := 65548) hx hb dX3_allowedMates_35 hr35844.1 (by decide : Rg 1 1 (1 : Int32)) (by decide) (fun r35845 hr35845 er35845 qr35845 => ?_)
  refine lv_istore (lv' := [(4, .int r35845), (3, .int r35842), (2, .int r35838), (0, .ref (a 7)), (1, .int x0)]) hx hb dX3_allowedMates_36 hl (by decide) rfl (fun ls hl => ?_)
  refine lv_iconst (v := 0) hx hb dX3_allowedMates_38 (by decide) ?_
  refine lv_istore (lv' := [(5, .int 0), (4, .int r35845), (3, .int r35842), (2, .int r35838), (0, .ref (a 7)), (1, .int x0)]) hx hb dX3_allowedMates_39 hl (by decide) rfl (fun ls hl => ?_)
  refine lv_iconst (v := 0) hx hb dX3_allowedMates_41 (by decide) ?_
  refine lv_istore (lv' := [(6, .int 0), (5, .int 0), (4, .int r35845), (3, .int r35842), (2, .int r35838), (0, .ref (a 7)), (1, .int x0)]) hx hb dX3_allowedMates_42 hl (by decide) rfl (fun ls hl => ?_)
  exact lp44 13 r35838 r35842 r35845 (0 : Int32) (0 : Int32) u _ _ ls hr35842 hr35845 (by decide : Rg 0 4095 (0 : Int32)) (by decide : Rg 0 12 (0 : Int32)) hP hD hS (lv_sub (l' := [(0, .ref (a 7)), (2, .int r35838), (3, .int r35842), (4, .int r35845), (5, .int 0), (6, .int 0)]) hl [5, 4, 3, 2, 1, 0] rfl) (me_i (by decide : Rg 0 12 (0 : Int32)) (by decide))
set_option maxRecDepth 20000 in
theorem ggX3_judge_X2_all : GoodIn wsX3_judge wsX2_all := goodIn_r _ [21, 17, 68, 69, 70] (by decide +kernel) (by decide +kernel)
set_option maxRecDepth 20000 in
theorem gX3_judge_X2_all : GoodIn wsX3_judge (wsV RX3 77 RX2 yX2_all wsX2_all) := goodIn_app (goodIn_of _ (by decide +kernel)) ggX3_judge_X2_all
set_option maxRecDepth 20000 in
theorem ggX3_judge_X3_allowedMates : GoodIn wsX3_judge wsX3_allowedMates := goodIn_r _ [6, 1, 7, 8, 9, 10, 11, 12, 13, 14, 15, 16, 17, 18, 19, 20, 21, 22, 23, 24, 5, 25, 26, 27, 28, 29, 30, 31, 32, 33, 34, 35, 36, 37, 38, 39, 40, 41, 42, 43, 44, 45, 46, 47, 48, 49, 50, 51, 52, 53, 54, 55, 56, 57, 58, 59, 60, 61, 62, 63, 64, 65, 66, 67, 68, 69, 70, 71, 72] (by decide +kernel) (by decide +kernel)
set_option maxRecDepth 20000 in
theorem gX3_judge_X3_allowedMates : GoodIn wsX3_judge (wsV RX3 88 RX3 yX3_allowedMates wsX3_allowedMates) := goodIn_app (goodIn_of _ (by decide +kernel)) ggX3_judge_X3_allowedMates
set_option maxRecDepth 20000 in
theorem ggX3_judge_X3_best : GoodIn wsX3_judge wsX3_best := goodIn_r _ [25, 26, 27, 28, 5, 29, 30, 1, 31, 32, 33, 34, 35, 36, 37, 38, 39, 40, 41, 42, 43, 44, 45, 46, 47, 48, 49, 50, 51, 52, 53, 54, 55, 56, 57, 58, 59, 60, 61, 62, 63, 64, 65, 66, 67, 68, 69, 70, 71, 72] (by decide +kernel) (by decide +kernel)
set_option maxRecDepth 20000 in
theorem gX3_judge_X3_best : GoodIn wsX3_judge (wsV RX3 52 RX3 yX3_best wsX3_best) := goodIn_app (goodIn_of _ (by decide +kernel)) ggX3_judge_X3_best
theorem dX3_judge_0 : decode cX3_judge 0 = .ok (.aload_n 0, 1) := by decide +kernel
theorem dX3_judge_1 : decode cX3_judge 1 = .ok (.iload_n 1, 1) := by decide +kernel
theorem dX3_judge_10 : decode cX3_judge 10 = .ok (.iand, 1) := by decide +kernel
theorem dX3_judge_11 : decode cX3_judge 11 = .ok (.ifCond .ne 5, 3) := by decide +kernel
theorem dX3_judge_14 : decode cX3_judge 14 = .ok (.iconst 0, 1) := by decide +kernel
theorem dX3_judge_15 : decode cX3_judge 15 = .ok (.ireturn, 1) := by decide +kernel
theorem dX3_judge_16 : decode cX3_judge 16 = .ok (.aload_n 0, 1) := by decide +kernel
theorem dX3_judge_17 : decode cX3_judge 17 = .ok (.aload_n 0, 1) := by decide +kernel
theorem dX3_judge_18 : decode cX3_judge 18 = .ok (.getfield 23, 3) := by decide +kernel
theorem dX3_judge_2 : decode cX3_judge 2 = .ok (.invokevirtual 88, 3) := by decide +kernel
theorem dX3_judge_21 : decode cX3_judge 21 = .ok (.invokevirtual 77, 3) := by decide +kernel
theorem dX3_judge_24 : decode cX3_judge 24 = .ok (.iconst 1, 1) := by decide +kernel
theorem dX3_judge_25 : decode cX3_judge 25 = .ok (.iload_n 1, 1) := by decide +kernel
theorem dX3_judge_26 : decode cX3_judge 26 = .ok (.ishl, 1) := by decide +kernel
theorem dX3_judge_27 : decode cX3_judge 27 = .ok (.iconst (-1), 1) := by decide +kernel
theorem dX3_judge_28 : decode cX3_judge 28 = .ok (.ixor, 1) := by decide +kernel
theorem dX3_judge_29 : decode cX3_judge 29 = .ok (.iand, 1) := by decide +kernel
theorem dX3_judge_30 : decode cX3_judge 30 = .ok (.invokevirtual 52, 3) := by decide +kernel
theorem dX3_judge_33 : decode cX3_judge 33 = .ok (.aload_n 0, 1) := by decide +kernel
theorem dX3_judge_34 : decode cX3_judge 34 = .ok (.aload_n 0, 1) := by decide +kernel
theorem dX3_judge_35 : decode cX3_judge 35 = .ok (.getfield 23, 3) := by decide +kernel
theorem dX3_judge_38 : decode cX3_judge 38 = .ok (.invokevirtual 77, 3) := by decide +kernel
theorem dX3_judge_41 : decode cX3_judge 41 = .ok (.invokevirtual 52, 3) := by decide +kernel
theorem dX3_judge_44 : decode cX3_judge 44 = .ok (.if_icmp .ne 7, 3) := by decide +kernel
theorem dX3_judge_47 : decode cX3_judge 47 = .ok (.iconst 1, 1) := by decide +kernel
theorem dX3_judge_48 : decode cX3_judge 48 = .ok (.goto 4, 3) := by decide +kernel
theorem dX3_judge_5 : decode cX3_judge 5 = .ok (.istore_n 3, 1) := by decide +kernel
theorem dX3_judge_51 : decode cX3_judge 51 = .ok (.iconst 0, 1) := by decide +kernel
theorem dX3_judge_52 : decode cX3_judge 52 = .ok (.istore 4, 2) := by decide +kernel
theorem dX3_judge_54 : decode cX3_judge 54 = .ok (.iload 4, 2) := by decide +kernel
theorem dX3_judge_56 : decode cX3_judge 56 = .ok (.ifCond .ne 10, 3) := by decide +kernel
theorem dX3_judge_59 : decode cX3_judge 59 = .ok (.iload_n 3, 1) := by decide +kernel
theorem dX3_judge_6 : decode cX3_judge 6 = .ok (.iload_n 3, 1) := by decide +kernel
theorem dX3_judge_60 : decode cX3_judge 60 = .ok (.iconst 1, 1) := by decide +kernel
theorem dX3_judge_61 : decode cX3_judge 61 = .ok (.iload_n 2, 1) := by decide +kernel
theorem dX3_judge_62 : decode cX3_judge 62 = .ok (.ishl, 1) := by decide +kernel
theorem dX3_judge_63 : decode cX3_judge 63 = .ok (.if_icmp .eq 7, 3) := by decide +kernel
theorem dX3_judge_66 : decode cX3_judge 66 = .ok (.iconst 1, 1) := by decide +kernel
theorem dX3_judge_67 : decode cX3_judge 67 = .ok (.goto 4, 3) := by decide +kernel
theorem dX3_judge_7 : decode cX3_judge 7 = .ok (.iload_n 2, 1) := by decide +kernel
theorem dX3_judge_70 : decode cX3_judge 70 = .ok (.iconst 2, 1) := by decide +kernel
theorem dX3_judge_71 : decode cX3_judge 71 = .ok (.ireturn, 1) := by decide +kernel
theorem dX3_judge_8 : decode cX3_judge 8 = .ok (.ishr, 1) := by decide +kernel
theorem dX3_judge_9 : decode cX3_judge 9 = .ok (.iconst 1, 1) := by decide +kernel
set_option maxHeartbeats 4000000 in
set_option maxRecDepth 100000 in
theorem k_X3_judge (l : Launch) (D : va_G) (cI cS : ClassId) (sz : Nat) (a : Nat → Nat) (na nc N : Nat) (L u0 : SU) (hL : TyX L) (hN : N = 0 ∨ N = 24576) (x0 x1 : Int32) : Met l yX3_judge wsX3_judge ({ frames := 17, cells := 0, slots := 0, locals := 680 }) (PQ D cI cS (wX cI cS a na nc N L u0) sz [.ref (a 7), .int x0, .int x1]) (QF (S := SU) D (wX cI cS a na nc N L u0) (wX cI cS a na nc N L) sz (fun r _ => Rg 0 2 r ∧ True)) 0 0 (va_A (wX cI cS a na nc N L u0) sz) := by
  refine Met.ofW (cc := cX3_judge) (maxL := 5) (ret := (some .int)) (by decide) rfl ?_
  intro p e s m args below meth c s₁ B hml hv
  obtain ⟨rfl, hsz, hP, hKK, hD0⟩ := hv
  have hx := B.exec
  have hb := B.bytes
  have hr := B.returns
  have hts := atoms_spec (ws := wsX3_judge) B.pre
  have hown : s.vm.findClass RX3 = some m.cls := findClass_of_methodNamed B.named
  have hlocks := B.notSynchronized
  have hK := hKK.1
  have hin3 : ∀ w ∈ wsX30, w ∈ wsX3_judge := by decide +kernel
  subst hsz
  have hD := hD0.self (sz := s.heap.size)
  obtain ⟨A, hAe⟩ : ∃ A, A = va_A (wX cI cS a na nc N L u0) s.heap.size := ⟨_, rfl⟩
  rw [← hAe] at hD
  have hA : ∀ q : Nat, s.heap.size ≤ q → A q := fun q h => by rw [hAe]; exact Or.inr h
  have hS : va_S A s.heap s.heap [] := va_S.rf
  have hl := lv_entry ([.ref (a 7), .int x0, .int x1]) (n := 5) (Nat.le_of_ble_eq_true rfl)
  rw [lg_entry_eq]
  generalize (lg_sl ([.ref (a 7), .int x0, .int x1]) ++ List.replicate (5 - (lg_sl ([.ref (a 7), .int x0, .int x1])).length) Slot.unset).toArray = ls at hl ⊢
  have hl : lv_has ls 5 [(0, .ref (a 7)), (1, .int x0), (2, .int x1)] := hl
  obtain ⟨u, hu9⟩ : ∃ u : SU, u = u0 := ⟨_, rfl⟩
  rw [← hu9] at hP hD
  have ct52 : ∀ (y52_l3 : Int32) (y52_s0 : Int32) (u : SU) (H : Heap) (locs : List Loc) (ls : Array Slot), Rg 0 4095 y52_l3 → Rg 0 1 y52_s0 → va_P D cls (wX cI cS a na nc N L u) H → va_D A (wX cI cS a na nc N L u) → va_S A s.heap H locs → lv_has ls 5 [(2, .int x1), (3, .int y52_l3)] → W p l e (headSpec wsX3_judge ({ frames := 17, cells := 0, slots := 0, locals := 680 })).room s m ([.ref (a 7), .int x0, .int x1]).toArray below meth c H locs 0 0 (MQ below (QF (S := SU) D (wX cI cS a na nc N L u0) (wX cI cS a na nc N L) s.heap.size (fun r _ => Rg 0 2 r ∧ True)) ([.ref (a 7), .int x0, .int x1]).toArray s 0 0 (va_A (wX cI cS a na nc N L u0) s.heap.size)) (F0 m 52 ls [.int y52_s0]) := by
    intro y52_l3 y52_s0 u H locs ls g52_l3 g52_s0 hP hD hS hl
    refine lv_istore (lv' := [(4, .int y52_s0), (2, .int x1), (3, .int y52_l3)]) hx hb dX3_judge_52 hl (by decide) rfl (fun ls hl => ?_)
    refine lv_iload hx hb dX3_judge_54 (lv_at hl 0 rfl) ?_
    refine lv_if_ne (tgt := 66) hx hb dX3_judge_56 (by decide) (fun c35886 => ?_) (fun c35886 => ?_)
    · have g35887 : Rg 1 1 y52_s0 := rg_ne_lo (k := 0) g52_s0 (by decide) c35886 (by decide)
      refine lv_iconst (v := 1) hx hb dX3_judge_66 (by decide) ?_
      refine lv_goto (tgt := 71) hx hb dX3_judge_67 (by decide) ?_
      subst hAe
      exact W.iret (v := 1) hx hb hr (fun t ht hW => ⟨⟨_, u, rfl, ⟨(by decide : Rg 0 2 (1 : Int32)), trivial⟩, by rw [ht]; exact hP, hD⟩, hS.F ht⟩) hS.2.2 dX3_judge_71
    · have g35888 : Rg 0 0 y52_s0 := wk_eql g52_s0 (by decide : Rg 0 0 (0 : Int32)) c35886 (by decide)
      refine lv_iload_n hx hb dX3_judge_59 rfl (lv_at hl 2 rfl) ?_
      refine lv_iconst (v := 1) hx hb dX3_judge_60 (by decide) ?_
      refine lv_iload_n hx hb dX3_judge_61 rfl (lv_at hl 1 rfl) ?_
      refine lv_ishl hx hb dX3_judge_62 ?_
      refine wk_topP (P := fun r => r = (1 : Int32) <<< (x1 &&& 31)) rfl (fun r35889 qr35889 => ?_)
      refine lv_icmp_eq (tgt := 70) hx hb dX3_judge_63 (by decide) (fun c35890 => ?_) (fun c35890 => ?_)
      · have g35891 : Rg 0 4095 r35889 := wk_eqr g52_l3 (rg_any r35889) c35890 (by decide)
        refine lv_iconst (v := 2) hx hb dX3_judge_70 (by decide) ?_
        subst hAe
        exact W.iret (v := 2) hx hb hr (fun t ht hW => ⟨⟨_, u, rfl, ⟨(by decide : Rg 0 2 (2 : Int32)), trivial⟩, by rw [ht]; exact hP, hD⟩, hS.F ht⟩) hS.2.2 dX3_judge_71
      · refine lv_iconst (v := 1) hx hb dX3_judge_66 (by decide) ?_
        refine lv_goto (tgt := 71) hx hb dX3_judge_67 (by decide) ?_
        subst hAe
        exact W.iret (v := 1) hx hb hr (fun t ht hW => ⟨⟨_, u, rfl, ⟨(by decide : Rg 0 2 (1 : Int32)), trivial⟩, by rw [ht]; exact hP, hD⟩, hS.F ht⟩) hS.2.2 dX3_judge_71
  refine lv_aload_n hx hb dX3_judge_0 rfl (lv_at hl 0 rfl) ?_
  refine lv_iload_n hx hb dX3_judge_1 rfl (lv_at hl 1 rfl) ?_
  refine wk_qi (wX cI cS a na nc N L) u (As := [.int x0]) (rest := []) ⟨hx, hb, hml, hown, hts⟩ (k_X3_allowedMates l D cI cS _ a na nc N L u hL hN x0) hKK hP hD hS hA 7 (ci := 3) rfl rfl (cwV 1 hts gX3_judge_X3_allowedMates rfl rfl rfl (by decide +kernel) ⟨Nat.le_of_ble_eq_true rfl, Nat.le_of_ble_eq_true rfl⟩) rfl hl.1 rfl (Nat.le_of_ble_eq_true rfl) dX3_judge_2 ⟨Nat.le_of_ble_eq_true rfl, Nat.le_of_ble_eq_true rfl⟩ (fun r35892 u H locs hr35892 hP hD hS => ?_)
  refine lv_istore_n (lv' := [(3, .int r35892), (0, .ref (a 7)), (1, .int x0), (2, .int x1)]) hx hb dX3_judge_5 rfl hl (by decide) rfl (fun ls hl => ?_)
  refine lv_iload_n hx hb dX3_judge_6 rfl (lv_at hl 0 rfl) ?_
  refine lv_iload_n hx hb dX3_judge_7 rfl (lv_at hl 3 rfl) ?_
  refine lv_ishr hx hb dX3_judge_8 ?_
  refine wk_topP (P := fun r => r = r35892 >>> (x1 &&& 31)) rfl (fun r35893 qr35893 => ?_)
  refine lv_iconst (v := 1) hx hb dX3_judge_9 (by decide) ?_
  refine wk_iandr hx hb dX3_judge_10 (by decide : Rg 1 1 (1 : Int32)) (by decide) (fun r35894 hr35894 qr35894 => ?_)
  refine lv_if_ne (tgt := 16) hx hb dX3_judge_11 (by decide) (fun c35895 => ?_) (fun c35895 => ?_)
  · have g35896 : Rg 1 1 r35894 := rg_ne_lo (k := 0) hr35894 (by decide) c35895 (by decide)
    refine lv_aload_n hx hb dX3_judge_16 rfl (lv_at hl 1 rfl) ?_
    refine lv_aload_n hx hb dX3_judge_17 rfl (lv_at hl 1 rfl) ?_
    refine va_get (D := D) (ci := 3) (v := .ref (a 1)) (C := RX3) (T := TX3) (N := 4) hx hb hts hin3 hown hK hP 7 rfl rfl 0 (by decide) (hts (.fieldLink RX3 23 "MissedPoints$Pairs" "net" "LMissedPoints$Net;") (by decide +kernel)) (fun _ h9 => h9) rfl dX3_judge_18 ?_
    refine wk_sv 1 (As := []) (rest := [.ref (a 7)]) ⟨hx, hb, hml, hown, hts⟩ (k_X2_all l D cI cS a na nc N L u hL hN) hKK hP (ci := 2) rfl rfl (cwV 0 hts gX3_judge_X2_all rfl rfl rfl (by decide +kernel) ⟨Nat.le_of_ble_eq_true rfl, Nat.le_of_ble_eq_true rfl⟩) rfl hl.1 rfl (Nat.le_of_ble_eq_true rfl) dX3_judge_21 ⟨Nat.le_of_ble_eq_true rfl, Nat.le_of_ble_eq_true rfl⟩ (fun r35897 hr35897 => ?_)
    refine lv_iconst (v := 1) hx hb dX3_judge_24 (by decide) ?_
    refine lv_iload_n hx hb dX3_judge_25 rfl (lv_at hl 2 rfl) ?_
    refine lv_ishl hx hb dX3_judge_26 ?_
    refine wk_topP (P := fun r => r = (1 : Int32) <<< (x0 &&& 31)) rfl (fun r35898 qr35898 => ?_)
    refine lv_iconst (v := (-1)) hx hb dX3_judge_27 (by decide) ?_
    refine lv_ixor hx hb dX3_judge_28 ?_
    refine wk_topP (P := fun r => r = r35898 ^^^ ((-1) : Int32)) rfl (fun r35899 qr35899 => ?_)
    refine wk_iandl hx hb dX3_judge_29 hr35897.1 (by decide) (fun r35900 hr35900 qr35900 => ?_)
    refine wk_qi (wX cI cS a na nc N L) u (As := [.int r35900]) (rest := []) ⟨hx, hb, hml, hown, hts⟩ (k_X3_best l D cI cS _ a na nc N L u hL hN r35900) hKK hP hD hS hA 7 (ci := 3) rfl rfl (cwV 1 hts gX3_judge_X3_best rfl rfl rfl (by decide +kernel) ⟨Nat.le_of_ble_eq_true rfl, Nat.le_of_ble_eq_true rfl⟩) rfl hl.1 rfl (Nat.le_of_ble_eq_true rfl) dX3_judge_30 ⟨Nat.le_of_ble_eq_true rfl, Nat.le_of_ble_eq_true rfl⟩ (fun r35901 u H locs hr35901 hP hD hS => ?_)
    refine lv_aload_n hx hb dX3_judge_33 rfl (lv_at hl 1 rfl) ?_
    refine lv_aload_n hx hb dX3_judge_34 rfl (lv_at hl 1 rfl) ?_
    refine va_get (D := D) (ci := 3) (v := .ref (a 1)) (C := RX3) (T := TX3) (N := 4) hx hb hts hin3 hown hK hP 7 rfl rfl 0 (by decide) (hts (.fieldLink RX3 23 "MissedPoints$Pairs" "net" "LMissedPoints$Net;") (by decide +kernel)) (fun _ h9 => h9) rfl dX3_judge_35 ?_
    refine wk_sv 1 (As := []) (rest := [.ref (a 7), .int r35901]) ⟨hx, hb, hml, hown, hts⟩ (k_X2_all l D cI cS a na nc N L u hL hN) hKK hP (ci := 2) rfl rfl (cwV 0 hts gX3_judge_X2_all rfl rfl rfl (by decide +kernel) ⟨Nat.le_of_ble_eq_true rfl, Nat.le_of_ble_eq_true rfl⟩) rfl hl.1 rfl (Nat.le_of_ble_eq_true rfl) dX3_judge_38 ⟨Nat.le_of_ble_eq_true rfl, Nat.le_of_ble_eq_true rfl⟩ (fun r35902 hr35902 => ?_)
    refine wk_qi (wX cI cS a na nc N L) u (As := [.int r35902]) (rest := [.int r35901]) ⟨hx, hb, hml, hown, hts⟩ (k_X3_best l D cI cS _ a na nc N L u hL hN r35902) hKK hP hD hS hA 7 (ci := 3) rfl rfl (cwV 1 hts gX3_judge_X3_best rfl rfl rfl (by decide +kernel) ⟨Nat.le_of_ble_eq_true rfl, Nat.le_of_ble_eq_true rfl⟩) rfl hl.1 rfl (Nat.le_of_ble_eq_true rfl) dX3_judge_41 ⟨Nat.le_of_ble_eq_true rfl, Nat.le_of_ble_eq_true rfl⟩ (fun r35903 u H locs hr35903 hP hD hS => ?_)
    refine lv_icmp_ne (tgt := 51) hx hb dX3_judge_44 (by decide) (fun c35904 => ?_) (fun c35904 => ?_)
    · refine lv_iconst (v := 0) hx hb dX3_judge_51 (by decide) ?_
      exact ct52 r35892 (0 : Int32) u _ _ ls hr35892.1 (by decide : Rg 0 1 (0 : Int32)) hP hD hS (lv_sub (l' := [(2, .int x1), (3, .int r35892)]) hl [3, 0] rfl)
    · refine lv_iconst (v := 1) hx hb dX3_judge_47 (by decide) ?_
      refine lv_goto (tgt := 52) hx hb dX3_judge_48 (by decide) ?_
      exact ct52 r35892 (1 : Int32) u _ _ ls hr35892.1 (by decide : Rg 0 1 (1 : Int32)) hP hD hS (lv_sub (l' := [(2, .int x1), (3, .int r35892)]) hl [3, 0] rfl)
  · have g35905 : Rg 0 0 r35894 := wk_eql hr35894 (by decide : Rg 0 0 (0 : Int32)) c35895 (by decide)
    refine lv_iconst (v := 0) hx hb dX3_judge_14 (by decide) ?_
    subst hAe
    exact W.iret (v := 0) hx hb hr (fun t ht hW => ⟨⟨_, u, rfl, ⟨(by decide : Rg 0 2 (0 : Int32)), trivial⟩, by rw [ht]; exact hP, hD⟩, hS.F ht⟩) hS.2.2 dX3_judge_15
set_option maxRecDepth 20000 in
theorem ggX3_firstMate_X2_near : GoodIn wsX3_firstMate wsX2_near := goodIn_r _ [6, 7, 8, 9, 10, 5, 11, 12, 60, 61, 62] (by decide +kernel) (by decide +kernel)
set_option maxRecDepth 20000 in
theorem gX3_firstMate_X2_near : GoodIn wsX3_firstMate (wsV RX3 91 RX2 yX2_near wsX2_near) := goodIn_app (goodIn_of _ (by decide +kernel)) ggX3_firstMate_X2_near
set_option maxRecDepth 20000 in
theorem ggX3_firstMate_X3_best : GoodIn wsX3_firstMate wsX3_best := goodIn_r _ [17, 18, 19, 20, 16, 21, 22, 1, 23, 24, 25, 26, 27, 28, 29, 30, 31, 32, 33, 34, 35, 36, 37, 38, 39, 40, 41, 42, 43, 44, 45, 46, 47, 48, 49, 50, 51, 52, 53, 54, 55, 56, 57, 58, 59, 60, 61, 62, 63, 64] (by decide +kernel) (by decide +kernel)
set_option maxRecDepth 20000 in
theorem gX3_firstMate_X3_best : GoodIn wsX3_firstMate (wsV RX3 52 RX3 yX3_best wsX3_best) := goodIn_app (goodIn_of _ (by decide +kernel)) ggX3_firstMate_X3_best
theorem dX3_firstMate_0 : decode cX3_firstMate 0 = .ok (.iload_n 2, 1) := by decide +kernel
theorem dX3_firstMate_1 : decode cX3_firstMate 1 = .ok (.iconst 1, 1) := by decide +kernel
theorem dX3_firstMate_12 : decode cX3_firstMate 12 = .ok (.iload_n 1, 1) := by decide +kernel
theorem dX3_firstMate_13 : decode cX3_firstMate 13 = .ok (.invokevirtual 91, 3) := by decide +kernel
theorem dX3_firstMate_16 : decode cX3_firstMate 16 = .ok (.iload_n 3, 1) := by decide +kernel
theorem dX3_firstMate_17 : decode cX3_firstMate 17 = .ok (.iand, 1) := by decide +kernel
theorem dX3_firstMate_18 : decode cX3_firstMate 18 = .ok (.istore 4, 2) := by decide +kernel
theorem dX3_firstMate_2 : decode cX3_firstMate 2 = .ok (.iload_n 1, 1) := by decide +kernel
theorem dX3_firstMate_20 : decode cX3_firstMate 20 = .ok (.aload_n 0, 1) := by decide +kernel
theorem dX3_firstMate_21 : decode cX3_firstMate 21 = .ok (.iload_n 2, 1) := by decide +kernel
theorem dX3_firstMate_22 : decode cX3_firstMate 22 = .ok (.invokevirtual 52, 3) := by decide +kernel
theorem dX3_firstMate_25 : decode cX3_firstMate 25 = .ok (.iconst 1, 1) := by decide +kernel
theorem dX3_firstMate_26 : decode cX3_firstMate 26 = .ok (.isub, 1) := by decide +kernel
theorem dX3_firstMate_27 : decode cX3_firstMate 27 = .ok (.istore 5, 2) := by decide +kernel
theorem dX3_firstMate_29 : decode cX3_firstMate 29 = .ok (.iconst 0, 1) := by decide +kernel
theorem dX3_firstMate_3 : decode cX3_firstMate 3 = .ok (.ishl, 1) := by decide +kernel
theorem dX3_firstMate_30 : decode cX3_firstMate 30 = .ok (.istore 6, 2) := by decide +kernel
theorem dX3_firstMate_32 : decode cX3_firstMate 32 = .ok (.iload 6, 2) := by decide +kernel
theorem dX3_firstMate_34 : decode cX3_firstMate 34 = .ok (.aload_n 0, 1) := by decide +kernel
theorem dX3_firstMate_35 : decode cX3_firstMate 35 = .ok (.getfield 23, 3) := by decide +kernel
theorem dX3_firstMate_38 : decode cX3_firstMate 38 = .ok (.getfield 81, 3) := by decide +kernel
theorem dX3_firstMate_4 : decode cX3_firstMate 4 = .ok (.iconst (-1), 1) := by decide +kernel
theorem dX3_firstMate_41 : decode cX3_firstMate 41 = .ok (.if_icmp .ge 39, 3) := by decide +kernel
theorem dX3_firstMate_44 : decode cX3_firstMate 44 = .ok (.iload 4, 2) := by decide +kernel
theorem dX3_firstMate_46 : decode cX3_firstMate 46 = .ok (.iload 6, 2) := by decide +kernel
theorem dX3_firstMate_48 : decode cX3_firstMate 48 = .ok (.ishr, 1) := by decide +kernel
theorem dX3_firstMate_49 : decode cX3_firstMate 49 = .ok (.iconst 1, 1) := by decide +kernel
theorem dX3_firstMate_5 : decode cX3_firstMate 5 = .ok (.ixor, 1) := by decide +kernel
theorem dX3_firstMate_50 : decode cX3_firstMate 50 = .ok (.iand, 1) := by decide +kernel
theorem dX3_firstMate_51 : decode cX3_firstMate 51 = .ok (.ifCond .eq 23, 3) := by decide +kernel
theorem dX3_firstMate_54 : decode cX3_firstMate 54 = .ok (.aload_n 0, 1) := by decide +kernel
theorem dX3_firstMate_55 : decode cX3_firstMate 55 = .ok (.iload_n 3, 1) := by decide +kernel
theorem dX3_firstMate_56 : decode cX3_firstMate 56 = .ok (.iconst 1, 1) := by decide +kernel
theorem dX3_firstMate_57 : decode cX3_firstMate 57 = .ok (.iload 6, 2) := by decide +kernel
theorem dX3_firstMate_59 : decode cX3_firstMate 59 = .ok (.ishl, 1) := by decide +kernel
theorem dX3_firstMate_6 : decode cX3_firstMate 6 = .ok (.iand, 1) := by decide +kernel
theorem dX3_firstMate_60 : decode cX3_firstMate 60 = .ok (.iconst (-1), 1) := by decide +kernel
theorem dX3_firstMate_61 : decode cX3_firstMate 61 = .ok (.ixor, 1) := by decide +kernel
theorem dX3_firstMate_62 : decode cX3_firstMate 62 = .ok (.iand, 1) := by decide +kernel
theorem dX3_firstMate_63 : decode cX3_firstMate 63 = .ok (.invokevirtual 52, 3) := by decide +kernel
theorem dX3_firstMate_66 : decode cX3_firstMate 66 = .ok (.iload 5, 2) := by decide +kernel
theorem dX3_firstMate_68 : decode cX3_firstMate 68 = .ok (.if_icmp .ne 6, 3) := by decide +kernel
theorem dX3_firstMate_7 : decode cX3_firstMate 7 = .ok (.istore_n 3, 1) := by decide +kernel
theorem dX3_firstMate_71 : decode cX3_firstMate 71 = .ok (.iload 6, 2) := by decide +kernel
theorem dX3_firstMate_73 : decode cX3_firstMate 73 = .ok (.ireturn, 1) := by decide +kernel
theorem dX3_firstMate_74 : decode cX3_firstMate 74 = .ok (.iinc 6 1, 3) := by decide +kernel
theorem dX3_firstMate_77 : decode cX3_firstMate 77 = .ok (.goto (-45), 3) := by decide +kernel
theorem dX3_firstMate_8 : decode cX3_firstMate 8 = .ok (.aload_n 0, 1) := by decide +kernel
theorem dX3_firstMate_80 : decode cX3_firstMate 80 = .ok (.iconst (-1), 1) := by decide +kernel
theorem dX3_firstMate_81 : decode cX3_firstMate 81 = .ok (.ireturn, 1) := by decide +kernel
theorem dX3_firstMate_9 : decode cX3_firstMate 9 = .ok (.getfield 23, 3) := by decide +kernel
set_option maxHeartbeats 4000000 in
set_option maxRecDepth 100000 in
theorem k_X3_firstMate (l : Launch) (D : va_G) (cI cS : ClassId) (sz : Nat) (a : Nat → Nat) (na nc N : Nat) (L u0 : SU) (hL : TyX L) (hN : N = 0 ∨ N = 24576) (x0 x1 : Int32) : Met l yX3_firstMate wsX3_firstMate ({ frames := 16, cells := 0, slots := 0, locals := 640 }) (PQ D cI cS (wX cI cS a na nc N L u0) sz [.ref (a 7), .int x0, .int x1]) (QF (S := SU) D (wX cI cS a na nc N L u0) (wX cI cS a na nc N L) sz (fun r _ => Rg (-1) 11 r ∧ True)) 0 0 (va_A (wX cI cS a na nc N L u0) sz) := by
  refine Met.ofW (cc := cX3_firstMate) (maxL := 7) (ret := (some .int)) (by decide) rfl ?_
  intro p e s m args below meth c s₁ B hml hv
  obtain ⟨rfl, hsz, hP, hKK, hD0⟩ := hv
  have hx := B.exec
  have hb := B.bytes
  have hr := B.returns
  have hts := atoms_spec (ws := wsX3_firstMate) B.pre
  have hown : s.vm.findClass RX3 = some m.cls := findClass_of_methodNamed B.named
  have hlocks := B.notSynchronized
  have hK := hKK.1
  have hin2 : ∀ w ∈ wsX20, w ∈ wsX3_firstMate := by decide +kernel
  have hin3 : ∀ w ∈ wsX30, w ∈ wsX3_firstMate := by decide +kernel
  subst hsz
  have hD := hD0.self (sz := s.heap.size)
  obtain ⟨A, hAe⟩ : ∃ A, A = va_A (wX cI cS a na nc N L u0) s.heap.size := ⟨_, rfl⟩
  rw [← hAe] at hD
  have hA : ∀ q : Nat, s.heap.size ≤ q → A q := fun q h => by rw [hAe]; exact Or.inr h
  have hS : va_S A s.heap s.heap [] := va_S.rf
  have hl := lv_entry ([.ref (a 7), .int x0, .int x1]) (n := 7) (Nat.le_of_ble_eq_true rfl)
  rw [lg_entry_eq]
  generalize (lg_sl ([.ref (a 7), .int x0, .int x1]) ++ List.replicate (7 - (lg_sl ([.ref (a 7), .int x0, .int x1])).length) Slot.unset).toArray = ls at hl ⊢
  have hl : lv_has ls 7 [(0, .ref (a 7)), (1, .int x0), (2, .int x1)] := hl
  obtain ⟨u, hu9⟩ : ∃ u : SU, u = u0 := ⟨_, rfl⟩
  rw [← hu9] at hP hD
  have lp32 : ∀ (n32 : Nat) (y32_l3 : Int32) (y32_l4 : Int32) (y32_l5 : Int32) (y32_l6 : Int32) (u : SU) (H : Heap) (locs : List Loc) (ls : Array Slot), Rg (-1) 65548 y32_l5 → Rg 0 12 y32_l6 → va_P D cls (wX cI cS a na nc N L u) H → va_D A (wX cI cS a na nc N L u) → va_S A s.heap H locs → lv_has ls 7 [(0, .ref (a 7)), (3, .int y32_l3), (4, .int y32_l4), (5, .int y32_l5), (6, .int y32_l6)] → 12 - y32_l6.toInt < (n32 : Int) → W p l e (headSpec wsX3_firstMate ({ frames := 16, cells := 0, slots := 0, locals := 640 })).room s m ([.ref (a 7), .int x0, .int x1]).toArray below meth c H locs 0 0 (MQ below (QF (S := SU) D (wX cI cS a na nc N L u0) (wX cI cS a na nc N L) s.heap.size (fun r _ => Rg (-1) 11 r ∧ True)) ([.ref (a 7), .int x0, .int x1]).toArray s 0 0 (va_A (wX cI cS a na nc N L u0) s.heap.size)) (F0 m 32 ls []) := by
    intro n32
    induction n32 with
    | zero =>
      intro y32_l3 y32_l4 y32_l5 y32_l6 u H locs ls g32_l5 g32_l6 hP hD hS hl hm32
      exact absurd rfl (me_z g32_l6 hm32)
    | succ n32 ih32 =>
      intro y32_l3 y32_l4 y32_l5 y32_l6 u H locs ls g32_l5 g32_l6 hP hD hS hl hm32
      refine lv_iload hx hb dX3_firstMate_32 (lv_at hl 4 rfl) ?_
      refine lv_aload_n hx hb dX3_firstMate_34 rfl (lv_at hl 0 rfl) ?_
      refine va_get (D := D) (ci := 3) (v := .ref (a 1)) (C := RX3) (T := TX3) (N := 4) hx hb hts hin3 hown hK hP 7 rfl rfl 0 (by decide) (hts (.fieldLink RX3 23 "MissedPoints$Pairs" "net" "LMissedPoints$Net;") (by decide +kernel)) (fun _ h9 => h9) rfl dX3_firstMate_35 ?_
      refine va_getN (D := D) (ci := 2) (v := .int (L 1 1)) (C := RX2) (T := TX2) (N := 3) hx hb hts hin2 hown hK hP 1 rfl rfl 1 (by decide) (va_Nw.use rfl hKK.2.2.2.2.2.2.2.2.2.2.2.2.2.1) (fun _ h9 => h9) rfl dX3_firstMate_38 ?_
      refine lv_icmp_ge (tgt := 80) hx hb dX3_firstMate_41 (by decide) (fun c36113 => ?_) (fun c36113 => ?_)
      · refine lv_iconst (v := (-1)) hx hb dX3_firstMate_80 (by decide) ?_
        subst hAe
        exact W.iret (v := (-1)) hx hb hr (fun t ht hW => ⟨⟨_, u, rfl, ⟨(by decide : Rg (-1) 11 ((-1) : Int32)), trivial⟩, by rw [ht]; exact hP, hD⟩, hS.F ht⟩) hS.2.2 dX3_firstMate_81
      · have g36114 : Rg 1 12 (L 1 1) := rg_ltr g32_l6 hL.1 (rg_nle c36113) (by decide)
        have g36115 : Rg 0 11 y32_l6 := rg_ltl g32_l6 hL.1 (rg_nle c36113) (by decide)
        refine lv_iload hx hb dX3_firstMate_44 (lv_at hl 2 rfl) ?_
        refine lv_iload hx hb dX3_firstMate_46 (lv_at hl 4 rfl) ?_
        refine lv_ishr hx hb dX3_firstMate_48 ?_
        refine wk_topP (P := fun r => r = y32_l4 >>> (y32_l6 &&& 31)) rfl (fun r36116 qr36116 => ?_)
        refine lv_iconst (v := 1) hx hb dX3_firstMate_49 (by decide) ?_
        refine wk_iandr hx hb dX3_firstMate_50 (by decide : Rg 1 1 (1 : Int32)) (by decide) (fun r36117 hr36117 qr36117 => ?_)
        refine lv_if_eq (tgt := 74) hx hb dX3_firstMate_51 (by decide) (fun c36118 => ?_) (fun c36118 => ?_)
        · have g36119 : Rg 0 0 r36117 := wk_eql hr36117 (by decide : Rg 0 0 (0 : Int32)) c36118 (by decide)
          refine wk_iinc (lv' := fun r => [(6, .int r), (0, .ref (a 7)), (3, .int y32_l3), (4, .int y32_l4), (5, .int y32_l5)]) (e1 := 1) (f := 12) hx hb dX3_firstMate_74 hl (k := 4) rfl (by decide) g36115 (by decide) (fun _ => rfl) (fun r36120 ls hr36120 er36120 hl => ?_)
          refine lv_goto (tgt := 32) hx hb dX3_firstMate_77 (by decide) ?_
          exact ih32 y32_l3 y32_l4 y32_l5 r36120 u _ _ ls g32_l5 (show Rg 0 12 r36120 from rg_w hr36120 (by decide) (by decide)) hP hD hS (lv_sub (l' := [(0, .ref (a 7)), (3, .int y32_l3), (4, .int y32_l4), (5, .int y32_l5), (6, .int r36120)]) hl [1, 2, 3, 4, 0] rfl) (me_up hm32 er36120 (by decide))
        · have g36121 : Rg 1 1 r36117 := rg_ne_lo (k := 0) hr36117 (by decide) c36118 (by decide)
          refine lv_aload_n hx hb dX3_firstMate_54 rfl (lv_at hl 0 rfl) ?_
          refine lv_iload_n hx hb dX3_firstMate_55 rfl (lv_at hl 1 rfl) ?_
          refine lv_iconst (v := 1) hx hb dX3_firstMate_56 (by decide) ?_
          refine lv_iload hx hb dX3_firstMate_57 (lv_at hl 4 rfl) ?_
          refine wk_ishl1 (f := 2048) hx hb dX3_firstMate_59 g36115 (by decide) (fun r36122 hr36122 qr36122 => ?_)
          refine lv_iconst (v := (-1)) hx hb dX3_firstMate_60 (by decide) ?_
          refine lv_ixor hx hb dX3_firstMate_61 ?_
          refine wk_topP (P := fun r => r = r36122 ^^^ ((-1) : Int32)) rfl (fun r36123 qr36123 => ?_)
          refine lv_iand hx hb dX3_firstMate_62 ?_
          refine wk_topP (P := fun r => r = y32_l3 &&& r36123) rfl (fun r36124 qr36124 => ?_)
          refine wk_qi (wX cI cS a na nc N L) u (As := [.int r36124]) (rest := []) ⟨hx, hb, hml, hown, hts⟩ (k_X3_best l D cI cS _ a na nc N L u hL hN r36124) hKK hP hD hS hA 7 (ci := 3) rfl rfl (cwV 1 hts gX3_firstMate_X3_best rfl rfl rfl (by decide +kernel) ⟨Nat.le_of_ble_eq_true rfl, Nat.le_of_ble_eq_true rfl⟩) rfl hl.1 rfl (Nat.le_of_ble_eq_true rfl) dX3_firstMate_63 ⟨Nat.le_of_ble_eq_true rfl, Nat.le_of_ble_eq_true rfl⟩ (fun r36125 u H locs hr36125 hP hD hS => ?_)
          refine lv_iload hx hb dX3_firstMate_66 (lv_at hl 3 rfl) ?_
          refine lv_icmp_ne (tgt := 74) hx hb dX3_firstMate_68 (by decide) (fun c36126 => ?_) (fun c36126 => ?_)
          · refine wk_iinc (lv' := fun r => [(6, .int r), (0, .ref (a 7)), (3, .int y32_l3), (4, .int y32_l4), (5, .int y32_l5)]) (e1 := 1) (f := 12) hx hb dX3_firstMate_74 hl (k := 4) rfl (by decide) g36115 (by decide) (fun _ => rfl) (fun r36127 ls hr36127 er36127 hl => ?_)
            refine lv_goto (tgt := 32) hx hb dX3_firstMate_77 (by decide) ?_
            exact ih32 y32_l3 y32_l4 y32_l5 r36127 u _ _ ls g32_l5 (show Rg 0 12 r36127 from rg_w hr36127 (by decide) (by decide)) hP hD hS (lv_sub (l' := [(0, .ref (a 7)), (3, .int y32_l3), (4, .int y32_l4), (5, .int y32_l5), (6, .int r36127)]) hl [1, 2, 3, 4, 0] rfl) (me_up hm32 er36127 (by decide))
          · have g36128 : Rg 0 65548 r36125 := wk_eql hr36125.1 g32_l5 c36126 (by decide)
            have g36129 : Rg 0 65548 y32_l5 := wk_eqr hr36125.1 g32_l5 c36126 (by decide)
            refine lv_iload hx hb dX3_firstMate_71 (lv_at hl 4 rfl) ?_
            subst hAe
            exact W.iret (v := y32_l6) hx hb hr (fun t ht hW => ⟨⟨_, u, rfl, ⟨(show Rg (-1) 11 y32_l6 from rg_w g36115 (by decide) (by decide)), trivial⟩, by rw [ht]; exact hP, hD⟩, hS.F ht⟩) hS.2.2 dX3_firstMate_73
  refine lv_iload_n hx hb dX3_firstMate_0 rfl (lv_at hl 2 rfl) ?_
  refine lv_iconst (v := 1) hx hb dX3_firstMate_1 (by decide) ?_
  refine lv_iload_n hx hb dX3_firstMate_2 rfl (lv_at hl 1 rfl) ?_
  refine lv_ishl hx hb dX3_firstMate_3 ?_
  refine wk_topP (P := fun r => r = (1 : Int32) <<< (x0 &&& 31)) rfl (fun r36130 qr36130 => ?_)
  refine lv_iconst (v := (-1)) hx hb dX3_firstMate_4 (by decide) ?_
  refine lv_ixor hx hb dX3_firstMate_5 ?_
  refine wk_topP (P := fun r => r = r36130 ^^^ ((-1) : Int32)) rfl (fun r36131 qr36131 => ?_)
  refine lv_iand hx hb dX3_firstMate_6 ?_
  refine wk_topP (P := fun r => r = x1 &&& r36131) rfl (fun r36132 qr36132 => ?_)
  refine lv_istore_n (lv' := [(3, .int r36132), (0, .ref (a 7)), (1, .int x0), (2, .int x1)]) hx hb dX3_firstMate_7 rfl hl (by decide) rfl (fun ls hl => ?_)
  refine lv_aload_n hx hb dX3_firstMate_8 rfl (lv_at hl 1 rfl) ?_
  refine va_get (D := D) (ci := 3) (v := .ref (a 1)) (C := RX3) (T := TX3) (N := 4) hx hb hts hin3 hown hK hP 7 rfl rfl 0 (by decide) (hts (.fieldLink RX3 23 "MissedPoints$Pairs" "net" "LMissedPoints$Net;") (by decide +kernel)) (fun _ h9 => h9) rfl dX3_firstMate_9 ?_
  refine lv_iload_n hx hb dX3_firstMate_12 rfl (lv_at hl 2 rfl) ?_
  refine wk_sv 1 (As := [.int x0]) (rest := []) ⟨hx, hb, hml, hown, hts⟩ (k_X2_near l D cI cS a na nc N L u hL hN x0) hKK hP (ci := 2) rfl rfl (cwV 1 hts gX3_firstMate_X2_near rfl rfl rfl (by decide +kernel) ⟨Nat.le_of_ble_eq_true rfl, Nat.le_of_ble_eq_true rfl⟩) rfl hl.1 rfl (Nat.le_of_ble_eq_true rfl) dX3_firstMate_13 ⟨Nat.le_of_ble_eq_true rfl, Nat.le_of_ble_eq_true rfl⟩ (fun r36133 hr36133 => ?_)
  refine lv_iload_n hx hb dX3_firstMate_16 rfl (lv_at hl 0 rfl) ?_
  refine lv_iand hx hb dX3_firstMate_17 ?_
  refine wk_topP (P := fun r => r = r36133 &&& r36132) rfl (fun r36134 qr36134 => ?_)
  refine lv_istore (lv' := [(4, .int r36134), (3, .int r36132), (0, .ref (a 7)), (1, .int x0), (2, .int x1)]) hx hb dX3_firstMate_18 hl (by decide) rfl (fun ls hl => ?_)
  refine lv_aload_n hx hb dX3_firstMate_20 rfl (lv_at hl 2 rfl) ?_
  refine lv_iload_n hx hb dX3_firstMate_21 rfl (lv_at hl 4 rfl) ?_
  refine wk_qi (wX cI cS a na nc N L) u (As := [.int x1]) (rest := []) ⟨hx, hb, hml, hown, hts⟩ (k_X3_best l D cI cS _ a na nc N L u hL hN x1) hKK hP hD hS hA 7 (ci := 3) rfl rfl (cwV 1 hts gX3_firstMate_X3_best rfl rfl rfl (by decide +kernel) ⟨Nat.le_of_ble_eq_true rfl, Nat.le_of_ble_eq_true rfl⟩) rfl hl.1 rfl (Nat.le_of_ble_eq_true rfl) dX3_firstMate_22 ⟨Nat.le_of_ble_eq_true rfl, Nat.le_of_ble_eq_true rfl⟩ (fun r36135 u H locs hr36135 hP hD hS => ?_)
  refine lv_iconst (v := 1) hx hb dX3_firstMate_25 (by decide) ?_
  refine wk_isub (e1 := (-1)) (f := 65548) hx hb dX3_firstMate_26 hr36135.1 (by decide : Rg 1 1 (1 : Int32)) (by decide) (fun r36136 hr36136 er36136 qr36136 => ?_)
  refine lv_istore (lv' := [(5, .int r36136), (4, .int r36134), (3, .int r36132), (0, .ref (a 7)), (1, .int x0), (2, .int x1)]) hx hb dX3_firstMate_27 hl (by decide) rfl (fun ls hl => ?_)
  refine lv_iconst (v := 0) hx hb dX3_firstMate_29 (by decide) ?_
  refine lv_istore (lv' := [(6, .int 0), (5, .int r36136), (4, .int r36134), (3, .int r36132), (0, .ref (a 7)), (1, .int x0), (2, .int x1)]) hx hb dX3_firstMate_30 hl (by decide) rfl (fun ls hl => ?_)
  exact lp32 13 r36132 r36134 r36136 (0 : Int32) u _ _ ls hr36136 (by decide : Rg 0 12 (0 : Int32)) hP hD hS (lv_sub (l' := [(0, .ref (a 7)), (3, .int r36132), (4, .int r36134), (5, .int r36136), (6, .int 0)]) hl [4, 3, 2, 1, 0] rfl) (me_i (by decide : Rg 0 12 (0 : Int32)) (by decide))
set_option maxRecDepth 20000 in
theorem ggX3_layFirst_X3_firstMate : GoodIn wsX3_layFirst wsX3_firstMate := goodIn_r _ [12, 1, 13, 14, 15, 5, 16, 17, 18, 19, 20, 21, 7, 22, 23, 24, 11, 25, 26, 27, 28, 29, 30, 31, 32, 33, 34, 35, 36, 37, 38, 39, 40, 41, 42, 43, 44, 45, 46, 47, 48, 49, 50, 51, 52, 53, 54, 55, 56, 57, 58, 59, 60, 61, 62, 63, 64, 65, 66, 67, 68, 69, 70, 71, 72] (by decide +kernel) (by decide +kernel)
set_option maxRecDepth 20000 in
theorem gX3_layFirst_X3_firstMate : GoodIn wsX3_layFirst (wsV RX3 94 RX3 yX3_firstMate wsX3_firstMate) := goodIn_app (goodIn_of _ (by decide +kernel)) ggX3_layFirst_X3_firstMate
theorem dX3_layFirst_100 : decode cX3_layFirst 100 = .ok (.iconst (-1), 1) := by decide +kernel
theorem dX3_layFirst_101 : decode cX3_layFirst 101 = .ok (.ixor, 1) := by decide +kernel
theorem dX3_layFirst_102 : decode cX3_layFirst 102 = .ok (.iand, 1) := by decide +kernel
theorem dX3_layFirst_103 : decode cX3_layFirst 103 = .ok (.istore_n 2, 1) := by decide +kernel
theorem dX3_layFirst_104 : decode cX3_layFirst 104 = .ok (.iinc 3 1, 3) := by decide +kernel
theorem dX3_layFirst_107 : decode cX3_layFirst 107 = .ok (.goto (-79), 3) := by decide +kernel
theorem dX3_layFirst_39 : decode cX3_layFirst 39 = .ok (.iload_n 3, 1) := by decide +kernel
theorem dX3_layFirst_40 : decode cX3_layFirst 40 = .ok (.aload_n 1, 1) := by decide +kernel
theorem dX3_layFirst_41 : decode cX3_layFirst 41 = .ok (.arraylength, 1) := by decide +kernel
theorem dX3_layFirst_42 : decode cX3_layFirst 42 = .ok (.if_icmp .ge 68, 3) := by decide +kernel
theorem dX3_layFirst_45 : decode cX3_layFirst 45 = .ok (.iload_n 2, 1) := by decide +kernel
theorem dX3_layFirst_46 : decode cX3_layFirst 46 = .ok (.iload_n 3, 1) := by decide +kernel
theorem dX3_layFirst_47 : decode cX3_layFirst 47 = .ok (.ishr, 1) := by decide +kernel
theorem dX3_layFirst_48 : decode cX3_layFirst 48 = .ok (.iconst 1, 1) := by decide +kernel
theorem dX3_layFirst_49 : decode cX3_layFirst 49 = .ok (.iand, 1) := by decide +kernel
theorem dX3_layFirst_50 : decode cX3_layFirst 50 = .ok (.ifCond .eq 12, 3) := by decide +kernel
theorem dX3_layFirst_53 : decode cX3_layFirst 53 = .ok (.aload_n 0, 1) := by decide +kernel
theorem dX3_layFirst_54 : decode cX3_layFirst 54 = .ok (.iload_n 3, 1) := by decide +kernel
theorem dX3_layFirst_55 : decode cX3_layFirst 55 = .ok (.iload_n 2, 1) := by decide +kernel
theorem dX3_layFirst_56 : decode cX3_layFirst 56 = .ok (.invokevirtual 94, 3) := by decide +kernel
theorem dX3_layFirst_59 : decode cX3_layFirst 59 = .ok (.goto 4, 3) := by decide +kernel
theorem dX3_layFirst_62 : decode cX3_layFirst 62 = .ok (.iconst (-1), 1) := by decide +kernel
theorem dX3_layFirst_63 : decode cX3_layFirst 63 = .ok (.istore 4, 2) := by decide +kernel
theorem dX3_layFirst_65 : decode cX3_layFirst 65 = .ok (.iload_n 2, 1) := by decide +kernel
theorem dX3_layFirst_66 : decode cX3_layFirst 66 = .ok (.iconst 1, 1) := by decide +kernel
theorem dX3_layFirst_67 : decode cX3_layFirst 67 = .ok (.iload_n 3, 1) := by decide +kernel
theorem dX3_layFirst_68 : decode cX3_layFirst 68 = .ok (.ishl, 1) := by decide +kernel
theorem dX3_layFirst_69 : decode cX3_layFirst 69 = .ok (.iconst (-1), 1) := by decide +kernel
theorem dX3_layFirst_70 : decode cX3_layFirst 70 = .ok (.ixor, 1) := by decide +kernel
theorem dX3_layFirst_71 : decode cX3_layFirst 71 = .ok (.iand, 1) := by decide +kernel
theorem dX3_layFirst_72 : decode cX3_layFirst 72 = .ok (.istore_n 2, 1) := by decide +kernel
theorem dX3_layFirst_73 : decode cX3_layFirst 73 = .ok (.iload 4, 2) := by decide +kernel
theorem dX3_layFirst_75 : decode cX3_layFirst 75 = .ok (.ifCond .lt 29, 3) := by decide +kernel
theorem dX3_layFirst_78 : decode cX3_layFirst 78 = .ok (.iload 4, 2) := by decide +kernel
theorem dX3_layFirst_80 : decode cX3_layFirst 80 = .ok (.aload_n 1, 1) := by decide +kernel
theorem dX3_layFirst_81 : decode cX3_layFirst 81 = .ok (.arraylength, 1) := by decide +kernel
theorem dX3_layFirst_82 : decode cX3_layFirst 82 = .ok (.if_icmp .ge 22, 3) := by decide +kernel
theorem dX3_layFirst_85 : decode cX3_layFirst 85 = .ok (.aload_n 1, 1) := by decide +kernel
theorem dX3_layFirst_86 : decode cX3_layFirst 86 = .ok (.iload_n 3, 1) := by decide +kernel
theorem dX3_layFirst_87 : decode cX3_layFirst 87 = .ok (.iload 4, 2) := by decide +kernel
theorem dX3_layFirst_89 : decode cX3_layFirst 89 = .ok (.iastore, 1) := by decide +kernel
theorem dX3_layFirst_90 : decode cX3_layFirst 90 = .ok (.aload_n 1, 1) := by decide +kernel
theorem dX3_layFirst_91 : decode cX3_layFirst 91 = .ok (.iload 4, 2) := by decide +kernel
theorem dX3_layFirst_93 : decode cX3_layFirst 93 = .ok (.iload_n 3, 1) := by decide +kernel
theorem dX3_layFirst_94 : decode cX3_layFirst 94 = .ok (.iastore, 1) := by decide +kernel
theorem dX3_layFirst_95 : decode cX3_layFirst 95 = .ok (.iload_n 2, 1) := by decide +kernel
theorem dX3_layFirst_96 : decode cX3_layFirst 96 = .ok (.iconst 1, 1) := by decide +kernel
theorem dX3_layFirst_97 : decode cX3_layFirst 97 = .ok (.iload 4, 2) := by decide +kernel
theorem dX3_layFirst_99 : decode cX3_layFirst 99 = .ok (.ishl, 1) := by decide +kernel
set_option maxHeartbeats 4000000 in
set_option maxRecDepth 100000 in
theorem k_X3_layFirst (l : Launch) (D : va_G) (cI cS : ClassId) (sz : Nat) (a : Nat → Nat) (na nc N : Nat) (L u0 : SU) (hL : TyX L) (hN : N = 0 ∨ N = 24576) : Met l yX3_layFirst wsX3_layFirst ({ frames := 17, cells := 0, slots := 0, locals := 680 }) (PQ D cI cS (wX cI cS a na nc N L u0) sz [.ref (a 7), .ref (a 35)]) (QE (S := SU) D (wX cI cS a na nc N L u0) (wX cI cS a na nc N L) sz (fun _ => True)) 0 0 (va_A (wX cI cS a na nc N L u0) sz) := by
  refine Met.ofW (cc := cX3_layFirst) (maxL := 5) (ret := none) (by decide) rfl ?_
  intro p e s m args below meth c s₁ B hml hv
  obtain ⟨rfl, hsz, hP, hKK, hD0⟩ := hv
  have hx := B.exec
  have hb := B.bytes
  have hr := B.returns
  have hts := atoms_spec (ws := wsX3_layFirst) B.pre
  have hown : s.vm.findClass RX3 = some m.cls := findClass_of_methodNamed B.named
  have hlocks := B.notSynchronized
  have hK := hKK.1
  have hin2 : ∀ w ∈ wsX20, w ∈ wsX3_layFirst := by decide +kernel
  have hin3 : ∀ w ∈ wsX30, w ∈ wsX3_layFirst := by decide +kernel
  subst hsz
  have hD := hD0.self (sz := s.heap.size)
  obtain ⟨A, hAe⟩ : ∃ A, A = va_A (wX cI cS a na nc N L u0) s.heap.size := ⟨_, rfl⟩
  rw [← hAe] at hD
  have hA : ∀ q : Nat, s.heap.size ≤ q → A q := fun q h => by rw [hAe]; exact Or.inr h
  have hS : va_S A s.heap s.heap [] := va_S.rf
  have hl := lv_entry ([.ref (a 7), .ref (a 35)]) (n := 5) (Nat.le_of_ble_eq_true rfl)
  rw [lg_entry_eq]
  generalize (lg_sl ([.ref (a 7), .ref (a 35)]) ++ List.replicate (5 - (lg_sl ([.ref (a 7), .ref (a 35)])).length) Slot.unset).toArray = ls at hl ⊢
  have hl : lv_has ls 5 [(0, .ref (a 7)), (1, .ref (a 35))] := hl
  obtain ⟨u, hu9⟩ : ∃ u : SU, u = u0 := ⟨_, rfl⟩
  rw [← hu9] at hP hD
  have lp28 : ∀ (n28 : Nat) (y28_l2 : Int32) (y28_l3 : Int32) (u : SU) (H : Heap) (locs : List Loc) (ls : Array Slot), Rg 0 4095 y28_l2 → Rg 0 12 y28_l3 → va_P D cls (wX cI cS a na nc N L u) H → va_D A (wX cI cS a na nc N L u) → va_S A s.heap H locs → lv_has ls 5 [(0, .ref (a 7)), (1, .ref (a 35)), (2, .int y28_l2), (3, .int y28_l3)] → 12 - y28_l3.toInt < (n28 : Int) → W p l e (headSpec wsX3_layFirst ({ frames := 17, cells := 0, slots := 0, locals := 680 })).room s m ([.ref (a 7), .ref (a 35)]).toArray below meth c H locs 0 0 (MQ below (QE (S := SU) D (wX cI cS a na nc N L u0) (wX cI cS a na nc N L) s.heap.size (fun _ => True)) ([.ref (a 7), .ref (a 35)]).toArray s 0 0 (va_A (wX cI cS a na nc N L u0) s.heap.size)) (F0 m 28 ls []) := by
    intro n28
    induction n28 with
    | zero =>
      intro y28_l2 y28_l3 u H locs ls g28_l2 g28_l3 hP hD hS hl hm28
      exact absurd rfl (me_z g28_l3 hm28)
    | succ n28 ih28 =>
      intro y28_l2 y28_l3 u H locs ls g28_l2 g28_l3 hP hD hS hl hm28
      have ct63 : ∀ (y63_s0 : Int32) (u : SU) (H : Heap) (locs : List Loc) (ls : Array Slot), Rg 0 4095 y28_l2 → Rg 0 11 y28_l3 → Rg (-1) 11 y63_s0 → va_P D cls (wX cI cS a na nc N L u) H → va_D A (wX cI cS a na nc N L u) → va_S A s.heap H locs → lv_has ls 5 [(0, .ref (a 7)), (1, .ref (a 35)), (2, .int y28_l2), (3, .int y28_l3)] → W p l e (headSpec wsX3_layFirst ({ frames := 17, cells := 0, slots := 0, locals := 680 })).room s m ([.ref (a 7), .ref (a 35)]).toArray below meth c H locs 0 0 (MQ below (QE (S := SU) D (wX cI cS a na nc N L u0) (wX cI cS a na nc N L) s.heap.size (fun _ => True)) ([.ref (a 7), .ref (a 35)]).toArray s 0 0 (va_A (wX cI cS a na nc N L u0) s.heap.size)) (F0 m 63 ls [.int y63_s0]) := by
        intro y63_s0 u H locs ls g63_l2 g63_l3 g63_s0 hP hD hS hl
        refine lv_istore (lv' := [(4, .int y63_s0), (0, .ref (a 7)), (1, .ref (a 35)), (2, .int y28_l2), (3, .int y28_l3)]) hx hb dX3_layFirst_63 hl (by decide) rfl (fun ls hl => ?_)
        refine lv_iload_n hx hb dX3_layFirst_65 rfl (lv_at hl 3 rfl) ?_
        refine lv_iconst (v := 1) hx hb dX3_layFirst_66 (by decide) ?_
        refine lv_iload_n hx hb dX3_layFirst_67 rfl (lv_at hl 4 rfl) ?_
        refine wk_ishl1 (f := 2048) hx hb dX3_layFirst_68 g63_l3 (by decide) (fun r36431 hr36431 qr36431 => ?_)
        refine lv_iconst (v := (-1)) hx hb dX3_layFirst_69 (by decide) ?_
        refine lv_ixor hx hb dX3_layFirst_70 ?_
        refine wk_topP (P := fun r => r = r36431 ^^^ ((-1) : Int32)) rfl (fun r36432 qr36432 => ?_)
        refine wk_iandl hx hb dX3_layFirst_71 g63_l2 (by decide) (fun r36433 hr36433 qr36433 => ?_)
        refine lv_istore_n (lv' := [(2, .int r36433), (4, .int y63_s0), (0, .ref (a 7)), (1, .ref (a 35)), (3, .int y28_l3)]) hx hb dX3_layFirst_72 rfl hl (by decide) rfl (fun ls hl => ?_)
        refine lv_iload hx hb dX3_layFirst_73 (lv_at hl 1 rfl) ?_
        refine lv_if_lt (tgt := 104) hx hb dX3_layFirst_75 (by decide) (fun c36434 => ?_) (fun c36434 => ?_)
        · have g36435 : Rg (-1) (-1) y63_s0 := rg_ltl g63_s0 (by decide : Rg 0 0 (0 : Int32)) c36434 (by decide)
          refine wk_iinc (lv' := fun r => [(3, .int r), (2, .int r36433), (4, .int y63_s0), (0, .ref (a 7)), (1, .ref (a 35))]) (e1 := 1) (f := 12) hx hb dX3_layFirst_104 hl (k := 4) rfl (by decide) g63_l3 (by decide) (fun _ => rfl) (fun r36436 ls hr36436 er36436 hl => ?_)
          refine lv_goto (tgt := 28) hx hb dX3_layFirst_107 (by decide) ?_
          exact ih28 r36433 r36436 u _ _ ls hr36433 (show Rg 0 12 r36436 from rg_w hr36436 (by decide) (by decide)) hP hD hS (lv_sub (l' := [(0, .ref (a 7)), (1, .ref (a 35)), (2, .int r36433), (3, .int r36436)]) hl [3, 4, 1, 0] rfl) (me_up hm28 er36436 (by decide))
        · have g36437 : Rg 0 11 y63_s0 := rg_ler (by decide : Rg 0 0 (0 : Int32)) g63_s0 (rg_nlt c36434) (by decide)
          refine lv_iload hx hb dX3_layFirst_78 (lv_at hl 1 rfl) ?_
          refine lv_aload_n hx hb dX3_layFirst_80 rfl (lv_at hl 3 rfl) ?_
          refine va_alen hx hb hK hP 35 0 rfl rfl (v := 12) rfl dX3_layFirst_81 ?_
          refine lv_icmp_ge (tgt := 104) hx hb dX3_layFirst_82 (by decide) (fun c36438 => ?_) (fun c36438 => ?_)
          · exact absurd c36438 (wk_nle (by decide : Rg 12 12 (12 : Int32)) g36437 (by decide))
          · refine lv_aload_n hx hb dX3_layFirst_85 rfl (lv_at hl 3 rfl) ?_
            refine lv_iload_n hx hb dX3_layFirst_86 rfl (lv_at hl 4 rfl) ?_
            refine lv_iload hx hb dX3_layFirst_87 (lv_at hl 1 rfl) ?_
            refine ks_ast hx hb hK hP hD hS rfl (k := 35) rfl sx_35 (rg_in g63_l3 (by decide) (by decide)) dX3_layFirst_89 (fun u H locs hP hD hS => ?_)
            refine lv_aload_n hx hb dX3_layFirst_90 rfl (lv_at hl 3 rfl) ?_
            refine lv_iload hx hb dX3_layFirst_91 (lv_at hl 1 rfl) ?_
            refine lv_iload_n hx hb dX3_layFirst_93 rfl (lv_at hl 4 rfl) ?_
            refine ks_ast hx hb hK hP hD hS rfl (k := 35) rfl sx_35 (rg_in g36437 (by decide) (by decide)) dX3_layFirst_94 (fun u H locs hP hD hS => ?_)
            refine lv_iload_n hx hb dX3_layFirst_95 rfl (lv_at hl 0 rfl) ?_
            refine lv_iconst (v := 1) hx hb dX3_layFirst_96 (by decide) ?_
            refine lv_iload hx hb dX3_layFirst_97 (lv_at hl 1 rfl) ?_
            refine wk_ishl1 (f := 2048) hx hb dX3_layFirst_99 g36437 (by decide) (fun r36439 hr36439 qr36439 => ?_)
            refine lv_iconst (v := (-1)) hx hb dX3_layFirst_100 (by decide) ?_
            refine lv_ixor hx hb dX3_layFirst_101 ?_
            refine wk_topP (P := fun r => r = r36439 ^^^ ((-1) : Int32)) rfl (fun r36440 qr36440 => ?_)
            refine wk_iandl hx hb dX3_layFirst_102 hr36433 (by decide) (fun r36441 hr36441 qr36441 => ?_)
            refine lv_istore_n (lv' := [(2, .int r36441), (4, .int y63_s0), (0, .ref (a 7)), (1, .ref (a 35)), (3, .int y28_l3)]) hx hb dX3_layFirst_103 rfl hl (by decide) rfl (fun ls hl => ?_)
            refine wk_iinc (lv' := fun r => [(3, .int r), (2, .int r36441), (4, .int y63_s0), (0, .ref (a 7)), (1, .ref (a 35))]) (e1 := 1) (f := 12) hx hb dX3_layFirst_104 hl (k := 4) rfl (by decide) g63_l3 (by decide) (fun _ => rfl) (fun r36442 ls hr36442 er36442 hl => ?_)
            refine lv_goto (tgt := 28) hx hb dX3_layFirst_107 (by decide) ?_
            exact ih28 r36441 r36442 u _ _ ls hr36441 (show Rg 0 12 r36442 from rg_w hr36442 (by decide) (by decide)) hP hD hS (lv_sub (l' := [(0, .ref (a 7)), (1, .ref (a 35)), (2, .int r36441), (3, .int r36442)]) hl [3, 4, 1, 0] rfl) (me_up hm28 er36442 (by decide))
      refine lv_iload_n hx hb dX3_layFirst_28 rfl (lv_at hl 3 rfl) ?_
      refine lv_aload_n hx hb dX3_layFirst_29 rfl (lv_at hl 0 rfl) ?_
      refine va_get (D := D) (ci := 3) (v := .ref (a 1)) (C := RX3) (T := TX3) (N := 4) hx hb hts hin3 hown hK hP 7 rfl rfl 0 (by decide) (hts (.fieldLink RX3 23 "MissedPoints$Pairs" "net" "LMissedPoints$Net;") (by decide +kernel)) (fun _ h9 => h9) rfl dX3_layFirst_30 ?_
      refine va_getN (D := D) (ci := 2) (v := .int (L 1 1)) (C := RX2) (T := TX2) (N := 3) hx hb hts hin2 hown hK hP 1 rfl rfl 1 (by decide) (va_Nw.use rfl hKK.2.2.2.2.2.2.2.2.2.2.2.2.2.1) (fun _ h9 => h9) rfl dX3_layFirst_33 ?_
      refine lv_icmp_ge (tgt := 110) hx hb dX3_layFirst_36 (by decide) (fun c36443 => ?_) (fun c36443 => ?_)
      · subst hAe
        exact W.vret hx hb hr (fun t ht hW => ⟨⟨u, rfl, trivial, by rw [ht]; exact hP, hD⟩, hS.F ht⟩) hS.2.2 dX3_layFirst_110
      · have g36444 : Rg 1 12 (L 1 1) := rg_ltr g28_l3 hL.1 (rg_nle c36443) (by decide)
        have g36445 : Rg 0 11 y28_l3 := rg_ltl g28_l3 hL.1 (rg_nle c36443) (by decide)
        refine lv_iload_n hx hb dX3_layFirst_39 rfl (lv_at hl 3 rfl) ?_
        refine lv_aload_n hx hb dX3_layFirst_40 rfl (lv_at hl 1 rfl) ?_
        refine va_alen hx hb hK hP 35 0 rfl rfl (v := 12) rfl dX3_layFirst_41 ?_
        refine lv_icmp_ge (tgt := 110) hx hb dX3_layFirst_42 (by decide) (fun c36446 => ?_) (fun c36446 => ?_)
        · exact absurd c36446 (wk_nle (by decide : Rg 12 12 (12 : Int32)) g36445 (by decide))
        · refine lv_iload_n hx hb dX3_layFirst_45 rfl (lv_at hl 2 rfl) ?_
          refine lv_iload_n hx hb dX3_layFirst_46 rfl (lv_at hl 3 rfl) ?_
          refine lv_ishr hx hb dX3_layFirst_47 ?_
          refine wk_topP (P := fun r => r = y28_l2 >>> (y28_l3 &&& 31)) rfl (fun r36447 qr36447 => ?_)
          refine lv_iconst (v := 1) hx hb dX3_layFirst_48 (by decide) ?_
          refine wk_iandr hx hb dX3_layFirst_49 (by decide : Rg 1 1 (1 : Int32)) (by decide) (fun r36448 hr36448 qr36448 => ?_)
          refine lv_if_eq (tgt := 62) hx hb dX3_layFirst_50 (by decide) (fun c36449 => ?_) (fun c36449 => ?_)
          · have g36450 : Rg 0 0 r36448 := wk_eql hr36448 (by decide : Rg 0 0 (0 : Int32)) c36449 (by decide)
            refine lv_iconst (v := (-1)) hx hb dX3_layFirst_62 (by decide) ?_
            exact ct63 (((-1) : Int32)) u _ _ ls g28_l2 g36445 (by decide : Rg (-1) 11 ((-1) : Int32)) hP hD hS (lv_sub (l' := [(0, .ref (a 7)), (1, .ref (a 35)), (2, .int y28_l2), (3, .int y28_l3)]) hl [0, 1, 2, 3] rfl)
          · have g36451 : Rg 1 1 r36448 := rg_ne_lo (k := 0) hr36448 (by decide) c36449 (by decide)
            refine lv_aload_n hx hb dX3_layFirst_53 rfl (lv_at hl 0 rfl) ?_
            refine lv_iload_n hx hb dX3_layFirst_54 rfl (lv_at hl 3 rfl) ?_
            refine lv_iload_n hx hb dX3_layFirst_55 rfl (lv_at hl 2 rfl) ?_
            refine wk_qi (wX cI cS a na nc N L) u (As := [.int y28_l3, .int y28_l2]) (rest := []) ⟨hx, hb, hml, hown, hts⟩ (k_X3_firstMate l D cI cS _ a na nc N L u hL hN y28_l3 y28_l2) hKK hP hD hS hA 7 (ci := 3) rfl rfl (cwV 2 hts gX3_layFirst_X3_firstMate rfl rfl rfl (by decide +kernel) ⟨Nat.le_of_ble_eq_true rfl, Nat.le_of_ble_eq_true rfl⟩) rfl hl.1 rfl (Nat.le_of_ble_eq_true rfl) dX3_layFirst_56 ⟨Nat.le_of_ble_eq_true rfl, Nat.le_of_ble_eq_true rfl⟩ (fun r36452 u H locs hr36452 hP hD hS => ?_)
            refine lv_goto (tgt := 63) hx hb dX3_layFirst_59 (by decide) ?_
            exact ct63 r36452 u _ _ ls g28_l2 g36445 hr36452.1 hP hD hS (lv_sub (l' := [(0, .ref (a 7)), (1, .ref (a 35)), (2, .int y28_l2), (3, .int y28_l3)]) hl [0, 1, 2, 3] rfl)
  have lp10 : ∀ (n10 : Nat) (y10_l2 : Int32) (y10_l3 : Int32) (u : SU) (H : Heap) (locs : List Loc) (ls : Array Slot), Rg 0 4095 y10_l2 → Rg 0 12 y10_l3 → va_P D cls (wX cI cS a na nc N L u) H → va_D A (wX cI cS a na nc N L u) → va_S A s.heap H locs → lv_has ls 5 [(0, .ref (a 7)), (1, .ref (a 35)), (2, .int y10_l2), (3, .int y10_l3)] → 12 - y10_l3.toInt < (n10 : Int) → W p l e (headSpec wsX3_layFirst ({ frames := 17, cells := 0, slots := 0, locals := 680 })).room s m ([.ref (a 7), .ref (a 35)]).toArray below meth c H locs 0 0 (MQ below (QE (S := SU) D (wX cI cS a na nc N L u0) (wX cI cS a na nc N L) s.heap.size (fun _ => True)) ([.ref (a 7), .ref (a 35)]).toArray s 0 0 (va_A (wX cI cS a na nc N L u0) s.heap.size)) (F0 m 10 ls []) := by
    intro n10
    induction n10 with
    | zero =>
      intro y10_l2 y10_l3 u H locs ls g10_l2 g10_l3 hP hD hS hl hm10
      exact absurd rfl (me_z g10_l3 hm10)
    | succ n10 ih10 =>
      intro y10_l2 y10_l3 u H locs ls g10_l2 g10_l3 hP hD hS hl hm10
      refine lv_iload_n hx hb dX3_layFirst_10 rfl (lv_at hl 3 rfl) ?_
      refine lv_aload_n hx hb dX3_layFirst_11 rfl (lv_at hl 1 rfl) ?_
      refine va_alen hx hb hK hP 35 0 rfl rfl (v := 12) rfl dX3_layFirst_12 ?_
      refine lv_icmp_ge (tgt := 26) hx hb dX3_layFirst_13 (by decide) (fun c36453 => ?_) (fun c36453 => ?_)
      · have g36454 : Rg 12 12 y10_l3 := rg_ler (by decide : Rg 12 12 (12 : Int32)) g10_l3 c36453 (by decide)
        refine lv_iconst (v := 0) hx hb dX3_layFirst_26 (by decide) ?_
        refine lv_istore_n (lv' := [(3, .int 0), (0, .ref (a 7)), (1, .ref (a 35)), (2, .int y10_l2)]) hx hb dX3_layFirst_27 rfl hl (by decide) rfl (fun ls hl => ?_)
        exact lp28 13 y10_l2 (0 : Int32) u _ _ ls g10_l2 (by decide : Rg 0 12 (0 : Int32)) hP hD hS (lv_sub (l' := [(0, .ref (a 7)), (1, .ref (a 35)), (2, .int y10_l2), (3, .int 0)]) hl [1, 2, 3, 0] rfl) (me_i (by decide : Rg 0 12 (0 : Int32)) (by decide))
      · have g36455 : Rg 0 11 y10_l3 := rg_ltl g10_l3 (by decide : Rg 12 12 (12 : Int32)) (rg_nle c36453) (by decide)
        refine lv_aload_n hx hb dX3_layFirst_16 rfl (lv_at hl 1 rfl) ?_
        refine lv_iload_n hx hb dX3_layFirst_17 rfl (lv_at hl 3 rfl) ?_
        refine lv_iconst (v := (-1)) hx hb dX3_layFirst_18 (by decide) ?_
        refine ks_ast hx hb hK hP hD hS rfl (k := 35) rfl sx_35 (rg_in g36455 (by decide) (by decide)) dX3_layFirst_19 (fun u H locs hP hD hS => ?_)
        refine wk_iinc (lv' := fun r => [(3, .int r), (0, .ref (a 7)), (1, .ref (a 35)), (2, .int y10_l2)]) (e1 := 1) (f := 12) hx hb dX3_layFirst_20 hl (k := 3) rfl (by decide) g36455 (by decide) (fun _ => rfl) (fun r36456 ls hr36456 er36456 hl => ?_)
        refine lv_goto (tgt := 10) hx hb dX3_layFirst_23 (by decide) ?_
        exact ih10 y10_l2 r36456 u _ _ ls g10_l2 (show Rg 0 12 r36456 from rg_w hr36456 (by decide) (by decide)) hP hD hS (lv_sub (l' := [(0, .ref (a 7)), (1, .ref (a 35)), (2, .int y10_l2), (3, .int r36456)]) hl [1, 2, 3, 0] rfl) (me_up hm10 er36456 (by decide))
  refine lv_aload_n hx hb dX3_layFirst_0 rfl (lv_at hl 0 rfl) ?_
  refine va_get (D := D) (ci := 3) (v := .ref (a 1)) (C := RX3) (T := TX3) (N := 4) hx hb hts hin3 hown hK hP 7 rfl rfl 0 (by decide) (hts (.fieldLink RX3 23 "MissedPoints$Pairs" "net" "LMissedPoints$Net;") (by decide +kernel)) (fun _ h9 => h9) rfl dX3_layFirst_1 ?_
  refine wk_sv 1 (As := []) (rest := []) ⟨hx, hb, hml, hown, hts⟩ (k_X2_all l D cI cS a na nc N L u hL hN) hKK hP (ci := 2) rfl rfl (cwV 0 hts gX3_layFirst_X2_all rfl rfl rfl (by decide +kernel) ⟨Nat.le_of_ble_eq_true rfl, Nat.le_of_ble_eq_true rfl⟩) rfl hl.1 rfl (Nat.le_of_ble_eq_true rfl) dX3_layFirst_4 ⟨Nat.le_of_ble_eq_true rfl, Nat.le_of_ble_eq_true rfl⟩ (fun r36457 hr36457 => ?_)
  refine lv_istore_n (lv' := [(2, .int r36457), (0, .ref (a 7)), (1, .ref (a 35))]) hx hb dX3_layFirst_7 rfl hl (by decide) rfl (fun ls hl => ?_)
  refine lv_iconst (v := 0) hx hb dX3_layFirst_8 (by decide) ?_
  refine lv_istore_n (lv' := [(3, .int 0), (2, .int r36457), (0, .ref (a 7)), (1, .ref (a 35))]) hx hb dX3_layFirst_9 rfl hl (by decide) rfl (fun ls hl => ?_)
  exact lp10 13 r36457 (0 : Int32) u _ _ ls hr36457.1 (by decide : Rg 0 12 (0 : Int32)) hP hD hS (lv_sub (l' := [(0, .ref (a 7)), (1, .ref (a 35)), (2, .int r36457), (3, .int 0)]) hl [2, 3, 1, 0] rfl) (me_i (by decide : Rg 0 12 (0 : Int32)) (by decide))
set_option maxHeartbeats 4000000 in
set_option maxRecDepth 100000 in
theorem k_X4_allOf (l : Launch) (D : va_G) (cI cS : ClassId) (sz : Nat) (a : Nat → Nat) (na nc N : Nat) (L u0 : SU) (hL : TyX L) (hN : N = 0 ∨ N = 24576) (x0 : Int32) : Met l yX4_allOf wsX4_allOf ({ frames := 17, cells := 0, slots := 0, locals := 680 }) (PQ D cI cS (wX cI cS a na nc N L u0) sz [.ref (a 17), .int x0]) (QF (S := SU) D (wX cI cS a na nc N L u0) (wX cI cS a na nc N L) sz (fun r _ => Rg (-2147483648) 2147483647 r ∧ True)) 0 0 (va_A (wX cI cS a na nc N L u0) sz) := by
  refine Met.ofW (cc := cX4_allOf) (maxL := 4) (ret := (some .int)) (by decide) rfl ?_
  intro p e s m args below meth c s₁ B hml hv
  obtain ⟨rfl, hsz, hP, hKK, hD0⟩ := hv
  have hx := B.exec
  have hb := B.bytes
  have hr := B.returns
  have hts := atoms_spec (ws := wsX4_allOf) B.pre
  have hown : s.vm.findClass RX4 = some m.cls := findClass_of_methodNamed B.named
  have hlocks := B.notSynchronized
  have hK := hKK.1
  have hin4 : ∀ w ∈ wsX40, w ∈ wsX4_allOf := by decide +kernel
  subst hsz
  have hD := hD0.self (sz := s.heap.size)
  obtain ⟨A, hAe⟩ : ∃ A, A = va_A (wX cI cS a na nc N L u0) s.heap.size := ⟨_, rfl⟩
  rw [← hAe] at hD
  have hA : ∀ q : Nat, s.heap.size ≤ q → A q := fun q h => by rw [hAe]; exact Or.inr h
  have hS : va_S A s.heap s.heap [] := va_S.rf
  have hl := lv_entry ([.ref (a 17), .int x0]) (n := 4) (Nat.le_of_ble_eq_true rfl)
  rw [lg_entry_eq]
  generalize (lg_sl ([.ref (a 17), .int x0]) ++ List.replicate (4 - (lg_sl ([.ref (a 17), .int x0])).length) Slot.unset).toArray = ls at hl ⊢
  have hl : lv_has ls 4 [(0, .ref (a 17)), (1, .int x0)] := hl
  obtain ⟨u, hu9⟩ : ∃ u : SU, u = u0 := ⟨_, rfl⟩
  rw [← hu9] at hP hD
  refine lv_aload_n hx hb dX4_allOf_0 rfl (lv_at hl 0 rfl) ?_
  refine va_get (D := D) (ci := 4) (v := .ref (a 7)) (C := RX4) (T := TX4) (N := 2) hx hb hts hin4 hown hK hP 17 rfl rfl 1 (by decide) (hts (.fieldLink RX4 15 "MissedPoints$Parting" "pairs" "LMissedPoints$Pairs;") (by decide +kernel)) (fun _ h9 => h9) rfl dX4_allOf_1 ?_
  refine wk_qi (wX cI cS a na nc N L) u (As := []) (rest := []) ⟨hx, hb, hml, hown, hts⟩ (k_X3_loosePoints l D cI cS _ a na nc N L u hL hN) hKK hP hD hS hA 7 (ci := 3) rfl rfl (cwV 0 hts gX4_allOf_X3_loosePoints rfl rfl rfl (by decide +kernel) ⟨Nat.le_of_ble_eq_true rfl, Nat.le_of_ble_eq_true rfl⟩) rfl hl.1 rfl (Nat.le_of_ble_eq_true rfl) dX4_allOf_4 ⟨Nat.le_of_ble_eq_true rfl, Nat.le_of_ble_eq_true rfl⟩ (fun r36470 u H locs hr36470 hP hD hS => ?_)
  refine lv_istore_n (lv' := [(2, .int r36470), (0, .ref (a 17)), (1, .int x0)]) hx hb dX4_allOf_7 rfl hl (by decide) rfl (fun ls hl => ?_)
  refine lv_aload_n hx hb dX4_allOf_8 rfl (lv_at hl 1 rfl) ?_
  refine va_get (D := D) (ci := 4) (v := .ref (a 1)) (C := RX4) (T := TX4) (N := 2) hx hb hts hin4 hown hK hP 17 rfl rfl 0 (by decide) (hts (.fieldLink RX4 9 "MissedPoints$Parting" "net" "LMissedPoints$Net;") (by decide +kernel)) (fun _ h9 => h9) rfl dX4_allOf_9 ?_
  refine lv_iload_n hx hb dX4_allOf_12 rfl (lv_at hl 0 rfl) ?_
  refine wk_sv 1 (As := [.int r36470]) (rest := []) ⟨hx, hb, hml, hown, hts⟩ (k_X2_nearAny l D cI cS a na nc N L u hL hN r36470) hKK hP (ci := 2) rfl rfl (cwV 1 hts gX4_allOf_X2_nearAny rfl rfl rfl (by decide +kernel) ⟨Nat.le_of_ble_eq_true rfl, Nat.le_of_ble_eq_true rfl⟩) rfl hl.1 rfl (Nat.le_of_ble_eq_true rfl) dX4_allOf_13 ⟨Nat.le_of_ble_eq_true rfl, Nat.le_of_ble_eq_true rfl⟩ (fun r36471 hr36471 => ?_)
  refine lv_iload_n hx hb dX4_allOf_16 rfl (lv_at hl 0 rfl) ?_
  refine lv_iconst (v := (-1)) hx hb dX4_allOf_17 (by decide) ?_
  refine lv_ixor hx hb dX4_allOf_18 ?_
  refine wk_topP (P := fun r => r = r36470 ^^^ ((-1) : Int32)) rfl (fun r36472 qr36472 => ?_)
  refine lv_iand hx hb dX4_allOf_19 ?_
  refine wk_topP (P := fun r => r = r36471 &&& r36472) rfl (fun r36473 qr36473 => ?_)
  refine lv_istore_n (lv' := [(3, .int r36473), (2, .int r36470), (0, .ref (a 17)), (1, .int x0)]) hx hb dX4_allOf_20 rfl hl (by decide) rfl (fun ls hl => ?_)
  refine lv_iload_n hx hb dX4_allOf_21 rfl (lv_at hl 3 rfl) ?_
  refine lv_if_ne (tgt := 27) hx hb dX4_allOf_22 (by decide) (fun c36474 => ?_) (fun c36474 => ?_)
  · refine lv_iload_n hx hb dX4_allOf_27 rfl (lv_at hl 3 rfl) ?_
    refine lv_iconst (v := 1) hx hb dX4_allOf_28 (by decide) ?_
    refine lv_icmp_ne (tgt := 36) hx hb dX4_allOf_29 (by decide) (fun c36475 => ?_) (fun c36475 => ?_)
    · refine lv_aload_n hx hb dX4_allOf_36 rfl (lv_at hl 2 rfl) ?_
      refine va_get (D := D) (ci := 4) (v := .ref (a 1)) (C := RX4) (T := TX4) (N := 2) hx hb hts hin4 hown hK hP 17 rfl rfl 0 (by decide) (hts (.fieldLink RX4 9 "MissedPoints$Parting" "net" "LMissedPoints$Net;") (by decide +kernel)) (fun _ h9 => h9) rfl dX4_allOf_37 ?_
      refine wk_sv 1 (As := []) (rest := []) ⟨hx, hb, hml, hown, hts⟩ (k_X2_all l D cI cS a na nc N L u hL hN) hKK hP (ci := 2) rfl rfl (cwV 0 hts gX4_allOf_X2_all rfl rfl rfl (by decide +kernel) ⟨Nat.le_of_ble_eq_true rfl, Nat.le_of_ble_eq_true rfl⟩) rfl hl.1 rfl (Nat.le_of_ble_eq_true rfl) dX4_allOf_40 ⟨Nat.le_of_ble_eq_true rfl, Nat.le_of_ble_eq_true rfl⟩ (fun r36476 hr36476 => ?_)
      refine lv_iload_n hx hb dX4_allOf_43 rfl (lv_at hl 1 rfl) ?_
      refine lv_iload_n hx hb dX4_allOf_44 rfl (lv_at hl 0 rfl) ?_
      refine lv_ior hx hb dX4_allOf_45 ?_
      refine wk_topP (P := fun r => r = r36470 ||| r36473) rfl (fun r36477 qr36477 => ?_)
      refine lv_iconst (v := (-1)) hx hb dX4_allOf_46 (by decide) ?_
      refine lv_ixor hx hb dX4_allOf_47 ?_
      refine wk_topP (P := fun r => r = r36477 ^^^ ((-1) : Int32)) rfl (fun r36478 qr36478 => ?_)
      refine wk_iandl hx hb dX4_allOf_48 hr36476.1 (by decide) (fun r36479 hr36479 qr36479 => ?_)
      subst hAe
      exact W.iret (v := r36479) hx hb hr (fun t ht hW => ⟨⟨_, u, rfl, ⟨(rg_any r36479), trivial⟩, by rw [ht]; exact hP, hD⟩, hS.F ht⟩) hS.2.2 dX4_allOf_49
    · have g36480 : Rg 1 1 x0 := wk_eql (rg_any x0) (by decide : Rg 1 1 (1 : Int32)) c36475 (by decide)
      refine lv_iload_n hx hb dX4_allOf_32 rfl (lv_at hl 0 rfl) ?_
      refine lv_goto (tgt := 49) hx hb dX4_allOf_33 (by decide) ?_
      subst hAe
      exact W.iret (v := r36473) hx hb hr (fun t ht hW => ⟨⟨_, u, rfl, ⟨(rg_any r36473), trivial⟩, by rw [ht]; exact hP, hD⟩, hS.F ht⟩) hS.2.2 dX4_allOf_49
  · have g36481 : Rg 0 0 x0 := wk_eql (rg_any x0) (by decide : Rg 0 0 (0 : Int32)) c36474 (by decide)
    refine lv_iload_n hx hb dX4_allOf_25 rfl (lv_at hl 1 rfl) ?_
    subst hAe
    exact W.iret (v := r36470) hx hb hr (fun t ht hW => ⟨⟨_, u, rfl, ⟨(rg_any r36470), trivial⟩, by rw [ht]; exact hP, hD⟩, hS.F ht⟩) hS.2.2 dX4_allOf_26
set_option maxRecDepth 20000 in
theorem ggX4_markOf_X2_near : GoodIn wsX4_markOf wsX2_near := goodIn_r _ [60, 61, 62, 63, 64, 12, 65, 14, 72, 73, 74] (by decide +kernel) (by decide +kernel)
set_option maxRecDepth 20000 in
theorem gX4_markOf_X2_near : GoodIn wsX4_markOf (wsV RX4 34 RX2 yX2_near wsX2_near) := goodIn_app (goodIn_of _ (by decide +kernel)) ggX4_markOf_X2_near
set_option maxRecDepth 20000 in
theorem ggX4_markOf_X3_loosePoints : GoodIn wsX4_markOf wsX3_loosePoints := goodIn_r _ [7, 8, 9, 10, 11, 12, 13, 14, 15, 16, 17, 6, 18, 19, 20, 21, 22, 23, 24, 25, 26, 27, 28, 29, 30, 31, 32, 33, 34, 35, 36, 37, 38, 39, 40, 41, 42, 43, 44, 45, 46, 47, 48, 49, 50, 51, 52, 53, 54, 55, 56, 68, 69, 70, 71, 72, 73, 74, 75, 76] (by decide +kernel) (by decide +kernel)
set_option maxRecDepth 20000 in
theorem gX4_markOf_X3_loosePoints : GoodIn wsX4_markOf (wsV RX4 19 RX3 yX3_loosePoints wsX3_loosePoints) := goodIn_app (goodIn_of _ (by decide +kernel)) ggX4_markOf_X3_loosePoints
theorem dX4_markOf_0 : decode cX4_markOf 0 = .ok (.aload_n 0, 1) := by decide +kernel
theorem dX4_markOf_1 : decode cX4_markOf 1 = .ok (.getfield 15, 3) := by decide +kernel
theorem dX4_markOf_10 : decode cX4_markOf 10 = .ok (.ishr, 1) := by decide +kernel
theorem dX4_markOf_11 : decode cX4_markOf 11 = .ok (.iconst 1, 1) := by decide +kernel
theorem dX4_markOf_12 : decode cX4_markOf 12 = .ok (.iand, 1) := by decide +kernel
theorem dX4_markOf_13 : decode cX4_markOf 13 = .ok (.ifCond .eq 5, 3) := by decide +kernel
theorem dX4_markOf_16 : decode cX4_markOf 16 = .ok (.iconst 0, 1) := by decide +kernel
theorem dX4_markOf_17 : decode cX4_markOf 17 = .ok (.ireturn, 1) := by decide +kernel
theorem dX4_markOf_18 : decode cX4_markOf 18 = .ok (.aload_n 0, 1) := by decide +kernel
theorem dX4_markOf_19 : decode cX4_markOf 19 = .ok (.getfield 9, 3) := by decide +kernel
theorem dX4_markOf_22 : decode cX4_markOf 22 = .ok (.iload_n 1, 1) := by decide +kernel
theorem dX4_markOf_23 : decode cX4_markOf 23 = .ok (.invokevirtual 34, 3) := by decide +kernel
theorem dX4_markOf_26 : decode cX4_markOf 26 = .ok (.iload_n 2, 1) := by decide +kernel
theorem dX4_markOf_27 : decode cX4_markOf 27 = .ok (.iand, 1) := by decide +kernel
theorem dX4_markOf_28 : decode cX4_markOf 28 = .ok (.ifCond .eq 7, 3) := by decide +kernel
theorem dX4_markOf_31 : decode cX4_markOf 31 = .ok (.iconst 1, 1) := by decide +kernel
theorem dX4_markOf_32 : decode cX4_markOf 32 = .ok (.goto 4, 3) := by decide +kernel
theorem dX4_markOf_35 : decode cX4_markOf 35 = .ok (.iconst 2, 1) := by decide +kernel
theorem dX4_markOf_36 : decode cX4_markOf 36 = .ok (.ireturn, 1) := by decide +kernel
theorem dX4_markOf_4 : decode cX4_markOf 4 = .ok (.invokevirtual 19, 3) := by decide +kernel
theorem dX4_markOf_7 : decode cX4_markOf 7 = .ok (.istore_n 2, 1) := by decide +kernel
theorem dX4_markOf_8 : decode cX4_markOf 8 = .ok (.iload_n 2, 1) := by decide +kernel
theorem dX4_markOf_9 : decode cX4_markOf 9 = .ok (.iload_n 1, 1) := by decide +kernel
set_option maxHeartbeats 4000000 in
set_option maxRecDepth 100000 in
theorem k_X4_markOf (l : Launch) (D : va_G) (cI cS : ClassId) (sz : Nat) (a : Nat → Nat) (na nc N : Nat) (L u0 : SU) (hL : TyX L) (hN : N = 0 ∨ N = 24576) (x0 : Int32) : Met l yX4_markOf wsX4_markOf ({ frames := 17, cells := 0, slots := 0, locals := 680 }) (PQ D cI cS (wX cI cS a na nc N L u0) sz [.ref (a 17), .int x0]) (QF (S := SU) D (wX cI cS a na nc N L u0) (wX cI cS a na nc N L) sz (fun r _ => Rg 0 2 r ∧ True)) 0 0 (va_A (wX cI cS a na nc N L u0) sz) := by
  refine Met.ofW (cc := cX4_markOf) (maxL := 3) (ret := (some .int)) (by decide) rfl ?_
  intro p e s m args below meth c s₁ B hml hv
  obtain ⟨rfl, hsz, hP, hKK, hD0⟩ := hv
  have hx := B.exec
  have hb := B.bytes
  have hr := B.returns
  have hts := atoms_spec (ws := wsX4_markOf) B.pre
  have hown : s.vm.findClass RX4 = some m.cls := findClass_of_methodNamed B.named
  have hlocks := B.notSynchronized
  have hK := hKK.1
  have hin4 : ∀ w ∈ wsX40, w ∈ wsX4_markOf := by decide +kernel
  subst hsz
  have hD := hD0.self (sz := s.heap.size)
  obtain ⟨A, hAe⟩ : ∃ A, A = va_A (wX cI cS a na nc N L u0) s.heap.size := ⟨_, rfl⟩
  rw [← hAe] at hD
  have hA : ∀ q : Nat, s.heap.size ≤ q → A q := fun q h => by rw [hAe]; exact Or.inr h
  have hS : va_S A s.heap s.heap [] := va_S.rf
  have hl := lv_entry ([.ref (a 17), .int x0]) (n := 3) (Nat.le_of_ble_eq_true rfl)
  rw [lg_entry_eq]
  generalize (lg_sl ([.ref (a 17), .int x0]) ++ List.replicate (3 - (lg_sl ([.ref (a 17), .int x0])).length) Slot.unset).toArray = ls at hl ⊢
  have hl : lv_has ls 3 [(0, .ref (a 17)), (1, .int x0)] := hl
  obtain ⟨u, hu9⟩ : ∃ u : SU, u = u0 := ⟨_, rfl⟩
  rw [← hu9] at hP hD
  refine lv_aload_n hx hb dX4_markOf_0 rfl (lv_at hl 0 rfl) ?_
  refine va_get (D := D) (ci := 4) (v := .ref (a 7)) (C := RX4) (T := TX4) (N := 2) hx hb hts hin4 hown hK hP 17 rfl rfl 1 (by decide) (hts (.fieldLink RX4 15 "MissedPoints$Parting" "pairs" "LMissedPoints$Pairs;") (by decide +kernel)) (fun _ h9 => h9) rfl dX4_markOf_1 ?_
  refine wk_qi (wX cI cS a na nc N L) u (As := []) (rest := []) ⟨hx, hb, hml, hown, hts⟩ (k_X3_loosePoints l D cI cS _ a na nc N L u hL hN) hKK hP hD hS hA 7 (ci := 3) rfl rfl (cwV 0 hts gX4_markOf_X3_loosePoints rfl rfl rfl (by decide +kernel) ⟨Nat.le_of_ble_eq_true rfl, Nat.le_of_ble_eq_true rfl⟩) rfl hl.1 rfl (Nat.le_of_ble_eq_true rfl) dX4_markOf_4 ⟨Nat.le_of_ble_eq_true rfl, Nat.le_of_ble_eq_true rfl⟩ (fun r36493 u H locs hr36493 hP hD hS => ?_)
  refine lv_istore_n (lv' := [(2, .int r36493), (0, .ref (a 17)), (1, .int x0)]) hx hb dX4_markOf_7 rfl hl (by decide) rfl (fun ls hl => ?_)
  refine lv_iload_n hx hb dX4_markOf_8 rfl (lv_at hl 0 rfl) ?_
  refine lv_iload_n hx hb dX4_markOf_9 rfl (lv_at hl 2 rfl) ?_
  refine lv_ishr hx hb dX4_markOf_10 ?_
  refine wk_topP (P := fun r => r = r36493 >>> (x0 &&& 31)) rfl (fun r36494 qr36494 => ?_)
  refine lv_iconst (v := 1) hx hb dX4_markOf_11 (by decide) ?_
  refine wk_iandr hx hb dX4_markOf_12 (by decide : Rg 1 1 (1 : Int32)) (by decide) (fun r36495 hr36495 qr36495 => ?_)
  refine lv_if_eq (tgt := 18) hx hb dX4_markOf_13 (by decide) (fun c36496 => ?_) (fun c36496 => ?_)
  · have g36497 : Rg 0 0 r36495 := wk_eql hr36495 (by decide : Rg 0 0 (0 : Int32)) c36496 (by decide)
    refine lv_aload_n hx hb dX4_markOf_18 rfl (lv_at hl 1 rfl) ?_
    refine va_get (D := D) (ci := 4) (v := .ref (a 1)) (C := RX4) (T := TX4) (N := 2) hx hb hts hin4 hown hK hP 17 rfl rfl 0 (by decide) (hts (.fieldLink RX4 9 "MissedPoints$Parting" "net" "LMissedPoints$Net;") (by decide +kernel)) (fun _ h9 => h9) rfl dX4_markOf_19 ?_
    refine lv_iload_n hx hb dX4_markOf_22 rfl (lv_at hl 2 rfl) ?_
    refine wk_sv 1 (As := [.int x0]) (rest := []) ⟨hx, hb, hml, hown, hts⟩ (k_X2_near l D cI cS a na nc N L u hL hN x0) hKK hP (ci := 2) rfl rfl (cwV 1 hts gX4_markOf_X2_near rfl rfl rfl (by decide +kernel) ⟨Nat.le_of_ble_eq_true rfl, Nat.le_of_ble_eq_true rfl⟩) rfl hl.1 rfl (Nat.le_of_ble_eq_true rfl) dX4_markOf_23 ⟨Nat.le_of_ble_eq_true rfl, Nat.le_of_ble_eq_true rfl⟩ (fun r36498 hr36498 => ?_)
    refine lv_iload_n hx hb dX4_markOf_26 rfl (lv_at hl 0 rfl) ?_
    refine wk_iandr hx hb dX4_markOf_27 hr36493.1 (by decide) (fun r36499 hr36499 qr36499 => ?_)
    refine lv_if_eq (tgt := 35) hx hb dX4_markOf_28 (by decide) (fun c36500 => ?_) (fun c36500 => ?_)
    · have g36501 : Rg 0 0 r36499 := wk_eql hr36499 (by decide : Rg 0 0 (0 : Int32)) c36500 (by decide)
      refine lv_iconst (v := 2) hx hb dX4_markOf_35 (by decide) ?_
      subst hAe
      exact W.iret (v := 2) hx hb hr (fun t ht hW => ⟨⟨_, u, rfl, ⟨(by decide : Rg 0 2 (2 : Int32)), trivial⟩, by rw [ht]; exact hP, hD⟩, hS.F ht⟩) hS.2.2 dX4_markOf_36
    · have g36502 : Rg 1 4095 r36499 := rg_ne_lo (k := 0) hr36499 (by decide) c36500 (by decide)
      refine lv_iconst (v := 1) hx hb dX4_markOf_31 (by decide) ?_
      refine lv_goto (tgt := 36) hx hb dX4_markOf_32 (by decide) ?_
      subst hAe
      exact W.iret (v := 1) hx hb hr (fun t ht hW => ⟨⟨_, u, rfl, ⟨(by decide : Rg 0 2 (1 : Int32)), trivial⟩, by rw [ht]; exact hP, hD⟩, hS.F ht⟩) hS.2.2 dX4_markOf_36
  · have g36503 : Rg 1 1 r36495 := rg_ne_lo (k := 0) hr36495 (by decide) c36496 (by decide)
    refine lv_iconst (v := 0) hx hb dX4_markOf_16 (by decide) ?_
    subst hAe
    exact W.iret (v := 0) hx hb hr (fun t ht hW => ⟨⟨_, u, rfl, ⟨(by decide : Rg 0 2 (0 : Int32)), trivial⟩, by rw [ht]; exact hP, hD⟩, hS.F ht⟩) hS.2.2 dX4_markOf_17
set_option maxRecDepth 20000 in
theorem ggX4_surplusOf_X2_firstPiece : GoodIn wsX4_surplusOf wsX2_firstPiece := goodIn_r _ [65, 66, 67, 44, 68, 69, 70, 71, 46] (by decide +kernel) (by decide +kernel)
set_option maxRecDepth 20000 in
theorem gX4_surplusOf_X2_firstPiece : GoodIn wsX4_surplusOf (va_wsS RX4 46 yX2_firstPiece wsX2_firstPiece) := goodIn_app (goodIn_of _ (by decide +kernel)) ggX4_surplusOf_X2_firstPiece
theorem dX4_surplusOf_38 : decode cX4_surplusOf 38 = .ok (.aload_n 0, 1) := by decide +kernel
theorem dX4_surplusOf_39 : decode cX4_surplusOf 39 = .ok (.getfield 9, 3) := by decide +kernel
theorem dX4_surplusOf_42 : decode cX4_surplusOf 42 = .ok (.getfield 42, 3) := by decide +kernel
theorem dX4_surplusOf_45 : decode cX4_surplusOf 45 = .ok (.iload_n 3, 1) := by decide +kernel
theorem dX4_surplusOf_46 : decode cX4_surplusOf 46 = .ok (.invokestatic 46, 3) := by decide +kernel
theorem dX4_surplusOf_49 : decode cX4_surplusOf 49 = .ok (.istore 6, 2) := by decide +kernel
theorem dX4_surplusOf_51 : decode cX4_surplusOf 51 = .ok (.iload_n 3, 1) := by decide +kernel
theorem dX4_surplusOf_52 : decode cX4_surplusOf 52 = .ok (.iload 6, 2) := by decide +kernel
theorem dX4_surplusOf_54 : decode cX4_surplusOf 54 = .ok (.iconst (-1), 1) := by decide +kernel
theorem dX4_surplusOf_55 : decode cX4_surplusOf 55 = .ok (.ixor, 1) := by decide +kernel
theorem dX4_surplusOf_56 : decode cX4_surplusOf 56 = .ok (.iand, 1) := by decide +kernel
theorem dX4_surplusOf_57 : decode cX4_surplusOf 57 = .ok (.istore_n 3, 1) := by decide +kernel
theorem dX4_surplusOf_58 : decode cX4_surplusOf 58 = .ok (.iload 6, 2) := by decide +kernel
theorem dX4_surplusOf_60 : decode cX4_surplusOf 60 = .ok (.iload_n 2, 1) := by decide +kernel
theorem dX4_surplusOf_61 : decode cX4_surplusOf 61 = .ok (.iand, 1) := by decide +kernel
theorem dX4_surplusOf_62 : decode cX4_surplusOf 62 = .ok (.ifCond .eq 6, 3) := by decide +kernel
theorem dX4_surplusOf_65 : decode cX4_surplusOf 65 = .ok (.iinc 4 1, 3) := by decide +kernel
theorem dX4_surplusOf_68 : decode cX4_surplusOf 68 = .ok (.iinc 5 1, 3) := by decide +kernel
theorem dX4_surplusOf_71 : decode cX4_surplusOf 71 = .ok (.goto (-44), 3) := by decide +kernel
set_option maxHeartbeats 4000000 in
set_option maxRecDepth 100000 in
theorem k_X4_surplusOf (l : Launch) (D : va_G) (cI cS : ClassId) (sz : Nat) (a : Nat → Nat) (na nc N : Nat) (L u0 : SU) (hL : TyX L) (hN : N = 0 ∨ N = 24576) (x0 : Int32) : Met l yX4_surplusOf wsX4_surplusOf ({ frames := 17, cells := 0, slots := 0, locals := 680 }) (PQ D cI cS (wX cI cS a na nc N L u0) sz [.ref (a 17), .int x0]) (QF (S := SU) D (wX cI cS a na nc N L u0) (wX cI cS a na nc N L) sz (fun r _ => Rg (-2147483648) 2147483647 r ∧ True)) 0 0 (va_A (wX cI cS a na nc N L u0) sz) := by
  refine Met.ofW (cc := cX4_surplusOf) (maxL := 7) (ret := (some .int)) (by decide) rfl ?_
  intro p e s m args below meth c s₁ B hml hv
  obtain ⟨rfl, hsz, hP, hKK, hD0⟩ := hv
  have hx := B.exec
  have hb := B.bytes
  have hr := B.returns
  have hts := atoms_spec (ws := wsX4_surplusOf) B.pre
  have hown : s.vm.findClass RX4 = some m.cls := findClass_of_methodNamed B.named
  have hlocks := B.notSynchronized
  have hK := hKK.1
  have hin2 : ∀ w ∈ wsX20, w ∈ wsX4_surplusOf := by decide +kernel
  have hin4 : ∀ w ∈ wsX40, w ∈ wsX4_surplusOf := by decide +kernel
  subst hsz
  have hD := hD0.self (sz := s.heap.size)
  obtain ⟨A, hAe⟩ : ∃ A, A = va_A (wX cI cS a na nc N L u0) s.heap.size := ⟨_, rfl⟩
  rw [← hAe] at hD
  have hA : ∀ q : Nat, s.heap.size ≤ q → A q := fun q h => by rw [hAe]; exact Or.inr h
  have hS : va_S A s.heap s.heap [] := va_S.rf
  have hl := lv_entry ([.ref (a 17), .int x0]) (n := 7) (Nat.le_of_ble_eq_true rfl)
  rw [lg_entry_eq]
  generalize (lg_sl ([.ref (a 17), .int x0]) ++ List.replicate (7 - (lg_sl ([.ref (a 17), .int x0])).length) Slot.unset).toArray = ls at hl ⊢
  have hl : lv_has ls 7 [(0, .ref (a 17)), (1, .int x0)] := hl
  obtain ⟨u, hu9⟩ : ∃ u : SU, u = u0 := ⟨_, rfl⟩
  rw [← hu9] at hP hD
  have lp27 : ∀ (n27 : Nat) (y27_l2 : Int32) (y27_l3 : Int32) (y27_l4 : Int32) (y27_l5 : Int32) (u : SU) (H : Heap) (locs : List Loc) (ls : Array Slot), Rg 0 4095 y27_l3 → Rg 0 12 y27_l5 → va_P D cls (wX cI cS a na nc N L u) H → va_D A (wX cI cS a na nc N L u) → va_S A s.heap H locs → lv_has ls 7 [(0, .ref (a 17)), (2, .int y27_l2), (3, .int y27_l3), (4, .int y27_l4), (5, .int y27_l5)] → 12 - y27_l5.toInt < (n27 : Int) → W p l e (headSpec wsX4_surplusOf ({ frames := 17, cells := 0, slots := 0, locals := 680 })).room s m ([.ref (a 17), .int x0]).toArray below meth c H locs 0 0 (MQ below (QF (S := SU) D (wX cI cS a na nc N L u0) (wX cI cS a na nc N L) s.heap.size (fun r _ => Rg (-2147483648) 2147483647 r ∧ True)) ([.ref (a 17), .int x0]).toArray s 0 0 (va_A (wX cI cS a na nc N L u0) s.heap.size)) (F0 m 27 ls []) := by
    intro n27
    induction n27 with
    | zero =>
      intro y27_l2 y27_l3 y27_l4 y27_l5 u H locs ls g27_l3 g27_l5 hP hD hS hl hm27
      exact absurd rfl (me_z g27_l5 hm27)
    | succ n27 ih27 =>
      intro y27_l2 y27_l3 y27_l4 y27_l5 u H locs ls g27_l3 g27_l5 hP hD hS hl hm27
      refine lv_iload hx hb dX4_surplusOf_27 (lv_at hl 4 rfl) ?_
      refine lv_bipush (v := 12) hx hb dX4_surplusOf_29 (by decide) ?_
      refine lv_icmp_ge (tgt := 74) hx hb dX4_surplusOf_31 (by decide) (fun c36657 => ?_) (fun c36657 => ?_)
      · have g36658 : Rg 12 12 y27_l5 := rg_ler (by decide : Rg 12 12 (12 : Int32)) g27_l5 c36657 (by decide)
        refine lv_iload hx hb dX4_surplusOf_74 (lv_at hl 3 rfl) ?_
        subst hAe
        exact W.iret (v := y27_l4) hx hb hr (fun t ht hW => ⟨⟨_, u, rfl, ⟨(rg_any y27_l4), trivial⟩, by rw [ht]; exact hP, hD⟩, hS.F ht⟩) hS.2.2 dX4_surplusOf_76
      · have g36659 : Rg 0 11 y27_l5 := rg_ltl g27_l5 (by decide : Rg 12 12 (12 : Int32)) (rg_nle c36657) (by decide)
        refine lv_iload_n hx hb dX4_surplusOf_34 rfl (lv_at hl 2 rfl) ?_
        refine lv_if_eq (tgt := 74) hx hb dX4_surplusOf_35 (by decide) (fun c36660 => ?_) (fun c36660 => ?_)
        · have g36661 : Rg 0 0 y27_l3 := wk_eql g27_l3 (by decide : Rg 0 0 (0 : Int32)) c36660 (by decide)
          refine lv_iload hx hb dX4_surplusOf_74 (lv_at hl 3 rfl) ?_
          subst hAe
          exact W.iret (v := y27_l4) hx hb hr (fun t ht hW => ⟨⟨_, u, rfl, ⟨(rg_any y27_l4), trivial⟩, by rw [ht]; exact hP, hD⟩, hS.F ht⟩) hS.2.2 dX4_surplusOf_76
        · have g36662 : Rg 1 4095 y27_l3 := rg_ne_lo (k := 0) g27_l3 (by decide) c36660 (by decide)
          refine lv_aload_n hx hb dX4_surplusOf_38 rfl (lv_at hl 0 rfl) ?_
          refine va_get (D := D) (ci := 4) (v := .ref (a 1)) (C := RX4) (T := TX4) (N := 2) hx hb hts hin4 hown hK hP 17 rfl rfl 0 (by decide) (hts (.fieldLink RX4 9 "MissedPoints$Parting" "net" "LMissedPoints$Net;") (by decide +kernel)) (fun _ h9 => h9) rfl dX4_surplusOf_39 ?_
          refine va_getN (D := D) (ci := 2) (v := .ref (a 2)) (C := RX2) (T := TX2) (N := 3) hx hb hts hin2 hown hK hP 1 rfl rfl 0 (by decide) (va_Nw.use rfl hKK.2.2.2.2.2.2.2.2.2.2.2.2.2.2.1) (fun _ h9 => h9) rfl dX4_surplusOf_42 ?_
          refine lv_iload_n hx hb dX4_surplusOf_45 rfl (lv_at hl 2 rfl) ?_
          refine lz_ss (As := [.ref (a 2), .int y27_l3]) (rest := []) ⟨hx, hb, hml, hown, hts⟩ (k_X2_firstPiece l D cI cS a na nc N L u hL hN y27_l3) hKK hP (va_cwS 2 hts gX4_surplusOf_X2_firstPiece rfl rfl rfl (by decide +kernel) ⟨Nat.le_of_ble_eq_true rfl, Nat.le_of_ble_eq_true rfl⟩) rfl hl.1 rfl (Nat.le_of_ble_eq_true rfl) dX4_surplusOf_46 ⟨Nat.le_of_ble_eq_true rfl, Nat.le_of_ble_eq_true rfl⟩ (fun r36663 hr36663 => ?_)
          refine lv_istore (lv' := [(6, .int r36663), (0, .ref (a 17)), (2, .int y27_l2), (3, .int y27_l3), (4, .int y27_l4), (5, .int y27_l5)]) hx hb dX4_surplusOf_49 hl (by decide) rfl (fun ls hl => ?_)
          refine lv_iload_n hx hb dX4_surplusOf_51 rfl (lv_at hl 3 rfl) ?_
          refine lv_iload hx hb dX4_surplusOf_52 (lv_at hl 0 rfl) ?_
          refine lv_iconst (v := (-1)) hx hb dX4_surplusOf_54 (by decide) ?_
          refine lv_ixor hx hb dX4_surplusOf_55 ?_
          refine wk_topP (P := fun r => r = r36663 ^^^ ((-1) : Int32)) rfl (fun r36664 qr36664 => ?_)
          refine wk_iandl hx hb dX4_surplusOf_56 g36662 (by decide) (fun r36665 hr36665 qr36665 => ?_)
          refine lv_istore_n (lv' := [(3, .int r36665), (6, .int r36663), (0, .ref (a 17)), (2, .int y27_l2), (4, .int y27_l4), (5, .int y27_l5)]) hx hb dX4_surplusOf_57 rfl hl (by decide) rfl (fun ls hl => ?_)
          refine lv_iload hx hb dX4_surplusOf_58 (lv_at hl 1 rfl) ?_
          refine lv_iload_n hx hb dX4_surplusOf_60 rfl (lv_at hl 3 rfl) ?_
          refine lv_iand hx hb dX4_surplusOf_61 ?_
          refine wk_topP (P := fun r => r = r36663 &&& y27_l2) rfl (fun r36666 qr36666 => ?_)
          refine lv_if_eq (tgt := 68) hx hb dX4_surplusOf_62 (by decide) (fun c36667 => ?_) (fun c36667 => ?_)
          · have g36668 : Rg 0 0 r36666 := wk_eql (rg_any r36666) (by decide : Rg 0 0 (0 : Int32)) c36667 (by decide)
            refine wk_iinc (lv' := fun r => [(5, .int r), (3, .int r36665), (6, .int r36663), (0, .ref (a 17)), (2, .int y27_l2), (4, .int y27_l4)]) (e1 := 1) (f := 12) hx hb dX4_surplusOf_68 hl (k := 5) rfl (by decide) g36659 (by decide) (fun _ => rfl) (fun r36669 ls hr36669 er36669 hl => ?_)
            refine lv_goto (tgt := 27) hx hb dX4_surplusOf_71 (by decide) ?_
            exact ih27 y27_l2 r36665 y27_l4 r36669 u _ _ ls hr36665 (show Rg 0 12 r36669 from rg_w hr36669 (by decide) (by decide)) hP hD hS (lv_sub (l' := [(0, .ref (a 17)), (2, .int y27_l2), (3, .int r36665), (4, .int y27_l4), (5, .int r36669)]) hl [3, 4, 1, 5, 0] rfl) (me_up hm27 er36669 (by decide))
          · refine wk_iincA (lv' := fun r => [(4, .int r), (3, .int r36665), (6, .int r36663), (0, .ref (a 17)), (2, .int y27_l2), (5, .int y27_l5)]) hx hb dX4_surplusOf_65 hl (k := 4) rfl (by decide) (fun _ => rfl) (fun r36670 ls hl => ?_)
            refine wk_iinc (lv' := fun r => [(5, .int r), (4, .int r36670), (3, .int r36665), (6, .int r36663), (0, .ref (a 17)), (2, .int y27_l2)]) (e1 := 1) (f := 12) hx hb dX4_surplusOf_68 hl (k := 5) rfl (by decide) g36659 (by decide) (fun _ => rfl) (fun r36671 ls hr36671 er36671 hl => ?_)
            refine lv_goto (tgt := 27) hx hb dX4_surplusOf_71 (by decide) ?_
            exact ih27 y27_l2 r36665 r36670 r36671 u _ _ ls hr36665 (show Rg 0 12 r36671 from rg_w hr36671 (by decide) (by decide)) hP hD hS (lv_sub (l' := [(0, .ref (a 17)), (2, .int y27_l2), (3, .int r36665), (4, .int r36670), (5, .int r36671)]) hl [4, 5, 2, 1, 0] rfl) (me_up hm27 er36671 (by decide))
  refine lv_aload_n hx hb dX4_surplusOf_0 rfl (lv_at hl 0 rfl) ?_
  refine va_get (D := D) (ci := 4) (v := .ref (a 1)) (C := RX4) (T := TX4) (N := 2) hx hb hts hin4 hown hK hP 17 rfl rfl 0 (by decide) (hts (.fieldLink RX4 9 "MissedPoints$Parting" "net" "LMissedPoints$Net;") (by decide +kernel)) (fun _ h9 => h9) rfl dX4_surplusOf_1 ?_
  refine lv_iload_n hx hb dX4_surplusOf_4 rfl (lv_at hl 1 rfl) ?_
  refine wk_sv 1 (As := [.int x0]) (rest := []) ⟨hx, hb, hml, hown, hts⟩ (k_X2_nearAny l D cI cS a na nc N L u hL hN x0) hKK hP (ci := 2) rfl rfl (cwV 1 hts gX4_surplusOf_X2_nearAny rfl rfl rfl (by decide +kernel) ⟨Nat.le_of_ble_eq_true rfl, Nat.le_of_ble_eq_true rfl⟩) rfl hl.1 rfl (Nat.le_of_ble_eq_true rfl) dX4_surplusOf_5 ⟨Nat.le_of_ble_eq_true rfl, Nat.le_of_ble_eq_true rfl⟩ (fun r36672 hr36672 => ?_)
  refine lv_istore_n (lv' := [(2, .int r36672), (0, .ref (a 17)), (1, .int x0)]) hx hb dX4_surplusOf_8 rfl hl (by decide) rfl (fun ls hl => ?_)
  refine lv_aload_n hx hb dX4_surplusOf_9 rfl (lv_at hl 1 rfl) ?_
  refine va_get (D := D) (ci := 4) (v := .ref (a 7)) (C := RX4) (T := TX4) (N := 2) hx hb hts hin4 hown hK hP 17 rfl rfl 1 (by decide) (hts (.fieldLink RX4 15 "MissedPoints$Parting" "pairs" "LMissedPoints$Pairs;") (by decide +kernel)) (fun _ h9 => h9) rfl dX4_surplusOf_10 ?_
  refine wk_qi (wX cI cS a na nc N L) u (As := []) (rest := []) ⟨hx, hb, hml, hown, hts⟩ (k_X3_loosePoints l D cI cS _ a na nc N L u hL hN) hKK hP hD hS hA 7 (ci := 3) rfl rfl (cwV 0 hts gX4_surplusOf_X3_loosePoints rfl rfl rfl (by decide +kernel) ⟨Nat.le_of_ble_eq_true rfl, Nat.le_of_ble_eq_true rfl⟩) rfl hl.1 rfl (Nat.le_of_ble_eq_true rfl) dX4_surplusOf_13 ⟨Nat.le_of_ble_eq_true rfl, Nat.le_of_ble_eq_true rfl⟩ (fun r36673 u H locs hr36673 hP hD hS => ?_)
  refine lv_istore_n (lv' := [(3, .int r36673), (2, .int r36672), (0, .ref (a 17)), (1, .int x0)]) hx hb dX4_surplusOf_16 rfl hl (by decide) rfl (fun ls hl => ?_)
  refine lv_iload_n hx hb dX4_surplusOf_17 rfl (lv_at hl 3 rfl) ?_
  refine lz_ss (As := [.int x0]) (rest := []) ⟨hx, hb, hml, hown, hts⟩ (k_J6_bitCount_0f7a4 l D cI cS x0) hKK (hP.sub (ws' := []) [] rfl) (va_cwS 1 hts gX4_surplusOf_J6_bitCount_0f7a4 rfl rfl rfl (by decide +kernel) ⟨Nat.le_of_ble_eq_true rfl, Nat.le_of_ble_eq_true rfl⟩) rfl hl.1 rfl (Nat.le_of_ble_eq_true rfl) dX4_surplusOf_18 ⟨Nat.le_of_ble_eq_true rfl, Nat.le_of_ble_eq_true rfl⟩ (fun r36674 hr36674 => ?_)
  refine lv_ineg hx hb dX4_surplusOf_21 ?_
  refine wk_topP (P := fun r => r = -r36674) rfl (fun r36675 qr36675 => ?_)
  refine lv_istore (lv' := [(4, .int r36675), (3, .int r36673), (2, .int r36672), (0, .ref (a 17)), (1, .int x0)]) hx hb dX4_surplusOf_22 hl (by decide) rfl (fun ls hl => ?_)
  refine lv_iconst (v := 0) hx hb dX4_surplusOf_24 (by decide) ?_
  refine lv_istore (lv' := [(5, .int 0), (4, .int r36675), (3, .int r36673), (2, .int r36672), (0, .ref (a 17)), (1, .int x0)]) hx hb dX4_surplusOf_25 hl (by decide) rfl (fun ls hl => ?_)
  exact lp27 13 r36672 r36673 r36675 (0 : Int32) u _ _ ls hr36673.1 (by decide : Rg 0 12 (0 : Int32)) hP hD hS (lv_sub (l' := [(0, .ref (a 17)), (2, .int r36672), (3, .int r36673), (4, .int r36675), (5, .int 0)]) hl [4, 3, 2, 1, 0] rfl) (me_i (by decide : Rg 0 12 (0 : Int32)) (by decide))
set_option maxHeartbeats 4000000 in
set_option maxRecDepth 100000 in
theorem k_X10_oddWithout (l : Launch) (D : va_G) (cI cS : ClassId) (a : Nat → Nat) (na nc N : Nat) (L u : SU) (hL : TyX L) (hN : N = 0 ∨ N = 24576) (x0 : Int32) : Met l yX10_oddWithout wsX10_oddWithout ({ frames := 3, cells := 0, slots := 0, locals := 120 }) (PS D cI cS (wX cI cS a na nc N L u) [.ref (a 18), .int x0]) (vp_Si (fun r => Rg (-2147483648) 2147483647 r ∧ True)) 0 0 (fun _ => False) := by
  refine Met.ofW (cc := cX10_oddWithout) (maxL := 2) (ret := (some .int)) (by decide) rfl ?_
  intro p e s m args below meth c s₁ B hml hv
  obtain ⟨rfl, hP, hKK⟩ := hv
  have hx := B.exec
  have hb := B.bytes
  have hr := B.returns
  have hts := atoms_spec (ws := wsX10_oddWithout) B.pre
  have hown : s.vm.findClass RX10 = some m.cls := findClass_of_methodNamed B.named
  have hlocks := B.notSynchronized
  have hK := hKK.1
  have hin10 : ∀ w ∈ wsX100, w ∈ wsX10_oddWithout := by decide +kernel
  have hl := lv_entry ([.ref (a 18), .int x0]) (n := 2) (Nat.le_of_ble_eq_true rfl)
  rw [lg_entry_eq]
  generalize (lg_sl ([.ref (a 18), .int x0]) ++ List.replicate (2 - (lg_sl ([.ref (a 18), .int x0])).length) Slot.unset).toArray = ls at hl ⊢
  have hl : lv_has ls 2 [(0, .ref (a 18)), (1, .int x0)] := hl
  refine lv_aload_n hx hb dX10_oddWithout_0 rfl (lv_at hl 0 rfl) ?_
  refine va_get (D := D) (ci := 10) (v := .ref (a 1)) (C := RX10) (T := TX10) (N := 8) hx hb hts hin10 hown hK hP 18 rfl rfl 0 (by decide) (hts (.fieldLink RX10 19 "MissedPoints$Witness" "net" "LMissedPoints$Net;") (by decide +kernel)) (fun _ h9 => h9) rfl dX10_oddWithout_1 ?_
  refine lv_aload_n hx hb dX10_oddWithout_4 rfl (lv_at hl 0 rfl) ?_
  refine va_get (D := D) (ci := 10) (v := .ref (a 1)) (C := RX10) (T := TX10) (N := 8) hx hb hts hin10 hown hK hP 18 rfl rfl 0 (by decide) (hts (.fieldLink RX10 19 "MissedPoints$Witness" "net" "LMissedPoints$Net;") (by decide +kernel)) (fun _ h9 => h9) rfl dX10_oddWithout_5 ?_
  refine wk_sv 1 (As := []) (rest := [.ref (a 1)]) ⟨hx, hb, hml, hown, hts⟩ (k_X2_all l D cI cS a na nc N L u hL hN) hKK hP (ci := 2) rfl rfl (cwV 0 hts gX10_oddWithout_X2_all rfl rfl rfl (by decide +kernel) ⟨Nat.le_of_ble_eq_true rfl, Nat.le_of_ble_eq_true rfl⟩) rfl hl.1 rfl (Nat.le_of_ble_eq_true rfl) dX10_oddWithout_8 ⟨Nat.le_of_ble_eq_true rfl, Nat.le_of_ble_eq_true rfl⟩ (fun r36680 hr36680 => ?_)
  refine lv_iload_n hx hb dX10_oddWithout_11 rfl (lv_at hl 1 rfl) ?_
  refine lv_iconst (v := (-1)) hx hb dX10_oddWithout_12 (by decide) ?_
  refine lv_ixor hx hb dX10_oddWithout_13 ?_
  refine wk_topP (P := fun r => r = x0 ^^^ ((-1) : Int32)) rfl (fun r36681 qr36681 => ?_)
  refine wk_iandl hx hb dX10_oddWithout_14 hr36680.1 (by decide) (fun r36682 hr36682 qr36682 => ?_)
  refine wk_sv 1 (As := [.int r36682]) (rest := []) ⟨hx, hb, hml, hown, hts⟩ (k_X2_oddPieceCount l D cI cS a na nc N L u hL hN r36682) hKK hP (ci := 2) rfl rfl (cwV 1 hts gX10_oddWithout_X2_oddPieceCount rfl rfl rfl (by decide +kernel) ⟨Nat.le_of_ble_eq_true rfl, Nat.le_of_ble_eq_true rfl⟩) rfl hl.1 rfl (Nat.le_of_ble_eq_true rfl) dX10_oddWithout_15 ⟨Nat.le_of_ble_eq_true rfl, Nat.le_of_ble_eq_true rfl⟩ (fun r36683 hr36683 => ?_)
  exact W.iret (v := r36683) hx hb hr (fun t ht hW => ⟨_, rfl, ⟨hr36683.1, trivial⟩, ht⟩) (fun q hq => absurd hq List.not_mem_nil) dX10_oddWithout_18
theorem dX10_isBarrier_31 : decode cX10_isBarrier 31 = .ok (.iconst 0, 1) := by decide +kernel
set_option maxHeartbeats 4000000 in
set_option maxRecDepth 100000 in
theorem k_X10_isBarrier (l : Launch) (D : va_G) (cI cS : ClassId) (sz : Nat) (a : Nat → Nat) (na nc N : Nat) (L u0 : SU) (hL : TyX L) (hN : N = 0 ∨ N = 24576) (x0 : Int32) : Met l yX10_isBarrier wsX10_isBarrier ({ frames := 17, cells := 0, slots := 0, locals := 680 }) (PQ D cI cS (wX cI cS a na nc N L u0) sz [.ref (a 18), .int x0]) (QF (S := SU) D (wX cI cS a na nc N L u0) (wX cI cS a na nc N L) sz (fun r _ => Rg 0 1 r ∧ True)) 0 0 (va_A (wX cI cS a na nc N L u0) sz) := by
  refine Met.ofW (cc := cX10_isBarrier) (maxL := 2) (ret := (some .boolean)) (by decide) rfl ?_
  intro p e s m args below meth c s₁ B hml hv
  obtain ⟨rfl, hsz, hP, hKK, hD0⟩ := hv
  have hx := B.exec
  have hb := B.bytes
  have hr := B.returns
  have hts := atoms_spec (ws := wsX10_isBarrier) B.pre
  have hown : s.vm.findClass RX10 = some m.cls := findClass_of_methodNamed B.named
  have hlocks := B.notSynchronized
  have hK := hKK.1
  have hin10 : ∀ w ∈ wsX100, w ∈ wsX10_isBarrier := by decide +kernel
  subst hsz
  have hD := hD0.self (sz := s.heap.size)
  obtain ⟨A, hAe⟩ : ∃ A, A = va_A (wX cI cS a na nc N L u0) s.heap.size := ⟨_, rfl⟩
  rw [← hAe] at hD
  have hA : ∀ q : Nat, s.heap.size ≤ q → A q := fun q h => by rw [hAe]; exact Or.inr h
  have hS : va_S A s.heap s.heap [] := va_S.rf
  have hl := lv_entry ([.ref (a 18), .int x0]) (n := 2) (Nat.le_of_ble_eq_true rfl)
  rw [lg_entry_eq]
  generalize (lg_sl ([.ref (a 18), .int x0]) ++ List.replicate (2 - (lg_sl ([.ref (a 18), .int x0])).length) Slot.unset).toArray = ls at hl ⊢
  have hl : lv_has ls 2 [(0, .ref (a 18)), (1, .int x0)] := hl
  obtain ⟨u, hu9⟩ : ∃ u : SU, u = u0 := ⟨_, rfl⟩
  rw [← hu9] at hP hD
  refine lv_aload_n hx hb dX10_isBarrier_0 rfl (lv_at hl 0 rfl) ?_
  refine lv_iload_n hx hb dX10_isBarrier_1 rfl (lv_at hl 1 rfl) ?_
  refine wk_sv 18 (As := [.int x0]) (rest := []) ⟨hx, hb, hml, hown, hts⟩ (k_X10_oddWithout l D cI cS a na nc N L u hL hN x0) hKK hP (ci := 10) rfl rfl (cwV 1 hts gX10_isBarrier_X10_oddWithout rfl rfl rfl (by decide +kernel) ⟨Nat.le_of_ble_eq_true rfl, Nat.le_of_ble_eq_true rfl⟩) rfl hl.1 rfl (Nat.le_of_ble_eq_true rfl) dX10_isBarrier_2 ⟨Nat.le_of_ble_eq_true rfl, Nat.le_of_ble_eq_true rfl⟩ (fun r36690 hr36690 => ?_)
  refine lv_iload_n hx hb dX10_isBarrier_5 rfl (lv_at hl 1 rfl) ?_
  refine lz_ss (As := [.int x0]) (rest := [.int r36690]) ⟨hx, hb, hml, hown, hts⟩ (k_J6_bitCount_0f7a4 l D cI cS x0) hKK (hP.sub (ws' := []) [] rfl) (va_cwS 1 hts gX10_isBarrier_J6_bitCount_0f7a4 rfl rfl rfl (by decide +kernel) ⟨Nat.le_of_ble_eq_true rfl, Nat.le_of_ble_eq_true rfl⟩) rfl hl.1 rfl (Nat.le_of_ble_eq_true rfl) dX10_isBarrier_6 ⟨Nat.le_of_ble_eq_true rfl, Nat.le_of_ble_eq_true rfl⟩ (fun r36691 hr36691 => ?_)
  refine lv_isub hx hb dX10_isBarrier_9 ?_
  refine wk_topP (P := fun r => r = r36690 - r36691) rfl (fun r36692 qr36692 => ?_)
  refine lv_aload_n hx hb dX10_isBarrier_10 rfl (lv_at hl 0 rfl) ?_
  refine va_get (D := D) (ci := 10) (v := .ref (a 7)) (C := RX10) (T := TX10) (N := 8) hx hb hts hin10 hown hK hP 18 rfl rfl 1 (by decide) (hts (.fieldLink RX10 23 "MissedPoints$Witness" "pairs" "LMissedPoints$Pairs;") (by decide +kernel)) (fun _ h9 => h9) rfl dX10_isBarrier_11 ?_
  refine lv_aload_n hx hb dX10_isBarrier_14 rfl (lv_at hl 0 rfl) ?_
  refine va_get (D := D) (ci := 10) (v := .ref (a 1)) (C := RX10) (T := TX10) (N := 8) hx hb hts hin10 hown hK hP 18 rfl rfl 0 (by decide) (hts (.fieldLink RX10 19 "MissedPoints$Witness" "net" "LMissedPoints$Net;") (by decide +kernel)) (fun _ h9 => h9) rfl dX10_isBarrier_15 ?_
  refine wk_sv 1 (As := []) (rest := [.ref (a 7), .int r36692]) ⟨hx, hb, hml, hown, hts⟩ (k_X2_all l D cI cS a na nc N L u hL hN) hKK hP (ci := 2) rfl rfl (cwV 0 hts gX10_isBarrier_X2_all rfl rfl rfl (by decide +kernel) ⟨Nat.le_of_ble_eq_true rfl, Nat.le_of_ble_eq_true rfl⟩) rfl hl.1 rfl (Nat.le_of_ble_eq_true rfl) dX10_isBarrier_18 ⟨Nat.le_of_ble_eq_true rfl, Nat.le_of_ble_eq_true rfl⟩ (fun r36693 hr36693 => ?_)
  refine wk_qi (wX cI cS a na nc N L) u (As := [.int r36693]) (rest := [.int r36692]) ⟨hx, hb, hml, hown, hts⟩ (k_X3_lack l D cI cS _ a na nc N L u hL hN r36693) hKK hP hD hS hA 7 (ci := 3) rfl rfl (cwV 1 hts gX10_isBarrier_X3_lack rfl rfl rfl (by decide +kernel) ⟨Nat.le_of_ble_eq_true rfl, Nat.le_of_ble_eq_true rfl⟩) rfl hl.1 rfl (Nat.le_of_ble_eq_true rfl) dX10_isBarrier_21 ⟨Nat.le_of_ble_eq_true rfl, Nat.le_of_ble_eq_true rfl⟩ (fun r36694 u H locs hr36694 hP hD hS => ?_)
  refine lv_icmp_ne (tgt := 31) hx hb dX10_isBarrier_24 (by decide) (fun c36695 => ?_) (fun c36695 => ?_)
  · refine lv_iconst (v := 0) hx hb dX10_isBarrier_31 (by decide) ?_
    subst hAe
    exact W.zret (v := 0) hx hb hr (by decide) (fun t ht hW => ⟨⟨_, u, rfl, ⟨(by decide : Rg 0 1 (0 : Int32)), trivial⟩, by rw [ht]; exact hP, hD⟩, hS.F ht⟩) hS.2.2 dX10_isBarrier_32
  · refine lv_iconst (v := 1) hx hb dX10_isBarrier_27 (by decide) ?_
    refine lv_goto (tgt := 32) hx hb dX10_isBarrier_28 (by decide) ?_
    subst hAe
    exact W.zret (v := 1) hx hb hr (by decide) (fun t ht hW => ⟨⟨_, u, rfl, ⟨(by decide : Rg 0 1 (1 : Int32)), trivial⟩, by rw [ht]; exact hP, hD⟩, hS.F ht⟩) hS.2.2 dX10_isBarrier_32
