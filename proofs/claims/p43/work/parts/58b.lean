set_option maxRecDepth 20000 in
theorem ggX9_goOn_X2_near : GoodIn wsX9_goOn wsX2_near := goodIn_r _ [8, 9, 10, 11, 12, 7, 13, 14, 25, 26, 27] rfl (by decide +kernel)
set_option maxRecDepth 20000 in
theorem gX9_goOn_X2_near : GoodIn wsX9_goOn (wsV RX9 88 RX2 yX2_near wsX2_near) := goodIn_app (goodIn_of _ (by decide +kernel)) ggX9_goOn_X2_near
set_option maxRecDepth 20000 in
theorem ggX9_goOn_X9_goOn : GoodIn wsX9_goOn wsX9_goOn := goodIn_r _ [0, 1, 2, 3, 4, 5, 6, 7, 8, 9, 10, 11, 12, 13, 14, 15, 16, 17, 18, 19, 20, 21, 22, 23, 24, 25, 26, 27] rfl (by decide +kernel)
set_option maxRecDepth 20000 in
theorem gX9_goOn_X9_goOn : GoodIn wsX9_goOn (wsV RX9 84 RX9 yX9_goOn wsX9_goOn) := goodIn_app (goodIn_of _ (by decide +kernel)) ggX9_goOn_X9_goOn
theorem dX9_goOn_0 : decode cX9_goOn 0 = .ok (.iload_n 1, 1) := by decide +kernel
theorem dX9_goOn_1 : decode cX9_goOn 1 = .ok (.iconst 1, 1) := by decide +kernel
theorem dX9_goOn_10 : decode cX9_goOn 10 = .ok (.iload_n 2, 1) := by decide +kernel
theorem dX9_goOn_11 : decode cX9_goOn 11 = .ok (.bipush 12, 2) := by decide +kernel
theorem dX9_goOn_13 : decode cX9_goOn 13 = .ok (.if_icmp .le 5, 3) := by decide +kernel
theorem dX9_goOn_16 : decode cX9_goOn 16 = .ok (.iconst 0, 1) := by decide +kernel
theorem dX9_goOn_17 : decode cX9_goOn 17 = .ok (.ireturn, 1) := by decide +kernel
theorem dX9_goOn_2 : decode cX9_goOn 2 = .ok (.if_icmp .lt 14, 3) := by decide +kernel
theorem dX9_goOn_5 : decode cX9_goOn 5 = .ok (.iload_n 1, 1) := by decide +kernel
theorem dX9_goOn_6 : decode cX9_goOn 6 = .ok (.iload_n 2, 1) := by decide +kernel
theorem dX9_goOn_7 : decode cX9_goOn 7 = .ok (.if_icmp .ge 9, 3) := by decide +kernel
theorem dX9_goOn_101 : decode cX9_goOn 101 = .ok (.aload_n 0, 1) := by decide +kernel
theorem dX9_goOn_102 : decode cX9_goOn 102 = .ok (.getfield 15, 3) := by decide +kernel
theorem dX9_goOn_105 : decode cX9_goOn 105 = .ok (.iload_n 1, 1) := by decide +kernel
theorem dX9_goOn_106 : decode cX9_goOn 106 = .ok (.iload 6, 2) := by decide +kernel
theorem dX9_goOn_108 : decode cX9_goOn 108 = .ok (.iastore, 1) := by decide +kernel
theorem dX9_goOn_109 : decode cX9_goOn 109 = .ok (.iload 4, 2) := by decide +kernel
theorem dX9_goOn_111 : decode cX9_goOn 111 = .ok (.ifCond .eq 5, 3) := by decide +kernel
theorem dX9_goOn_114 : decode cX9_goOn 114 = .ok (.iconst 1, 1) := by decide +kernel
theorem dX9_goOn_115 : decode cX9_goOn 115 = .ok (.ireturn, 1) := by decide +kernel
theorem dX9_goOn_116 : decode cX9_goOn 116 = .ok (.aload_n 0, 1) := by decide +kernel
theorem dX9_goOn_117 : decode cX9_goOn 117 = .ok (.getfield 15, 3) := by decide +kernel
theorem dX9_goOn_120 : decode cX9_goOn 120 = .ok (.iload_n 1, 1) := by decide +kernel
theorem dX9_goOn_121 : decode cX9_goOn 121 = .ok (.iconst 1, 1) := by decide +kernel
theorem dX9_goOn_122 : decode cX9_goOn 122 = .ok (.iadd, 1) := by decide +kernel
theorem dX9_goOn_123 : decode cX9_goOn 123 = .ok (.aload_n 0, 1) := by decide +kernel
theorem dX9_goOn_124 : decode cX9_goOn 124 = .ok (.getfield 9, 3) := by decide +kernel
theorem dX9_goOn_127 : decode cX9_goOn 127 = .ok (.iload 6, 2) := by decide +kernel
theorem dX9_goOn_129 : decode cX9_goOn 129 = .ok (.iaload, 1) := by decide +kernel
theorem dX9_goOn_130 : decode cX9_goOn 130 = .ok (.iastore, 1) := by decide +kernel
theorem dX9_goOn_131 : decode cX9_goOn 131 = .ok (.aload_n 0, 1) := by decide +kernel
theorem dX9_goOn_132 : decode cX9_goOn 132 = .ok (.iload_n 1, 1) := by decide +kernel
theorem dX9_goOn_133 : decode cX9_goOn 133 = .ok (.iconst 2, 1) := by decide +kernel
theorem dX9_goOn_134 : decode cX9_goOn 134 = .ok (.iadd, 1) := by decide +kernel
theorem dX9_goOn_135 : decode cX9_goOn 135 = .ok (.iload_n 2, 1) := by decide +kernel
theorem dX9_goOn_136 : decode cX9_goOn 136 = .ok (.iload_n 3, 1) := by decide +kernel
theorem dX9_goOn_137 : decode cX9_goOn 137 = .ok (.iconst 1, 1) := by decide +kernel
theorem dX9_goOn_138 : decode cX9_goOn 138 = .ok (.iload 6, 2) := by decide +kernel
theorem dX9_goOn_140 : decode cX9_goOn 140 = .ok (.ishl, 1) := by decide +kernel
theorem dX9_goOn_141 : decode cX9_goOn 141 = .ok (.ior, 1) := by decide +kernel
theorem dX9_goOn_142 : decode cX9_goOn 142 = .ok (.iconst 1, 1) := by decide +kernel
theorem dX9_goOn_143 : decode cX9_goOn 143 = .ok (.aload_n 0, 1) := by decide +kernel
theorem dX9_goOn_144 : decode cX9_goOn 144 = .ok (.getfield 9, 3) := by decide +kernel
theorem dX9_goOn_147 : decode cX9_goOn 147 = .ok (.iload 6, 2) := by decide +kernel
theorem dX9_goOn_149 : decode cX9_goOn 149 = .ok (.iaload, 1) := by decide +kernel
theorem dX9_goOn_150 : decode cX9_goOn 150 = .ok (.ishl, 1) := by decide +kernel
theorem dX9_goOn_151 : decode cX9_goOn 151 = .ok (.ior, 1) := by decide +kernel
theorem dX9_goOn_152 : decode cX9_goOn 152 = .ok (.invokevirtual 84, 3) := by decide +kernel
theorem dX9_goOn_155 : decode cX9_goOn 155 = .ok (.ifCond .eq 5, 3) := by decide +kernel
theorem dX9_goOn_158 : decode cX9_goOn 158 = .ok (.iconst 1, 1) := by decide +kernel
theorem dX9_goOn_159 : decode cX9_goOn 159 = .ok (.ireturn, 1) := by decide +kernel
theorem dX9_goOn_160 : decode cX9_goOn 160 = .ok (.iinc 6 1, 3) := by decide +kernel
theorem dX9_goOn_163 : decode cX9_goOn 163 = .ok (.goto (-107), 3) := by decide +kernel
theorem dX9_goOn_166 : decode cX9_goOn 166 = .ok (.iconst 0, 1) := by decide +kernel
theorem dX9_goOn_167 : decode cX9_goOn 167 = .ok (.ireturn, 1) := by decide +kernel
theorem dX9_goOn_18 : decode cX9_goOn 18 = .ok (.iload_n 1, 1) := by decide +kernel
theorem dX9_goOn_19 : decode cX9_goOn 19 = .ok (.iload_n 2, 1) := by decide +kernel
theorem dX9_goOn_20 : decode cX9_goOn 20 = .ok (.iconst 1, 1) := by decide +kernel
theorem dX9_goOn_21 : decode cX9_goOn 21 = .ok (.isub, 1) := by decide +kernel
theorem dX9_goOn_22 : decode cX9_goOn 22 = .ok (.if_icmp .ne 7, 3) := by decide +kernel
theorem dX9_goOn_25 : decode cX9_goOn 25 = .ok (.iconst 1, 1) := by decide +kernel
theorem dX9_goOn_26 : decode cX9_goOn 26 = .ok (.goto 4, 3) := by decide +kernel
theorem dX9_goOn_29 : decode cX9_goOn 29 = .ok (.iconst 0, 1) := by decide +kernel
theorem dX9_goOn_30 : decode cX9_goOn 30 = .ok (.istore 4, 2) := by decide +kernel
theorem dX9_goOn_32 : decode cX9_goOn 32 = .ok (.aload_n 0, 1) := by decide +kernel
theorem dX9_goOn_33 : decode cX9_goOn 33 = .ok (.getfield 21, 3) := by decide +kernel
theorem dX9_goOn_36 : decode cX9_goOn 36 = .ok (.aload_n 0, 1) := by decide +kernel
theorem dX9_goOn_37 : decode cX9_goOn 37 = .ok (.getfield 15, 3) := by decide +kernel
theorem dX9_goOn_40 : decode cX9_goOn 40 = .ok (.iload_n 1, 1) := by decide +kernel
theorem dX9_goOn_41 : decode cX9_goOn 41 = .ok (.iconst 1, 1) := by decide +kernel
theorem dX9_goOn_42 : decode cX9_goOn 42 = .ok (.isub, 1) := by decide +kernel
theorem dX9_goOn_43 : decode cX9_goOn 43 = .ok (.iaload, 1) := by decide +kernel
theorem dX9_goOn_44 : decode cX9_goOn 44 = .ok (.invokevirtual 88, 3) := by decide +kernel
theorem dX9_goOn_47 : decode cX9_goOn 47 = .ok (.iload_n 3, 1) := by decide +kernel
theorem dX9_goOn_48 : decode cX9_goOn 48 = .ok (.iconst (-1), 1) := by decide +kernel
theorem dX9_goOn_49 : decode cX9_goOn 49 = .ok (.ixor, 1) := by decide +kernel
theorem dX9_goOn_50 : decode cX9_goOn 50 = .ok (.iand, 1) := by decide +kernel
theorem dX9_goOn_51 : decode cX9_goOn 51 = .ok (.istore 5, 2) := by decide +kernel
theorem dX9_goOn_53 : decode cX9_goOn 53 = .ok (.iconst 0, 1) := by decide +kernel
theorem dX9_goOn_54 : decode cX9_goOn 54 = .ok (.istore 6, 2) := by decide +kernel
theorem dX9_goOn_56 : decode cX9_goOn 56 = .ok (.iload 6, 2) := by decide +kernel
theorem dX9_goOn_58 : decode cX9_goOn 58 = .ok (.aload_n 0, 1) := by decide +kernel
theorem dX9_goOn_59 : decode cX9_goOn 59 = .ok (.getfield 21, 3) := by decide +kernel
theorem dX9_goOn_62 : decode cX9_goOn 62 = .ok (.getfield 41, 3) := by decide +kernel
theorem dX9_goOn_65 : decode cX9_goOn 65 = .ok (.if_icmp .ge 101, 3) := by decide +kernel
theorem dX9_goOn_68 : decode cX9_goOn 68 = .ok (.iload 5, 2) := by decide +kernel
theorem dX9_goOn_70 : decode cX9_goOn 70 = .ok (.iload 6, 2) := by decide +kernel
theorem dX9_goOn_72 : decode cX9_goOn 72 = .ok (.ishr, 1) := by decide +kernel
theorem dX9_goOn_73 : decode cX9_goOn 73 = .ok (.iconst 1, 1) := by decide +kernel
theorem dX9_goOn_74 : decode cX9_goOn 74 = .ok (.iand, 1) := by decide +kernel
theorem dX9_goOn_75 : decode cX9_goOn 75 = .ok (.ifCond .eq 85, 3) := by decide +kernel
theorem dX9_goOn_78 : decode cX9_goOn 78 = .ok (.iload 4, 2) := by decide +kernel
theorem dX9_goOn_80 : decode cX9_goOn 80 = .ok (.aload_n 0, 1) := by decide +kernel
theorem dX9_goOn_81 : decode cX9_goOn 81 = .ok (.getfield 9, 3) := by decide +kernel
theorem dX9_goOn_84 : decode cX9_goOn 84 = .ok (.iload 6, 2) := by decide +kernel
theorem dX9_goOn_86 : decode cX9_goOn 86 = .ok (.iaload, 1) := by decide +kernel
theorem dX9_goOn_87 : decode cX9_goOn 87 = .ok (.ifCond .ge 7, 3) := by decide +kernel
theorem dX9_goOn_90 : decode cX9_goOn 90 = .ok (.iconst 1, 1) := by decide +kernel
theorem dX9_goOn_91 : decode cX9_goOn 91 = .ok (.goto 4, 3) := by decide +kernel
theorem dX9_goOn_94 : decode cX9_goOn 94 = .ok (.iconst 0, 1) := by decide +kernel
theorem dX9_goOn_95 : decode cX9_goOn 95 = .ok (.if_icmp .eq 6, 3) := by decide +kernel
theorem dX9_goOn_98 : decode cX9_goOn 98 = .ok (.goto 62, 3) := by decide +kernel
set_option maxHeartbeats 8000000 in
set_option maxRecDepth 100000 in
theorem k_X9_goOn_r (l : Launch) (D : va_G) (cI cS : ClassId) (a : Nat → Nat) (na nc N : Nat) (L : SU) (hL : TyX L) (hN : N = 0 ∨ N = 24576) : ∀ (n sz : Nat) (u0 : SU) (x0 x1 x2 : Int32), Rg 1 13 x0 → 13 - x0.toInt ≤ (n : Int) → Met l yX9_goOn wsX9_goOn ({ frames := n + 1, cells := 0, slots := 0, locals := 40 * (n + 1) }) (PQ D cI cS (wX cI cS a na nc N L u0) sz [.ref (a 34), .int x0, .int x1, .int x2]) (QF (S := SU) D (wX cI cS a na nc N L u0) (wX cI cS a na nc N L) sz (fun r _ => Rg 0 1 r ∧ True)) 0 0 (va_A (wX cI cS a na nc N L u0) sz) := by
  intro n
  induction n with
  | zero =>
    intro sz u0 x0 x1 x2 px0 hrk
    have px0 : Rg 13 13 x0 := ⟨by omega, px0.2⟩
    refine Met.ofW (cc := cX9_goOn) (maxL := 7) (ret := (some .boolean)) (by decide) rfl ?_
    intro p e s m args below meth c s₁ B hml hv
    obtain ⟨rfl, hsz, hP, hKK, hD0⟩ := hv
    have hx := B.exec
    have hb := B.bytes
    have hr := B.returns
    have hts := atoms_spec (ws := wsX9_goOn) B.pre
    have hown : s.vm.findClass RX9 = some m.cls := findClass_of_methodNamed B.named
    have hlocks := B.notSynchronized
    have hK := hKK.1
    subst hsz
    have hD := hD0.self (sz := s.heap.size)
    obtain ⟨A, hAe⟩ : ∃ A, A = va_A (wX cI cS a na nc N L u0) s.heap.size := ⟨_, rfl⟩
    rw [← hAe] at hD
    have hA : ∀ q : Nat, s.heap.size ≤ q → A q := fun q h => by rw [hAe]; exact Or.inr h
    have hS : va_S A s.heap s.heap [] := va_S.rf
    have hl := lv_entry ([.ref (a 34), .int x0, .int x1, .int x2]) (n := 7) (Nat.le_of_ble_eq_true rfl)
    rw [lg_entry_eq]
    generalize (lg_sl ([.ref (a 34), .int x0, .int x1, .int x2]) ++ List.replicate (7 - (lg_sl ([.ref (a 34), .int x0, .int x1, .int x2])).length) Slot.unset).toArray = ls at hl ⊢
    have hl : lv_has ls 7 [(0, .ref (a 34)), (1, .int x0), (2, .int x1), (3, .int x2)] := hl
    obtain ⟨u, hu9⟩ : ∃ u : SU, u = u0 := ⟨_, rfl⟩
    rw [← hu9] at hP hD
    refine lv_iload_n hx hb dX9_goOn_0 rfl (lv_at hl 1 rfl) ?_
    refine lv_iconst (v := 1) hx hb dX9_goOn_1 (by decide) ?_
    refine lv_icmp_lt (tgt := 16) hx hb dX9_goOn_2 (by decide) (fun c34458 => ?_) (fun c34458 => ?_)
    · exact absurd c34458 (wk_nlt px0 (by decide : Rg 1 1 (1 : Int32)) (by decide))
    · refine lv_iload_n hx hb dX9_goOn_5 rfl (lv_at hl 1 rfl) ?_
      refine lv_iload_n hx hb dX9_goOn_6 rfl (lv_at hl 2 rfl) ?_
      refine lv_icmp_ge (tgt := 16) hx hb dX9_goOn_7 (by decide) (fun c34459 => ?_) (fun c34459 => ?_)
      · have g34460 : Rg (-2147483648) 13 x1 := rg_lel (rg_any x1) px0 c34459 (by decide)
        refine lv_iconst (v := 0) hx hb dX9_goOn_16 (by decide) ?_
        subst hAe
        exact W.zret (v := 0) hx hb hr (by decide) (fun t ht hW => ⟨⟨_, u, rfl, ⟨(by decide : Rg 0 1 (0 : Int32)), trivial⟩, by rw [ht]; exact hP, hD⟩, hS.F ht⟩) hS.2.2 dX9_goOn_17
      · have g34461 : Rg 14 2147483647 x1 := rg_ltr px0 (rg_any x1) (rg_nle c34459) (by decide)
        refine lv_iload_n hx hb dX9_goOn_10 rfl (lv_at hl 2 rfl) ?_
        refine lv_bipush (v := 12) hx hb dX9_goOn_11 (by decide) ?_
        refine lv_icmp_le (tgt := 18) hx hb dX9_goOn_13 (by decide) (fun c34462 => ?_) (fun c34462 => ?_)
        · exact absurd c34462 (wk_nle g34461 (by decide : Rg 12 12 (12 : Int32)) (by decide))
        · refine lv_iconst (v := 0) hx hb dX9_goOn_16 (by decide) ?_
          subst hAe
          exact W.zret (v := 0) hx hb hr (by decide) (fun t ht hW => ⟨⟨_, u, rfl, ⟨(by decide : Rg 0 1 (0 : Int32)), trivial⟩, by rw [ht]; exact hP, hD⟩, hS.F ht⟩) hS.2.2 dX9_goOn_17
  | succ n ih =>
    intro sz u0 x0 x1 x2 px0 hrk
    refine Met.ofW (cc := cX9_goOn) (maxL := 7) (ret := (some .boolean)) (by decide) rfl ?_
    intro p e s m args below meth c s₁ B hml hv
    obtain ⟨rfl, hsz, hP, hKK, hD0⟩ := hv
    have hx := B.exec
    have hb := B.bytes
    have hr := B.returns
    have hts := atoms_spec (ws := wsX9_goOn) B.pre
    have hown : s.vm.findClass RX9 = some m.cls := findClass_of_methodNamed B.named
    have hlocks := B.notSynchronized
    have hK := hKK.1
    have hin2 : ∀ w ∈ wsX20, w ∈ wsX9_goOn := by decide +kernel
    have hin9 : ∀ w ∈ wsX90, w ∈ wsX9_goOn := by decide +kernel
    subst hsz
    have hD := hD0.self (sz := s.heap.size)
    obtain ⟨A, hAe⟩ : ∃ A, A = va_A (wX cI cS a na nc N L u0) s.heap.size := ⟨_, rfl⟩
    rw [← hAe] at hD
    have hA : ∀ q : Nat, s.heap.size ≤ q → A q := fun q h => by rw [hAe]; exact Or.inr h
    have hS : va_S A s.heap s.heap [] := va_S.rf
    have hl := lv_entry ([.ref (a 34), .int x0, .int x1, .int x2]) (n := 7) (Nat.le_of_ble_eq_true rfl)
    rw [lg_entry_eq]
    generalize (lg_sl ([.ref (a 34), .int x0, .int x1, .int x2]) ++ List.replicate (7 - (lg_sl ([.ref (a 34), .int x0, .int x1, .int x2])).length) Slot.unset).toArray = ls at hl ⊢
    have hl : lv_has ls 7 [(0, .ref (a 34)), (1, .int x0), (2, .int x1), (3, .int x2)] := hl
    obtain ⟨u, hu9⟩ : ∃ u : SU, u = u0 := ⟨_, rfl⟩
    rw [← hu9] at hP hD
    have lp56 : ∀ (n56 : Nat) (y56_l4 : Int32) (y56_l5 : Int32) (y56_l6 : Int32) (u : SU) (H : Heap) (locs : List Loc) (ls : Array Slot), Rg 1 11 x0 → Rg 2 12 x1 → Rg 0 1 y56_l4 → Rg 0 12 y56_l6 → (y56_l4 = 0 → x0.toInt ≤ 10) → va_P D cls (wX cI cS a na nc N L u) H → va_D A (wX cI cS a na nc N L u) → va_S A s.heap H locs → lv_has ls 7 [(0, .ref (a 34)), (1, .int x0), (2, .int x1), (3, .int x2), (4, .int y56_l4), (5, .int y56_l5), (6, .int y56_l6)] → 12 - y56_l6.toInt < (n56 : Int) → W p l e (headSpec wsX9_goOn ({ frames := n + 1 + 1, cells := 0, slots := 0, locals := 40 * (n + 1 + 1) })).room s m ([.ref (a 34), .int x0, .int x1, .int x2]).toArray below meth c H locs 0 0 (MQ below (QF (S := SU) D (wX cI cS a na nc N L u0) (wX cI cS a na nc N L) s.heap.size (fun r _ => Rg 0 1 r ∧ True)) ([.ref (a 34), .int x0, .int x1, .int x2]).toArray s 0 0 (va_A (wX cI cS a na nc N L u0) s.heap.size)) (F0 m 56 ls []) := by
      intro n56
      induction n56 with
      | zero =>
        intro y56_l4 y56_l5 y56_l6 u H locs ls g56_l1 g56_l2 g56_l4 g56_l6 x56_0 hP hD hS hl hm56
        exact absurd rfl (me_z g56_l6 hm56)
      | succ n56 ih56 =>
        intro y56_l4 y56_l5 y56_l6 u H locs ls g56_l1 g56_l2 g56_l4 g56_l6 x56_0 hP hD hS hl hm56
        have ct95 : ∀ (y95_s0 : Int32) (u : SU) (H : Heap) (locs : List Loc) (ls : Array Slot), Rg 1 11 x0 → Rg 2 12 x1 → Rg 0 1 y56_l4 → Rg 0 11 y56_l6 → Rg 0 1 y95_s0 → Rg 0 1 y56_l4 → va_P D cls (wX cI cS a na nc N L u) H → va_D A (wX cI cS a na nc N L u) → va_S A s.heap H locs → lv_has ls 7 [(0, .ref (a 34)), (1, .int x0), (2, .int x1), (3, .int x2), (4, .int y56_l4), (5, .int y56_l5), (6, .int y56_l6)] → W p l e (headSpec wsX9_goOn ({ frames := n + 1 + 1, cells := 0, slots := 0, locals := 40 * (n + 1 + 1) })).room s m ([.ref (a 34), .int x0, .int x1, .int x2]).toArray below meth c H locs 0 0 (MQ below (QF (S := SU) D (wX cI cS a na nc N L u0) (wX cI cS a na nc N L) s.heap.size (fun r _ => Rg 0 1 r ∧ True)) ([.ref (a 34), .int x0, .int x1, .int x2]).toArray s 0 0 (va_A (wX cI cS a na nc N L u0) s.heap.size)) (F0 m 95 ls [.int y95_s0, .int y56_l4]) := by
          intro y95_s0 u H locs ls g95_l1 g95_l2 g95_l4 g95_l6 g95_s0 g95_s1 hP hD hS hl
          refine lv_icmp_eq (tgt := 101) hx hb dX9_goOn_95 (by decide) (fun c34907 => ?_) (fun c34907 => ?_)
          · refine lv_aload_n hx hb dX9_goOn_101 rfl (lv_at hl 0 rfl) ?_
            refine va_get (D := D) (ci := 9) (v := .ref (a 36)) (C := RX9) (T := TX9) (N := 6) hx hb hts hin9 hown hK hP 34 rfl rfl 3 (by decide) (hts (.fieldLink RX9 15 "MissedPoints$Told" "row" "[I") (by decide +kernel)) (fun _ h9 => h9) rfl dX9_goOn_102 ?_
            refine lv_iload_n hx hb dX9_goOn_105 rfl (lv_at hl 1 rfl) ?_
            refine lv_iload hx hb dX9_goOn_106 (lv_at hl 6 rfl) ?_
            refine ks_ast hx hb hK hP hD hS rfl (k := 36) rfl sx_36 (rg_in g95_l1 (by decide) (by decide)) dX9_goOn_108 (fun u H locs hP hD hS => ?_)
            refine lv_iload hx hb dX9_goOn_109 (lv_at hl 4 rfl) ?_
            refine lv_if_eq (tgt := 116) hx hb dX9_goOn_111 (by decide) (fun c34908 => ?_) (fun c34908 => ?_)
            · have g34909 : Rg 0 0 y56_l4 := wk_eql g95_l4 (by decide : Rg 0 0 (0 : Int32)) c34908 (by decide)
              have g34910 : Rg 1 10 x0 := ⟨g95_l1.1, x56_0 c34908⟩
              refine lv_aload_n hx hb dX9_goOn_116 rfl (lv_at hl 0 rfl) ?_
              refine va_get (D := D) (ci := 9) (v := .ref (a 36)) (C := RX9) (T := TX9) (N := 6) hx hb hts hin9 hown hK hP 34 rfl rfl 3 (by decide) (hts (.fieldLink RX9 15 "MissedPoints$Told" "row" "[I") (by decide +kernel)) (fun _ h9 => h9) rfl dX9_goOn_117 ?_
              refine lv_iload_n hx hb dX9_goOn_120 rfl (lv_at hl 1 rfl) ?_
              refine lv_iconst (v := 1) hx hb dX9_goOn_121 (by decide) ?_
              refine wk_iadd (e1 := 2) (f := 11) hx hb dX9_goOn_122 g34910 (by decide : Rg 1 1 (1 : Int32)) (by decide) (fun r34911 hr34911 er34911 qr34911 => ?_)
              refine lv_aload_n hx hb dX9_goOn_123 rfl (lv_at hl 0 rfl) ?_
              refine va_get (D := D) (ci := 9) (v := .ref (a 35)) (C := RX9) (T := TX9) (N := 6) hx hb hts hin9 hown hK hP 34 rfl rfl 2 (by decide) (hts (.fieldLink RX9 9 "MissedPoints$Told" "mates" "[I") (by decide +kernel)) (fun _ h9 => h9) rfl dX9_goOn_124 ?_
              refine lv_iload hx hb dX9_goOn_127 (lv_at hl 6 rfl) ?_
              refine wk_aldA hx hb hK hP 35 0 rfl rfl (rg_in g95_l6 (by decide) (by decide)) dX9_goOn_129 (fun r34912 => ?_)
              refine ks_ast hx hb hK hP hD hS rfl (k := 36) rfl sx_36 (rg_in hr34911 (by decide) (by decide)) dX9_goOn_130 (fun u H locs hP hD hS => ?_)
              refine lv_aload_n hx hb dX9_goOn_131 rfl (lv_at hl 0 rfl) ?_
              refine lv_iload_n hx hb dX9_goOn_132 rfl (lv_at hl 1 rfl) ?_
              refine lv_iconst (v := 2) hx hb dX9_goOn_133 (by decide) ?_
              refine wk_iadd (e1 := 3) (f := 12) hx hb dX9_goOn_134 g34910 (by decide : Rg 2 2 (2 : Int32)) (by decide) (fun r34913 hr34913 er34913 qr34913 => ?_)
              refine lv_iload_n hx hb dX9_goOn_135 rfl (lv_at hl 2 rfl) ?_
              refine lv_iload_n hx hb dX9_goOn_136 rfl (lv_at hl 3 rfl) ?_
              refine lv_iconst (v := 1) hx hb dX9_goOn_137 (by decide) ?_
              refine lv_iload hx hb dX9_goOn_138 (lv_at hl 6 rfl) ?_
              refine wk_ishl1 (f := 2048) hx hb dX9_goOn_140 g95_l6 (by decide) (fun r34914 hr34914 qr34914 => ?_)
              refine lv_ior hx hb dX9_goOn_141 ?_
              refine wk_topP (P := fun r => r = x2 ||| r34914) rfl (fun r34915 qr34915 => ?_)
              refine lv_iconst (v := 1) hx hb dX9_goOn_142 (by decide) ?_
              refine lv_aload_n hx hb dX9_goOn_143 rfl (lv_at hl 0 rfl) ?_
              refine va_get (D := D) (ci := 9) (v := .ref (a 35)) (C := RX9) (T := TX9) (N := 6) hx hb hts hin9 hown hK hP 34 rfl rfl 2 (by decide) (hts (.fieldLink RX9 9 "MissedPoints$Told" "mates" "[I") (by decide +kernel)) (fun _ h9 => h9) rfl dX9_goOn_144 ?_
              refine lv_iload hx hb dX9_goOn_147 (lv_at hl 6 rfl) ?_
              refine wk_aldA hx hb hK hP 35 0 rfl rfl (rg_in g95_l6 (by decide) (by decide)) dX9_goOn_149 (fun r34916 => ?_)
              refine lv_ishl hx hb dX9_goOn_150 ?_
              refine wk_topP (P := fun r => r = (1 : Int32) <<< (r34916 &&& 31)) rfl (fun r34917 qr34917 => ?_)
              refine lv_ior hx hb dX9_goOn_151 ?_
              refine wk_topP (P := fun r => r = r34915 ||| r34917) rfl (fun r34918 qr34918 => ?_)
              refine wk_qi (wX cI cS a na nc N L) u (As := [.int r34913, .int x1, .int r34918]) (rest := []) ⟨hx, hb, hml, hown, hts⟩ (ih _ u r34913 x1 r34918 ((show Rg 1 13 r34913 from rg_w hr34913 (by decide) (by decide))) (by have z1 := er34913; have z2 : (2 : Int32).toInt = 2 := (by decide); omega)) hKK hP hD hS hA 34 (ci := 9) rfl rfl (cwV 3 hts gX9_goOn_X9_goOn rfl rfl rfl (by decide +kernel) ⟨by show n + 1 + 1 ≤ (n + 1) + 1; omega, by show 8 + (7 + 11) + 40 * (n + 1) ≤ 40 * ((n + 1) + 1); omega⟩) rfl hl.1 rfl (Nat.le_of_ble_eq_true rfl) dX9_goOn_152 ⟨Nat.le_of_ble_eq_true rfl, Nat.le_of_ble_eq_true rfl⟩ (fun r34919 u H locs hr34919 hP hD hS => ?_)
              refine lv_if_eq (tgt := 160) hx hb dX9_goOn_155 (by decide) (fun c34920 => ?_) (fun c34920 => ?_)
              · have g34921 : Rg 0 0 r34919 := wk_eql hr34919.1 (by decide : Rg 0 0 (0 : Int32)) c34920 (by decide)
                refine wk_iinc (lv' := fun r => [(6, .int r), (0, .ref (a 34)), (1, .int x0), (2, .int x1), (3, .int x2), (4, .int y56_l4), (5, .int y56_l5)]) (e1 := 1) (f := 12) hx hb dX9_goOn_160 hl (k := 6) rfl (by decide) g95_l6 (by decide) (fun _ => rfl) (fun r34922 ls hr34922 er34922 hl => ?_)
                refine lv_goto (tgt := 56) hx hb dX9_goOn_163 (by decide) ?_
                exact ih56 y56_l4 y56_l5 r34922 u _ _ ls (show Rg 1 11 x0 from rg_w g34910 (by decide) (by decide)) g95_l2 (show Rg 0 1 y56_l4 from rg_w g34909 (by decide) (by decide)) (show Rg 0 12 r34922 from rg_w hr34922 (by decide) (by decide)) (by exact x56_0) hP hD hS (lv_sub (l' := [(0, .ref (a 34)), (1, .int x0), (2, .int x1), (3, .int x2), (4, .int y56_l4), (5, .int y56_l5), (6, .int r34922)]) hl [1, 2, 3, 4, 5, 6, 0] rfl) (me_up hm56 er34922 (by decide))
              · have g34923 : Rg 1 1 r34919 := rg_ne_lo (k := 0) hr34919.1 (by decide) c34920 (by decide)
                refine lv_iconst (v := 1) hx hb dX9_goOn_158 (by decide) ?_
                subst hAe
                exact W.zret (v := 1) hx hb hr (by decide) (fun t ht hW => ⟨⟨_, u, rfl, ⟨(by decide : Rg 0 1 (1 : Int32)), trivial⟩, by rw [ht]; exact hP, hD⟩, hS.F ht⟩) hS.2.2 dX9_goOn_159
            · have g34924 : Rg 1 1 y56_l4 := rg_ne_lo (k := 0) g95_l4 (by decide) c34908 (by decide)
              refine lv_iconst (v := 1) hx hb dX9_goOn_114 (by decide) ?_
              subst hAe
              exact W.zret (v := 1) hx hb hr (by decide) (fun t ht hW => ⟨⟨_, u, rfl, ⟨(by decide : Rg 0 1 (1 : Int32)), trivial⟩, by rw [ht]; exact hP, hD⟩, hS.F ht⟩) hS.2.2 dX9_goOn_115
          · refine lv_goto (tgt := 160) hx hb dX9_goOn_98 (by decide) ?_
            refine wk_iinc (lv' := fun r => [(6, .int r), (0, .ref (a 34)), (1, .int x0), (2, .int x1), (3, .int x2), (4, .int y56_l4), (5, .int y56_l5)]) (e1 := 1) (f := 12) hx hb dX9_goOn_160 hl (k := 6) rfl (by decide) g95_l6 (by decide) (fun _ => rfl) (fun r34925 ls hr34925 er34925 hl => ?_)
            refine lv_goto (tgt := 56) hx hb dX9_goOn_163 (by decide) ?_
            exact ih56 y56_l4 y56_l5 r34925 u _ _ ls g95_l1 g95_l2 g95_l4 (show Rg 0 12 r34925 from rg_w hr34925 (by decide) (by decide)) (by exact x56_0) hP hD hS (lv_sub (l' := [(0, .ref (a 34)), (1, .int x0), (2, .int x1), (3, .int x2), (4, .int y56_l4), (5, .int y56_l5), (6, .int r34925)]) hl [1, 2, 3, 4, 5, 6, 0] rfl) (me_up hm56 er34925 (by decide))
        refine lv_iload hx hb dX9_goOn_56 (lv_at hl 6 rfl) ?_
        refine lv_aload_n hx hb dX9_goOn_58 rfl (lv_at hl 0 rfl) ?_
        refine va_get (D := D) (ci := 9) (v := .ref (a 1)) (C := RX9) (T := TX9) (N := 6) hx hb hts hin9 hown hK hP 34 rfl rfl 0 (by decide) (hts (.fieldLink RX9 21 "MissedPoints$Told" "net" "LMissedPoints$Net;") (by decide +kernel)) (fun _ h9 => h9) rfl dX9_goOn_59 ?_
        refine va_getN (D := D) (ci := 2) (v := .int (L 1 1)) (C := RX2) (T := TX2) (N := 3) hx hb hts hin2 hown hK hP 1 rfl rfl 1 (by decide) (va_Nw.use rfl hKK.2.2.2.2.2.2.2.2.2.2.2.2.2.2.2.2.1) (fun _ h9 => h9) rfl dX9_goOn_62 ?_
        refine lv_icmp_ge (tgt := 166) hx hb dX9_goOn_65 (by decide) (fun c34926 => ?_) (fun c34926 => ?_)
        · refine lv_iconst (v := 0) hx hb dX9_goOn_166 (by decide) ?_
          subst hAe
          exact W.zret (v := 0) hx hb hr (by decide) (fun t ht hW => ⟨⟨_, u, rfl, ⟨(by decide : Rg 0 1 (0 : Int32)), trivial⟩, by rw [ht]; exact hP, hD⟩, hS.F ht⟩) hS.2.2 dX9_goOn_167
        · have g34927 : Rg 1 12 (L 1 1) := rg_ltr g56_l6 hL.1 (rg_nle c34926) (by decide)
          have g34928 : Rg 0 11 y56_l6 := rg_ltl g56_l6 hL.1 (rg_nle c34926) (by decide)
          refine lv_iload hx hb dX9_goOn_68 (lv_at hl 5 rfl) ?_
          refine lv_iload hx hb dX9_goOn_70 (lv_at hl 6 rfl) ?_
          refine lv_ishr hx hb dX9_goOn_72 ?_
          refine wk_topP (P := fun r => r = y56_l5 >>> (y56_l6 &&& 31)) rfl (fun r34929 qr34929 => ?_)
          refine lv_iconst (v := 1) hx hb dX9_goOn_73 (by decide) ?_
          refine wk_iandr hx hb dX9_goOn_74 (by decide : Rg 1 1 (1 : Int32)) (by decide) (fun r34930 hr34930 qr34930 => ?_)
          refine lv_if_eq (tgt := 160) hx hb dX9_goOn_75 (by decide) (fun c34931 => ?_) (fun c34931 => ?_)
          · have g34932 : Rg 0 0 r34930 := wk_eql hr34930 (by decide : Rg 0 0 (0 : Int32)) c34931 (by decide)
            refine wk_iinc (lv' := fun r => [(6, .int r), (0, .ref (a 34)), (1, .int x0), (2, .int x1), (3, .int x2), (4, .int y56_l4), (5, .int y56_l5)]) (e1 := 1) (f := 12) hx hb dX9_goOn_160 hl (k := 6) rfl (by decide) g34928 (by decide) (fun _ => rfl) (fun r34933 ls hr34933 er34933 hl => ?_)
            refine lv_goto (tgt := 56) hx hb dX9_goOn_163 (by decide) ?_
            exact ih56 y56_l4 y56_l5 r34933 u _ _ ls g56_l1 g56_l2 g56_l4 (show Rg 0 12 r34933 from rg_w hr34933 (by decide) (by decide)) (by exact x56_0) hP hD hS (lv_sub (l' := [(0, .ref (a 34)), (1, .int x0), (2, .int x1), (3, .int x2), (4, .int y56_l4), (5, .int y56_l5), (6, .int r34933)]) hl [1, 2, 3, 4, 5, 6, 0] rfl) (me_up hm56 er34933 (by decide))
          · have g34934 : Rg 1 1 r34930 := rg_ne_lo (k := 0) hr34930 (by decide) c34931 (by decide)
            refine lv_iload hx hb dX9_goOn_78 (lv_at hl 4 rfl) ?_
            refine lv_aload_n hx hb dX9_goOn_80 rfl (lv_at hl 0 rfl) ?_
            refine va_get (D := D) (ci := 9) (v := .ref (a 35)) (C := RX9) (T := TX9) (N := 6) hx hb hts hin9 hown hK hP 34 rfl rfl 2 (by decide) (hts (.fieldLink RX9 9 "MissedPoints$Told" "mates" "[I") (by decide +kernel)) (fun _ h9 => h9) rfl dX9_goOn_81 ?_
            refine lv_iload hx hb dX9_goOn_84 (lv_at hl 6 rfl) ?_
            refine wk_aldA hx hb hK hP 35 0 rfl rfl (rg_in g34928 (by decide) (by decide)) dX9_goOn_86 (fun r34935 => ?_)
            refine lv_if_ge (tgt := 94) hx hb dX9_goOn_87 (by decide) (fun c34936 => ?_) (fun c34936 => ?_)
            · have g34937 : Rg 0 2147483647 r34935 := rg_ler (by decide : Rg 0 0 (0 : Int32)) (rg_any r34935) c34936 (by decide)
              refine lv_iconst (v := 0) hx hb dX9_goOn_94 (by decide) ?_
              exact ct95 (0 : Int32) u _ _ ls g56_l1 g56_l2 g56_l4 g34928 (by decide : Rg 0 1 (0 : Int32)) g56_l4 hP hD hS (lv_sub (l' := [(0, .ref (a 34)), (1, .int x0), (2, .int x1), (3, .int x2), (4, .int y56_l4), (5, .int y56_l5), (6, .int y56_l6)]) hl [0, 1, 2, 3, 4, 5, 6] rfl)
            · have g34938 : Rg (-2147483648) (-1) r34935 := rg_ltl (rg_any r34935) (by decide : Rg 0 0 (0 : Int32)) (rg_nle c34936) (by decide)
              refine lv_iconst (v := 1) hx hb dX9_goOn_90 (by decide) ?_
              refine lv_goto (tgt := 95) hx hb dX9_goOn_91 (by decide) ?_
              exact ct95 (1 : Int32) u _ _ ls g56_l1 g56_l2 g56_l4 g34928 (by decide : Rg 0 1 (1 : Int32)) g56_l4 hP hD hS (lv_sub (l' := [(0, .ref (a 34)), (1, .int x0), (2, .int x1), (3, .int x2), (4, .int y56_l4), (5, .int y56_l5), (6, .int y56_l6)]) hl [0, 1, 2, 3, 4, 5, 6] rfl)
    refine lv_iload_n hx hb dX9_goOn_0 rfl (lv_at hl 1 rfl) ?_
    refine lv_iconst (v := 1) hx hb dX9_goOn_1 (by decide) ?_
    refine lv_icmp_lt (tgt := 16) hx hb dX9_goOn_2 (by decide) (fun c34939 => ?_) (fun c34939 => ?_)
    · exact absurd c34939 (wk_nlt px0 (by decide : Rg 1 1 (1 : Int32)) (by decide))
    · refine lv_iload_n hx hb dX9_goOn_5 rfl (lv_at hl 1 rfl) ?_
      refine lv_iload_n hx hb dX9_goOn_6 rfl (lv_at hl 2 rfl) ?_
      refine lv_icmp_ge (tgt := 16) hx hb dX9_goOn_7 (by decide) (fun c34940 => ?_) (fun c34940 => ?_)
      · have g34941 : Rg (-2147483648) 13 x1 := rg_lel (rg_any x1) px0 c34940 (by decide)
        refine lv_iconst (v := 0) hx hb dX9_goOn_16 (by decide) ?_
        subst hAe
        exact W.zret (v := 0) hx hb hr (by decide) (fun t ht hW => ⟨⟨_, u, rfl, ⟨(by decide : Rg 0 1 (0 : Int32)), trivial⟩, by rw [ht]; exact hP, hD⟩, hS.F ht⟩) hS.2.2 dX9_goOn_17
      · have g34942 : Rg 2 2147483647 x1 := rg_ltr px0 (rg_any x1) (rg_nle c34940) (by decide)
        refine lv_iload_n hx hb dX9_goOn_10 rfl (lv_at hl 2 rfl) ?_
        refine lv_bipush (v := 12) hx hb dX9_goOn_11 (by decide) ?_
        refine lv_icmp_le (tgt := 18) hx hb dX9_goOn_13 (by decide) (fun c34943 => ?_) (fun c34943 => ?_)
        · have g34944 : Rg 2 12 x1 := rg_lel g34942 (by decide : Rg 12 12 (12 : Int32)) c34943 (by decide)
          have g34945 : Rg 1 11 x0 := ⟨px0.1, by have z1 := (lz_lt _ _).mp (rg_nle c34940); have z2 := (lz_le _ _).mp c34943; have z3 : (12 : Int32).toInt = 12 := (by decide); omega⟩
          refine lv_iload_n hx hb dX9_goOn_18 rfl (lv_at hl 1 rfl) ?_
          refine lv_iload_n hx hb dX9_goOn_19 rfl (lv_at hl 2 rfl) ?_
          refine lv_iconst (v := 1) hx hb dX9_goOn_20 (by decide) ?_
          refine wk_isub (e1 := 1) (f := 11) hx hb dX9_goOn_21 g34944 (by decide : Rg 1 1 (1 : Int32)) (by decide) (fun r34946 hr34946 er34946 qr34946 => ?_)
          refine lv_icmp_ne (tgt := 29) hx hb dX9_goOn_22 (by decide) (fun c34947 => ?_) (fun c34947 => ?_)
          · refine lv_iconst (v := 0) hx hb dX9_goOn_29 (by decide) ?_
            refine lv_istore (lv' := [(4, .int 0), (0, .ref (a 34)), (1, .int x0), (2, .int x1), (3, .int x2)]) hx hb dX9_goOn_30 hl (by decide) rfl (fun ls hl => ?_)
            refine lv_aload_n hx hb dX9_goOn_32 rfl (lv_at hl 1 rfl) ?_
            refine va_get (D := D) (ci := 9) (v := .ref (a 1)) (C := RX9) (T := TX9) (N := 6) hx hb hts hin9 hown hK hP 34 rfl rfl 0 (by decide) (hts (.fieldLink RX9 21 "MissedPoints$Told" "net" "LMissedPoints$Net;") (by decide +kernel)) (fun _ h9 => h9) rfl dX9_goOn_33 ?_
            refine lv_aload_n hx hb dX9_goOn_36 rfl (lv_at hl 1 rfl) ?_
            refine va_get (D := D) (ci := 9) (v := .ref (a 36)) (C := RX9) (T := TX9) (N := 6) hx hb hts hin9 hown hK hP 34 rfl rfl 3 (by decide) (hts (.fieldLink RX9 15 "MissedPoints$Told" "row" "[I") (by decide +kernel)) (fun _ h9 => h9) rfl dX9_goOn_37 ?_
            refine lv_iload_n hx hb dX9_goOn_40 rfl (lv_at hl 2 rfl) ?_
            refine lv_iconst (v := 1) hx hb dX9_goOn_41 (by decide) ?_
            refine wk_isub (e1 := 0) (f := 10) hx hb dX9_goOn_42 g34945 (by decide : Rg 1 1 (1 : Int32)) (by decide) (fun r34948 hr34948 er34948 qr34948 => ?_)
            refine wk_aldA hx hb hK hP 36 0 rfl rfl (rg_in hr34948 (by decide) (by decide)) dX9_goOn_43 (fun r34949 => ?_)
            refine wk_sv 1 (As := [.int r34949]) (rest := []) ⟨hx, hb, hml, hown, hts⟩ (k_X2_near l D cI cS a na nc N L u hL hN r34949) hKK hP (ci := 2) rfl rfl (cwV 1 hts gX9_goOn_X2_near rfl rfl rfl (by decide +kernel) ⟨by show 1 + 1 ≤ (n + 1) + 1; omega, by show 8 + (2 + 11) + 40 ≤ 40 * ((n + 1) + 1); omega⟩) rfl hl.1 rfl (Nat.le_of_ble_eq_true rfl) dX9_goOn_44 ⟨Nat.le_of_ble_eq_true rfl, Nat.le_of_ble_eq_true rfl⟩ (fun r34950 hr34950 => ?_)
            refine lv_iload_n hx hb dX9_goOn_47 rfl (lv_at hl 4 rfl) ?_
            refine lv_iconst (v := (-1)) hx hb dX9_goOn_48 (by decide) ?_
            refine lv_ixor hx hb dX9_goOn_49 ?_
            refine wk_topP (P := fun r => r = x2 ^^^ ((-1) : Int32)) rfl (fun r34951 qr34951 => ?_)
            refine lv_iand hx hb dX9_goOn_50 ?_
            refine wk_topP (P := fun r => r = r34950 &&& r34951) rfl (fun r34952 qr34952 => ?_)
            refine lv_istore (lv' := [(5, .int r34952), (4, .int 0), (0, .ref (a 34)), (1, .int x0), (2, .int x1), (3, .int x2)]) hx hb dX9_goOn_51 hl (by decide) rfl (fun ls hl => ?_)
            refine lv_iconst (v := 0) hx hb dX9_goOn_53 (by decide) ?_
            refine lv_istore (lv' := [(6, .int 0), (5, .int r34952), (4, .int 0), (0, .ref (a 34)), (1, .int x0), (2, .int x1), (3, .int x2)]) hx hb dX9_goOn_54 hl (by decide) rfl (fun ls hl => ?_)
            exact lp56 13 (0 : Int32) r34952 (0 : Int32) u _ _ ls g34945 g34944 (by decide : Rg 0 1 (0 : Int32)) (by decide : Rg 0 12 (0 : Int32)) (by exact fun _ => by have z1 := (lz_lt _ _).mp (rg_nle c34940); have z2 : ¬ x0.toInt = r34946.toInt := fun z => c34947 (Int32.toInt_inj.mp z); have z3 := er34946; have z4 := (lz_le _ _).mp c34943; have z5 : (12 : Int32).toInt = 12 := (by decide); have z9 : (1 : Int32).toInt = 1 := (by decide); omega) hP hD hS (lv_sub (l' := [(0, .ref (a 34)), (1, .int x0), (2, .int x1), (3, .int x2), (4, .int 0), (5, .int r34952), (6, .int 0)]) hl [3, 4, 5, 6, 2, 1, 0] rfl) (me_i (by decide : Rg 0 12 (0 : Int32)) (by decide))
          · refine lv_iconst (v := 1) hx hb dX9_goOn_25 (by decide) ?_
            refine lv_goto (tgt := 30) hx hb dX9_goOn_26 (by decide) ?_
            refine lv_istore (lv' := [(4, .int 1), (0, .ref (a 34)), (1, .int x0), (2, .int x1), (3, .int x2)]) hx hb dX9_goOn_30 hl (by decide) rfl (fun ls hl => ?_)
            refine lv_aload_n hx hb dX9_goOn_32 rfl (lv_at hl 1 rfl) ?_
            refine va_get (D := D) (ci := 9) (v := .ref (a 1)) (C := RX9) (T := TX9) (N := 6) hx hb hts hin9 hown hK hP 34 rfl rfl 0 (by decide) (hts (.fieldLink RX9 21 "MissedPoints$Told" "net" "LMissedPoints$Net;") (by decide +kernel)) (fun _ h9 => h9) rfl dX9_goOn_33 ?_
            refine lv_aload_n hx hb dX9_goOn_36 rfl (lv_at hl 1 rfl) ?_
            refine va_get (D := D) (ci := 9) (v := .ref (a 36)) (C := RX9) (T := TX9) (N := 6) hx hb hts hin9 hown hK hP 34 rfl rfl 3 (by decide) (hts (.fieldLink RX9 15 "MissedPoints$Told" "row" "[I") (by decide +kernel)) (fun _ h9 => h9) rfl dX9_goOn_37 ?_
            refine lv_iload_n hx hb dX9_goOn_40 rfl (lv_at hl 2 rfl) ?_
            refine lv_iconst (v := 1) hx hb dX9_goOn_41 (by decide) ?_
            refine wk_isub (e1 := 0) (f := 10) hx hb dX9_goOn_42 g34945 (by decide : Rg 1 1 (1 : Int32)) (by decide) (fun r34953 hr34953 er34953 qr34953 => ?_)
            refine wk_aldA hx hb hK hP 36 0 rfl rfl (rg_in hr34953 (by decide) (by decide)) dX9_goOn_43 (fun r34954 => ?_)
            refine wk_sv 1 (As := [.int r34954]) (rest := []) ⟨hx, hb, hml, hown, hts⟩ (k_X2_near l D cI cS a na nc N L u hL hN r34954) hKK hP (ci := 2) rfl rfl (cwV 1 hts gX9_goOn_X2_near rfl rfl rfl (by decide +kernel) ⟨by show 1 + 1 ≤ (n + 1) + 1; omega, by show 8 + (2 + 11) + 40 ≤ 40 * ((n + 1) + 1); omega⟩) rfl hl.1 rfl (Nat.le_of_ble_eq_true rfl) dX9_goOn_44 ⟨Nat.le_of_ble_eq_true rfl, Nat.le_of_ble_eq_true rfl⟩ (fun r34955 hr34955 => ?_)
            refine lv_iload_n hx hb dX9_goOn_47 rfl (lv_at hl 4 rfl) ?_
            refine lv_iconst (v := (-1)) hx hb dX9_goOn_48 (by decide) ?_
            refine lv_ixor hx hb dX9_goOn_49 ?_
            refine wk_topP (P := fun r => r = x2 ^^^ ((-1) : Int32)) rfl (fun r34956 qr34956 => ?_)
            refine lv_iand hx hb dX9_goOn_50 ?_
            refine wk_topP (P := fun r => r = r34955 &&& r34956) rfl (fun r34957 qr34957 => ?_)
            refine lv_istore (lv' := [(5, .int r34957), (4, .int 1), (0, .ref (a 34)), (1, .int x0), (2, .int x1), (3, .int x2)]) hx hb dX9_goOn_51 hl (by decide) rfl (fun ls hl => ?_)
            refine lv_iconst (v := 0) hx hb dX9_goOn_53 (by decide) ?_
            refine lv_istore (lv' := [(6, .int 0), (5, .int r34957), (4, .int 1), (0, .ref (a 34)), (1, .int x0), (2, .int x1), (3, .int x2)]) hx hb dX9_goOn_54 hl (by decide) rfl (fun ls hl => ?_)
            exact lp56 13 (1 : Int32) r34957 (0 : Int32) u _ _ ls g34945 g34944 (by decide : Rg 0 1 (1 : Int32)) (by decide : Rg 0 12 (0 : Int32)) (by exact fun h9 => absurd h9 (by decide)) hP hD hS (lv_sub (l' := [(0, .ref (a 34)), (1, .int x0), (2, .int x1), (3, .int x2), (4, .int 1), (5, .int r34957), (6, .int 0)]) hl [3, 4, 5, 6, 2, 1, 0] rfl) (me_i (by decide : Rg 0 12 (0 : Int32)) (by decide))
        · have g34958 : Rg 13 2147483647 x1 := rg_ltr (by decide : Rg 12 12 (12 : Int32)) g34942 (rg_nle c34943) (by decide)
          refine lv_iconst (v := 0) hx hb dX9_goOn_16 (by decide) ?_
          subst hAe
          exact W.zret (v := 0) hx hb hr (by decide) (fun t ht hW => ⟨⟨_, u, rfl, ⟨(by decide : Rg 0 1 (0 : Int32)), trivial⟩, by rw [ht]; exact hP, hD⟩, hS.F ht⟩) hS.2.2 dX9_goOn_17
theorem k_X9_goOn (l : Launch) (D : va_G) (cI cS : ClassId) (sz : Nat) (a : Nat → Nat) (na nc N : Nat) (L u0 : SU) (hL : TyX L) (hN : N = 0 ∨ N = 24576) (x0 x1 x2 : Int32) (px0 : Rg 1 1 x0) : Met l yX9_goOn wsX9_goOn ({ frames := 13 + 1, cells := 0, slots := 0, locals := 40 * (13 + 1) }) (PQ D cI cS (wX cI cS a na nc N L u0) sz [.ref (a 34), .int x0, .int x1, .int x2]) (QF (S := SU) D (wX cI cS a na nc N L u0) (wX cI cS a na nc N L) sz (fun r _ => Rg 0 1 r ∧ True)) 0 0 (va_A (wX cI cS a na nc N L u0) sz) := k_X9_goOn_r l D cI cS a na nc N L hL hN 13 sz u0 x0 x1 x2 (rg_w px0 (by decide) (by decide)) (by have z1 := px0; omega)
set_option maxRecDepth 20000 in
theorem ggX3_numberOf_X1_keep : GoodIn wsX3_numberOf wsX1_keep := goodIn_r _ [29, 19, 20, 21, 37, 38] rfl (by decide +kernel)
set_option maxRecDepth 20000 in
theorem gX3_numberOf_X1_keep : GoodIn wsX3_numberOf (wsV RX3 65 RX1 yX1_keep wsX1_keep) := goodIn_app (goodIn_of _ (by decide +kernel)) ggX3_numberOf_X1_keep
set_option maxRecDepth 20000 in
theorem ggX3_numberOf_X1_recall : GoodIn wsX3_numberOf wsX1_recall := goodIn_r _ [18, 19, 20, 21, 37, 38] rfl (by decide +kernel)
set_option maxRecDepth 20000 in
theorem gX3_numberOf_X1_recall : GoodIn wsX3_numberOf (wsV RX3 58 RX1 yX1_recall wsX1_recall) := goodIn_app (goodIn_of _ (by decide +kernel)) ggX3_numberOf_X1_recall
set_option maxRecDepth 20000 in
theorem ggX3_numberOf_X3_numberOf : GoodIn wsX3_numberOf wsX3_numberOf := goodIn_r _ [0, 1, 2, 3, 4, 5, 6, 7, 8, 9, 10, 11, 12, 13, 14, 15, 16, 17, 18, 19, 20, 21, 22, 23, 24, 25, 26, 27, 28, 29, 30, 31, 32, 33, 34, 35, 36, 37, 38] rfl (by decide +kernel)
set_option maxRecDepth 20000 in
theorem gX3_numberOf_X3_numberOf : GoodIn wsX3_numberOf (wsV RX3 73 RX3 yX3_numberOf wsX3_numberOf) := goodIn_app (goodIn_of _ (by decide +kernel)) ggX3_numberOf_X3_numberOf
theorem dX3_numberOf_29 : decode cX3_numberOf 29 = .ok (.iload 4, 2) := by decide +kernel
theorem dX3_numberOf_31 : decode cX3_numberOf 31 = .ok (.bipush 12, 2) := by decide +kernel
theorem dX3_numberOf_33 : decode cX3_numberOf 33 = .ok (.if_icmp .ge 9, 3) := by decide +kernel
theorem dX3_numberOf_36 : decode cX3_numberOf 36 = .ok (.iload_n 3, 1) := by decide +kernel
theorem dX3_numberOf_37 : decode cX3_numberOf 37 = .ok (.bipush 12, 2) := by decide +kernel
theorem dX3_numberOf_39 : decode cX3_numberOf 39 = .ok (.if_icmp .le 5, 3) := by decide +kernel
theorem dX3_numberOf_100 : decode cX3_numberOf 100 = .ok (.iload 7, 2) := by decide +kernel
theorem dX3_numberOf_102 : decode cX3_numberOf 102 = .ok (.iload_n 2, 1) := by decide +kernel
theorem dX3_numberOf_103 : decode cX3_numberOf 103 = .ok (.iload_n 3, 1) := by decide +kernel
theorem dX3_numberOf_104 : decode cX3_numberOf 104 = .ok (.iconst 1, 1) := by decide +kernel
theorem dX3_numberOf_105 : decode cX3_numberOf 105 = .ok (.iadd, 1) := by decide +kernel
theorem dX3_numberOf_106 : decode cX3_numberOf 106 = .ok (.invokevirtual 73, 3) := by decide +kernel
theorem dX3_numberOf_109 : decode cX3_numberOf 109 = .ok (.istore 9, 2) := by decide +kernel
theorem dX3_numberOf_111 : decode cX3_numberOf 111 = .ok (.iconst 0, 1) := by decide +kernel
theorem dX3_numberOf_112 : decode cX3_numberOf 112 = .ok (.istore 10, 2) := by decide +kernel
theorem dX3_numberOf_114 : decode cX3_numberOf 114 = .ok (.iload 10, 2) := by decide +kernel
theorem dX3_numberOf_116 : decode cX3_numberOf 116 = .ok (.iload 4, 2) := by decide +kernel
theorem dX3_numberOf_118 : decode cX3_numberOf 118 = .ok (.if_icmp .ge 43, 3) := by decide +kernel
theorem dX3_numberOf_121 : decode cX3_numberOf 121 = .ok (.iload 8, 2) := by decide +kernel
theorem dX3_numberOf_123 : decode cX3_numberOf 123 = .ok (.iload 10, 2) := by decide +kernel
theorem dX3_numberOf_125 : decode cX3_numberOf 125 = .ok (.ishr, 1) := by decide +kernel
theorem dX3_numberOf_126 : decode cX3_numberOf 126 = .ok (.iconst 1, 1) := by decide +kernel
theorem dX3_numberOf_127 : decode cX3_numberOf 127 = .ok (.iand, 1) := by decide +kernel
theorem dX3_numberOf_128 : decode cX3_numberOf 128 = .ok (.ifCond .eq 27, 3) := by decide +kernel
theorem dX3_numberOf_131 : decode cX3_numberOf 131 = .ok (.iload 9, 2) := by decide +kernel
theorem dX3_numberOf_133 : decode cX3_numberOf 133 = .ok (.aload_n 0, 1) := by decide +kernel
theorem dX3_numberOf_134 : decode cX3_numberOf 134 = .ok (.iload 7, 2) := by decide +kernel
theorem dX3_numberOf_136 : decode cX3_numberOf 136 = .ok (.iconst 1, 1) := by decide +kernel
theorem dX3_numberOf_137 : decode cX3_numberOf 137 = .ok (.iload 10, 2) := by decide +kernel
theorem dX3_numberOf_139 : decode cX3_numberOf 139 = .ok (.ishl, 1) := by decide +kernel
theorem dX3_numberOf_140 : decode cX3_numberOf 140 = .ok (.iconst (-1), 1) := by decide +kernel
theorem dX3_numberOf_141 : decode cX3_numberOf 141 = .ok (.ixor, 1) := by decide +kernel
theorem dX3_numberOf_142 : decode cX3_numberOf 142 = .ok (.iand, 1) := by decide +kernel
theorem dX3_numberOf_143 : decode cX3_numberOf 143 = .ok (.iload_n 2, 1) := by decide +kernel
theorem dX3_numberOf_144 : decode cX3_numberOf 144 = .ok (.iconst 1, 1) := by decide +kernel
theorem dX3_numberOf_145 : decode cX3_numberOf 145 = .ok (.isub, 1) := by decide +kernel
theorem dX3_numberOf_146 : decode cX3_numberOf 146 = .ok (.iload_n 3, 1) := by decide +kernel
theorem dX3_numberOf_147 : decode cX3_numberOf 147 = .ok (.iconst 1, 1) := by decide +kernel
theorem dX3_numberOf_148 : decode cX3_numberOf 148 = .ok (.iadd, 1) := by decide +kernel
theorem dX3_numberOf_149 : decode cX3_numberOf 149 = .ok (.invokevirtual 73, 3) := by decide +kernel
theorem dX3_numberOf_152 : decode cX3_numberOf 152 = .ok (.iadd, 1) := by decide +kernel
theorem dX3_numberOf_153 : decode cX3_numberOf 153 = .ok (.istore 9, 2) := by decide +kernel
theorem dX3_numberOf_155 : decode cX3_numberOf 155 = .ok (.iinc 10 1, 3) := by decide +kernel
theorem dX3_numberOf_158 : decode cX3_numberOf 158 = .ok (.goto (-44), 3) := by decide +kernel
theorem dX3_numberOf_161 : decode cX3_numberOf 161 = .ok (.aload_n 0, 1) := by decide +kernel
theorem dX3_numberOf_162 : decode cX3_numberOf 162 = .ok (.getfield 20, 3) := by decide +kernel
theorem dX3_numberOf_165 : decode cX3_numberOf 165 = .ok (.iload 5, 2) := by decide +kernel
theorem dX3_numberOf_167 : decode cX3_numberOf 167 = .ok (.iload 9, 2) := by decide +kernel
theorem dX3_numberOf_169 : decode cX3_numberOf 169 = .ok (.invokevirtual 65, 3) := by decide +kernel
theorem dX3_numberOf_172 : decode cX3_numberOf 172 = .ok (.iload 9, 2) := by decide +kernel
theorem dX3_numberOf_174 : decode cX3_numberOf 174 = .ok (.ireturn, 1) := by decide +kernel
theorem dX3_numberOf_44 : decode cX3_numberOf 44 = .ok (.iload_n 2, 1) := by decide +kernel
theorem dX3_numberOf_45 : decode cX3_numberOf 45 = .ok (.iconst 1, 1) := by decide +kernel
theorem dX3_numberOf_46 : decode cX3_numberOf 46 = .ok (.isub, 1) := by decide +kernel
theorem dX3_numberOf_47 : decode cX3_numberOf 47 = .ok (.sipush 4096, 3) := by decide +kernel
theorem dX3_numberOf_50 : decode cX3_numberOf 50 = .ok (.imul, 1) := by decide +kernel
theorem dX3_numberOf_51 : decode cX3_numberOf 51 = .ok (.iload_n 1, 1) := by decide +kernel
theorem dX3_numberOf_52 : decode cX3_numberOf 52 = .ok (.iadd, 1) := by decide +kernel
theorem dX3_numberOf_53 : decode cX3_numberOf 53 = .ok (.istore 5, 2) := by decide +kernel
theorem dX3_numberOf_55 : decode cX3_numberOf 55 = .ok (.aload_n 0, 1) := by decide +kernel
theorem dX3_numberOf_56 : decode cX3_numberOf 56 = .ok (.getfield 20, 3) := by decide +kernel
theorem dX3_numberOf_59 : decode cX3_numberOf 59 = .ok (.iload 5, 2) := by decide +kernel
theorem dX3_numberOf_61 : decode cX3_numberOf 61 = .ok (.invokevirtual 58, 3) := by decide +kernel
theorem dX3_numberOf_64 : decode cX3_numberOf 64 = .ok (.istore 6, 2) := by decide +kernel
theorem dX3_numberOf_66 : decode cX3_numberOf 66 = .ok (.iload 6, 2) := by decide +kernel
theorem dX3_numberOf_68 : decode cX3_numberOf 68 = .ok (.ifCond .lt 6, 3) := by decide +kernel
theorem dX3_numberOf_71 : decode cX3_numberOf 71 = .ok (.iload 6, 2) := by decide +kernel
theorem dX3_numberOf_73 : decode cX3_numberOf 73 = .ok (.ireturn, 1) := by decide +kernel
theorem dX3_numberOf_74 : decode cX3_numberOf 74 = .ok (.iload_n 1, 1) := by decide +kernel
theorem dX3_numberOf_75 : decode cX3_numberOf 75 = .ok (.iconst 1, 1) := by decide +kernel
theorem dX3_numberOf_76 : decode cX3_numberOf 76 = .ok (.iload 4, 2) := by decide +kernel
theorem dX3_numberOf_78 : decode cX3_numberOf 78 = .ok (.ishl, 1) := by decide +kernel
theorem dX3_numberOf_79 : decode cX3_numberOf 79 = .ok (.iconst (-1), 1) := by decide +kernel
theorem dX3_numberOf_80 : decode cX3_numberOf 80 = .ok (.ixor, 1) := by decide +kernel
theorem dX3_numberOf_81 : decode cX3_numberOf 81 = .ok (.iand, 1) := by decide +kernel
theorem dX3_numberOf_82 : decode cX3_numberOf 82 = .ok (.istore 7, 2) := by decide +kernel
theorem dX3_numberOf_84 : decode cX3_numberOf 84 = .ok (.aload_n 0, 1) := by decide +kernel
theorem dX3_numberOf_85 : decode cX3_numberOf 85 = .ok (.getfield 23, 3) := by decide +kernel
theorem dX3_numberOf_88 : decode cX3_numberOf 88 = .ok (.getfield 61, 3) := by decide +kernel
theorem dX3_numberOf_91 : decode cX3_numberOf 91 = .ok (.iload 4, 2) := by decide +kernel
theorem dX3_numberOf_93 : decode cX3_numberOf 93 = .ok (.iaload, 1) := by decide +kernel
theorem dX3_numberOf_94 : decode cX3_numberOf 94 = .ok (.iload 7, 2) := by decide +kernel
theorem dX3_numberOf_96 : decode cX3_numberOf 96 = .ok (.iand, 1) := by decide +kernel
theorem dX3_numberOf_97 : decode cX3_numberOf 97 = .ok (.istore 8, 2) := by decide +kernel
theorem dX3_numberOf_99 : decode cX3_numberOf 99 = .ok (.aload_n 0, 1) := by decide +kernel
set_option maxHeartbeats 8000000 in
set_option maxRecDepth 100000 in
theorem k_X3_numberOf_r (l : Launch) (D : va_G) (cI cS : ClassId) (a : Nat → Nat) (na nc N : Nat) (L : SU) (hL : TyX L) (hN : N = 0 ∨ N = 24576) : ∀ (n sz : Nat) (u0 : SU) (x0 x1 x2 : Int32), Rg 0 65549 x1 → Rg 0 13 x2 → 13 - x2.toInt ≤ (n : Int) → Met l yX3_numberOf wsX3_numberOf ({ frames := n + 1, cells := 0, slots := 0, locals := 40 * (n + 1) }) (PQ D cI cS (wX cI cS a na nc N L u0) sz [.ref (a 7), .int x0, .int x1, .int x2]) (QF (S := SU) D (wX cI cS a na nc N L u0) (wX cI cS a na nc N L) sz (fun r _ => Rg (-2147483648) 2147483647 r ∧ True)) 0 0 (va_A (wX cI cS a na nc N L u0) sz) := by
  intro n
  induction n with
  | zero =>
    intro sz u0 x0 x1 x2 px1 px2 hrk
    have px2 : Rg 13 13 x2 := ⟨by omega, px2.2⟩
    refine Met.ofW (cc := cX3_numberOf) (maxL := 11) (ret := (some .int)) (by decide) rfl ?_
    intro p e s m args below meth c s₁ B hml hv
    obtain ⟨rfl, hsz, hP, hKK, hD0⟩ := hv
    have hx := B.exec
    have hb := B.bytes
    have hr := B.returns
    have hts := atoms_spec (ws := wsX3_numberOf) B.pre
    have hown : s.vm.findClass RX3 = some m.cls := findClass_of_methodNamed B.named
    have hlocks := B.notSynchronized
    have hK := hKK.1
    subst hsz
    have hD := hD0.self (sz := s.heap.size)
    obtain ⟨A, hAe⟩ : ∃ A, A = va_A (wX cI cS a na nc N L u0) s.heap.size := ⟨_, rfl⟩
    rw [← hAe] at hD
    have hA : ∀ q : Nat, s.heap.size ≤ q → A q := fun q h => by rw [hAe]; exact Or.inr h
    have hS : va_S A s.heap s.heap [] := va_S.rf
    have hl := lv_entry ([.ref (a 7), .int x0, .int x1, .int x2]) (n := 11) (Nat.le_of_ble_eq_true rfl)
    rw [lg_entry_eq]
    generalize (lg_sl ([.ref (a 7), .int x0, .int x1, .int x2]) ++ List.replicate (11 - (lg_sl ([.ref (a 7), .int x0, .int x1, .int x2])).length) Slot.unset).toArray = ls at hl ⊢
    have hl : lv_has ls 11 [(0, .ref (a 7)), (1, .int x0), (2, .int x1), (3, .int x2)] := hl
    obtain ⟨u, hu9⟩ : ∃ u : SU, u = u0 := ⟨_, rfl⟩
    rw [← hu9] at hP hD
    refine lv_iload_n hx hb dX3_numberOf_0 rfl (lv_at hl 2 rfl) ?_
    refine lv_if_ne (tgt := 6) hx hb dX3_numberOf_1 (by decide) (fun c34974 => ?_) (fun c34974 => ?_)
    · have g34975 : Rg 1 65549 x1 := rg_ne_lo (k := 0) px1 (by decide) c34974 (by decide)
      refine lv_bipush (v := 31) hx hb dX3_numberOf_6 (by decide) ?_
      refine lv_iload_n hx hb dX3_numberOf_8 rfl (lv_at hl 1 rfl) ?_
      refine lz_ss (As := [.int x0]) (rest := [.int 31]) ⟨hx, hb, hml, hown, hts⟩ (k_J6_numberOfLeadingZeros_0f7a4 l D cI cS x0) hKK (hP.sub (ws' := []) [] rfl) (va_cwS 1 hts gX3_numberOf_J6_numberOfLeadingZeros_0f7a4 rfl rfl rfl (by decide +kernel) ⟨by show 0 + 1 ≤ 0 + 1; omega, by show 8 + (2 + 11) + 0 ≤ 40 * (0 + 1); omega⟩) rfl hl.1 rfl (Nat.le_of_ble_eq_true rfl) dX3_numberOf_9 ⟨Nat.le_of_ble_eq_true rfl, Nat.le_of_ble_eq_true rfl⟩ (fun r34976 hr34976 => ?_)
      refine wk_isub (e1 := (-1)) (f := 31) hx hb dX3_numberOf_12 (by decide : Rg 31 31 (31 : Int32)) hr34976.1 (by decide) (fun r34977 hr34977 er34977 qr34977 => ?_)
      refine lv_istore (lv' := [(4, .int r34977), (0, .ref (a 7)), (1, .int x0), (2, .int x1), (3, .int x2)]) hx hb dX3_numberOf_13 hl (by decide) rfl (fun ls hl => ?_)
      refine lv_iload_n hx hb dX3_numberOf_15 rfl (lv_at hl 3 rfl) ?_
      refine lv_if_lt (tgt := 42) hx hb dX3_numberOf_16 (by decide) (fun c34978 => ?_) (fun c34978 => ?_)
      · exact absurd c34978 (wk_nlt g34975 (by decide : Rg 0 0 (0 : Int32)) (by decide))
      · refine lv_iconst (v := 2) hx hb dX3_numberOf_19 (by decide) ?_
        refine lv_iload_n hx hb dX3_numberOf_20 rfl (lv_at hl 3 rfl) ?_
        refine wk_imul (f := 131098) hx hb dX3_numberOf_21 (by decide : Rg 0 2 (2 : Int32)) (show Rg 0 65549 x1 from rg_w g34975 (by decide) (by decide)) (by decide) (fun r34979 hr34979 er34979 qr34979 => ?_)
        refine lv_iload_n hx hb dX3_numberOf_22 rfl (lv_at hl 2 rfl) ?_
        refine lz_ss (As := [.int x0]) (rest := [.int r34979]) ⟨hx, hb, hml, hown, hts⟩ (k_J6_bitCount_0f7a4 l D cI cS x0) hKK (hP.sub (ws' := []) [] rfl) (va_cwS 1 hts gX3_numberOf_J6_bitCount_0f7a4 rfl rfl rfl (by decide +kernel) ⟨by show 0 + 1 ≤ 0 + 1; omega, by show 8 + (1 + 11) + 0 ≤ 40 * (0 + 1); omega⟩) rfl hl.1 rfl (Nat.le_of_ble_eq_true rfl) dX3_numberOf_23 ⟨Nat.le_of_ble_eq_true rfl, Nat.le_of_ble_eq_true rfl⟩ (fun r34980 hr34980 => ?_)
        refine lv_icmp_gt (tgt := 42) hx hb dX3_numberOf_26 (by decide) (fun c34981 => ?_) (fun c34981 => ?_)
        · have g34982 : Rg (-2147483648) 131097 r34980 := rg_ltl hr34980.1 hr34979 c34981 (by decide)
          refine lv_iconst (v := 0) hx hb dX3_numberOf_42 (by decide) ?_
          subst hAe
          exact W.iret (v := 0) hx hb hr (fun t ht hW => ⟨⟨_, u, rfl, ⟨(by decide : Rg (-2147483648) 2147483647 (0 : Int32)), trivial⟩, by rw [ht]; exact hP, hD⟩, hS.F ht⟩) hS.2.2 dX3_numberOf_43
        · have g34983 : Rg 0 2147483647 r34980 := rg_ler hr34979 hr34980.1 (rg_nlt c34981) (by decide)
          refine lv_iload hx hb dX3_numberOf_29 (lv_at hl 0 rfl) ?_
          refine lv_bipush (v := 12) hx hb dX3_numberOf_31 (by decide) ?_
          refine lv_icmp_ge (tgt := 42) hx hb dX3_numberOf_33 (by decide) (fun c34984 => ?_) (fun c34984 => ?_)
          · have g34985 : Rg 12 31 r34977 := rg_ler (by decide : Rg 12 12 (12 : Int32)) hr34977 c34984 (by decide)
            refine lv_iconst (v := 0) hx hb dX3_numberOf_42 (by decide) ?_
            subst hAe
            exact W.iret (v := 0) hx hb hr (fun t ht hW => ⟨⟨_, u, rfl, ⟨(by decide : Rg (-2147483648) 2147483647 (0 : Int32)), trivial⟩, by rw [ht]; exact hP, hD⟩, hS.F ht⟩) hS.2.2 dX3_numberOf_43
          · have g34986 : Rg (-1) 11 r34977 := rg_ltl hr34977 (by decide : Rg 12 12 (12 : Int32)) (rg_nle c34984) (by decide)
            refine lv_iload_n hx hb dX3_numberOf_36 rfl (lv_at hl 4 rfl) ?_
            refine lv_bipush (v := 12) hx hb dX3_numberOf_37 (by decide) ?_
            refine lv_icmp_le (tgt := 44) hx hb dX3_numberOf_39 (by decide) (fun c34987 => ?_) (fun c34987 => ?_)
            · exact absurd c34987 (wk_nle px2 (by decide : Rg 12 12 (12 : Int32)) (by decide))
            · refine lv_iconst (v := 0) hx hb dX3_numberOf_42 (by decide) ?_
              subst hAe
              exact W.iret (v := 0) hx hb hr (fun t ht hW => ⟨⟨_, u, rfl, ⟨(by decide : Rg (-2147483648) 2147483647 (0 : Int32)), trivial⟩, by rw [ht]; exact hP, hD⟩, hS.F ht⟩) hS.2.2 dX3_numberOf_43
    · have g34988 : Rg 0 0 x1 := wk_eql px1 (by decide : Rg 0 0 (0 : Int32)) c34974 (by decide)
      refine lv_iconst (v := 1) hx hb dX3_numberOf_4 (by decide) ?_
      subst hAe
      exact W.iret (v := 1) hx hb hr (fun t ht hW => ⟨⟨_, u, rfl, ⟨(by decide : Rg (-2147483648) 2147483647 (1 : Int32)), trivial⟩, by rw [ht]; exact hP, hD⟩, hS.F ht⟩) hS.2.2 dX3_numberOf_5
  | succ n ih =>
    intro sz u0 x0 x1 x2 px1 px2 hrk
    refine Met.ofW (cc := cX3_numberOf) (maxL := 11) (ret := (some .int)) (by decide) rfl ?_
    intro p e s m args below meth c s₁ B hml hv
    obtain ⟨rfl, hsz, hP, hKK, hD0⟩ := hv
    have hx := B.exec
    have hb := B.bytes
    have hr := B.returns
    have hts := atoms_spec (ws := wsX3_numberOf) B.pre
    have hown : s.vm.findClass RX3 = some m.cls := findClass_of_methodNamed B.named
    have hlocks := B.notSynchronized
    have hK := hKK.1
    have hin2 : ∀ w ∈ wsX20, w ∈ wsX3_numberOf := by decide +kernel
    have hin3 : ∀ w ∈ wsX30, w ∈ wsX3_numberOf := by decide +kernel
    subst hsz
    have hD := hD0.self (sz := s.heap.size)
    obtain ⟨A, hAe⟩ : ∃ A, A = va_A (wX cI cS a na nc N L u0) s.heap.size := ⟨_, rfl⟩
    rw [← hAe] at hD
    have hA : ∀ q : Nat, s.heap.size ≤ q → A q := fun q h => by rw [hAe]; exact Or.inr h
    have hS : va_S A s.heap s.heap [] := va_S.rf
    have hl := lv_entry ([.ref (a 7), .int x0, .int x1, .int x2]) (n := 11) (Nat.le_of_ble_eq_true rfl)
    rw [lg_entry_eq]
    generalize (lg_sl ([.ref (a 7), .int x0, .int x1, .int x2]) ++ List.replicate (11 - (lg_sl ([.ref (a 7), .int x0, .int x1, .int x2])).length) Slot.unset).toArray = ls at hl ⊢
    have hl : lv_has ls 11 [(0, .ref (a 7)), (1, .int x0), (2, .int x1), (3, .int x2)] := hl
    obtain ⟨u, hu9⟩ : ∃ u : SU, u = u0 := ⟨_, rfl⟩
    rw [← hu9] at hP hD
    have lp114 : ∀ (n114 : Nat) (y114_l4 : Int32) (y114_l5 : Int32) (y114_l7 : Int32) (y114_l8 : Int32) (y114_l9 : Int32) (y114_l10 : Int32) (u : SU) (H : Heap) (locs : List Loc) (ls : Array Slot), Rg 1 65549 x1 → Rg 0 12 x2 → Rg 0 11 y114_l4 → Rg 0 11 y114_l10 → va_P D cls (wX cI cS a na nc N L u) H → va_D A (wX cI cS a na nc N L u) → va_S A s.heap H locs → lv_has ls 11 [(0, .ref (a 7)), (2, .int x1), (3, .int x2), (4, .int y114_l4), (5, .int y114_l5), (7, .int y114_l7), (8, .int y114_l8), (9, .int y114_l9), (10, .int y114_l10)] → 11 - y114_l10.toInt < (n114 : Int) → W p l e (headSpec wsX3_numberOf ({ frames := n + 1 + 1, cells := 0, slots := 0, locals := 40 * (n + 1 + 1) })).room s m ([.ref (a 7), .int x0, .int x1, .int x2]).toArray below meth c H locs 0 0 (MQ below (QF (S := SU) D (wX cI cS a na nc N L u0) (wX cI cS a na nc N L) s.heap.size (fun r _ => Rg (-2147483648) 2147483647 r ∧ True)) ([.ref (a 7), .int x0, .int x1, .int x2]).toArray s 0 0 (va_A (wX cI cS a na nc N L u0) s.heap.size)) (F0 m 114 ls []) := by
      intro n114
      induction n114 with
      | zero =>
        intro y114_l4 y114_l5 y114_l7 y114_l8 y114_l9 y114_l10 u H locs ls g114_l2 g114_l3 g114_l4 g114_l10 hP hD hS hl hm114
        exact absurd rfl (me_z g114_l10 hm114)
      | succ n114 ih114 =>
        intro y114_l4 y114_l5 y114_l7 y114_l8 y114_l9 y114_l10 u H locs ls g114_l2 g114_l3 g114_l4 g114_l10 hP hD hS hl hm114
        refine lv_iload hx hb dX3_numberOf_114 (lv_at hl 8 rfl) ?_
        refine lv_iload hx hb dX3_numberOf_116 (lv_at hl 3 rfl) ?_
        refine lv_icmp_ge (tgt := 161) hx hb dX3_numberOf_118 (by decide) (fun c35388 => ?_) (fun c35388 => ?_)
        · refine lv_aload_n hx hb dX3_numberOf_161 rfl (lv_at hl 0 rfl) ?_
          refine va_get (D := D) (ci := 3) (v := .ref na) (C := RX3) (T := TX3) (N := 4) hx hb hts hin3 hown hK hP 7 rfl rfl 2 (by decide) (hts (.fieldLink RX3 20 "MissedPoints$Pairs" "numbers" "LMissedPoints$Memo;") (by decide +kernel)) (fun _ h9 => h9) rfl dX3_numberOf_162 ?_
          refine lv_iload hx hb dX3_numberOf_165 (lv_at hl 4 rfl) ?_
          refine lv_iload hx hb dX3_numberOf_167 (lv_at hl 7 rfl) ?_
          refine wk_qv (wX cI cS a na nc N L) u (As := [.int y114_l5, .int y114_l9]) (rest := []) ⟨hx, hb, hml, hown, hts⟩ (k_X1_keep_13 l D cI cS _ a na nc N L u hL hN y114_l5 y114_l9) hKK hP hD hS hA 13 (ci := 1) rfl rfl (cwV 2 hts gX3_numberOf_X1_keep rfl rfl rfl (by decide +kernel) ⟨by show 0 + 1 ≤ (n + 1) + 1; omega, by show 8 + (3 + 11) + 0 ≤ 40 * ((n + 1) + 1); omega⟩) rfl hl.1 rfl (Nat.le_of_ble_eq_true rfl) dX3_numberOf_169 ⟨Nat.le_of_ble_eq_true rfl, Nat.le_of_ble_eq_true rfl⟩ (fun u H locs hr35389 hP hD hS => ?_)
          refine lv_iload hx hb dX3_numberOf_172 (lv_at hl 7 rfl) ?_
          subst hAe
          exact W.iret (v := y114_l9) hx hb hr (fun t ht hW => ⟨⟨_, u, rfl, ⟨(rg_any y114_l9), trivial⟩, by rw [ht]; exact hP, hD⟩, hS.F ht⟩) hS.2.2 dX3_numberOf_174
        · have g35390 : Rg 1 11 y114_l4 := rg_ltr g114_l10 g114_l4 (rg_nle c35388) (by decide)
          have g35391 : Rg 0 10 y114_l10 := rg_ltl g114_l10 g114_l4 (rg_nle c35388) (by decide)
          refine lv_iload hx hb dX3_numberOf_121 (lv_at hl 6 rfl) ?_
          refine lv_iload hx hb dX3_numberOf_123 (lv_at hl 8 rfl) ?_
          refine lv_ishr hx hb dX3_numberOf_125 ?_
          refine wk_topP (P := fun r => r = y114_l8 >>> (y114_l10 &&& 31)) rfl (fun r35392 qr35392 => ?_)
          refine lv_iconst (v := 1) hx hb dX3_numberOf_126 (by decide) ?_
          refine wk_iandr hx hb dX3_numberOf_127 (by decide : Rg 1 1 (1 : Int32)) (by decide) (fun r35393 hr35393 qr35393 => ?_)
          refine lv_if_eq (tgt := 155) hx hb dX3_numberOf_128 (by decide) (fun c35394 => ?_) (fun c35394 => ?_)
          · have g35395 : Rg 0 0 r35393 := wk_eql hr35393 (by decide : Rg 0 0 (0 : Int32)) c35394 (by decide)
            refine wk_iinc (lv' := fun r => [(10, .int r), (0, .ref (a 7)), (2, .int x1), (3, .int x2), (4, .int y114_l4), (5, .int y114_l5), (7, .int y114_l7), (8, .int y114_l8), (9, .int y114_l9)]) (e1 := 1) (f := 11) hx hb dX3_numberOf_155 hl (k := 8) rfl (by decide) g35391 (by decide) (fun _ => rfl) (fun r35396 ls hr35396 er35396 hl => ?_)
            refine lv_goto (tgt := 114) hx hb dX3_numberOf_158 (by decide) ?_
            exact ih114 y114_l4 y114_l5 y114_l7 y114_l8 y114_l9 r35396 u _ _ ls g114_l2 g114_l3 (show Rg 0 11 y114_l4 from rg_w g35390 (by decide) (by decide)) (show Rg 0 11 r35396 from rg_w hr35396 (by decide) (by decide)) hP hD hS (lv_sub (l' := [(0, .ref (a 7)), (2, .int x1), (3, .int x2), (4, .int y114_l4), (5, .int y114_l5), (7, .int y114_l7), (8, .int y114_l8), (9, .int y114_l9), (10, .int r35396)]) hl [1, 2, 3, 4, 5, 6, 7, 8, 0] rfl) (me_up hm114 er35396 (by decide))
          · have g35397 : Rg 1 1 r35393 := rg_ne_lo (k := 0) hr35393 (by decide) c35394 (by decide)
            refine lv_iload hx hb dX3_numberOf_131 (lv_at hl 7 rfl) ?_
            refine lv_aload_n hx hb dX3_numberOf_133 rfl (lv_at hl 0 rfl) ?_
            refine lv_iload hx hb dX3_numberOf_134 (lv_at hl 5 rfl) ?_
            refine lv_iconst (v := 1) hx hb dX3_numberOf_136 (by decide) ?_
            refine lv_iload hx hb dX3_numberOf_137 (lv_at hl 8 rfl) ?_
            refine wk_ishl1 (f := 1024) hx hb dX3_numberOf_139 g35391 (by decide) (fun r35398 hr35398 qr35398 => ?_)
            refine lv_iconst (v := (-1)) hx hb dX3_numberOf_140 (by decide) ?_
            refine lv_ixor hx hb dX3_numberOf_141 ?_
            refine wk_topP (P := fun r => r = r35398 ^^^ ((-1) : Int32)) rfl (fun r35399 qr35399 => ?_)
            refine lv_iand hx hb dX3_numberOf_142 ?_
            refine wk_topP (P := fun r => r = y114_l7 &&& r35399) rfl (fun r35400 qr35400 => ?_)
            refine lv_iload_n hx hb dX3_numberOf_143 rfl (lv_at hl 1 rfl) ?_
            refine lv_iconst (v := 1) hx hb dX3_numberOf_144 (by decide) ?_
            refine wk_isub (e1 := 0) (f := 65548) hx hb dX3_numberOf_145 g114_l2 (by decide : Rg 1 1 (1 : Int32)) (by decide) (fun r35401 hr35401 er35401 qr35401 => ?_)
            refine lv_iload_n hx hb dX3_numberOf_146 rfl (lv_at hl 2 rfl) ?_
            refine lv_iconst (v := 1) hx hb dX3_numberOf_147 (by decide) ?_
            refine wk_iadd (e1 := 1) (f := 13) hx hb dX3_numberOf_148 g114_l3 (by decide : Rg 1 1 (1 : Int32)) (by decide) (fun r35402 hr35402 er35402 qr35402 => ?_)
            refine wk_qi (wX cI cS a na nc N L) u (As := [.int r35400, .int r35401, .int r35402]) (rest := [.int y114_l9]) ⟨hx, hb, hml, hown, hts⟩ (ih _ u r35400 r35401 r35402 ((show Rg 0 65549 r35401 from rg_w hr35401 (by decide) (by decide))) ((show Rg 0 13 r35402 from rg_w hr35402 (by decide) (by decide))) (by have z1 := er35402; have z9 : (1 : Int32).toInt = 1 := (by decide); omega)) hKK hP hD hS hA 7 (ci := 3) rfl rfl (cwV 3 hts gX3_numberOf_X3_numberOf rfl rfl rfl (by decide +kernel) ⟨by show n + 1 + 1 ≤ (n + 1) + 1; omega, by show 8 + (11 + 11) + 40 * (n + 1) ≤ 40 * ((n + 1) + 1); omega⟩) rfl hl.1 rfl (Nat.le_of_ble_eq_true rfl) dX3_numberOf_149 ⟨Nat.le_of_ble_eq_true rfl, Nat.le_of_ble_eq_true rfl⟩ (fun r35403 u H locs hr35403 hP hD hS => ?_)
            refine lv_iadd hx hb dX3_numberOf_152 ?_
            refine wk_topP (P := fun r => r = y114_l9 + r35403) rfl (fun r35404 qr35404 => ?_)
            refine lv_istore (lv' := [(9, .int r35404), (0, .ref (a 7)), (2, .int x1), (3, .int x2), (4, .int y114_l4), (5, .int y114_l5), (7, .int y114_l7), (8, .int y114_l8), (10, .int y114_l10)]) hx hb dX3_numberOf_153 hl (by decide) rfl (fun ls hl => ?_)
            refine wk_iinc (lv' := fun r => [(10, .int r), (9, .int r35404), (0, .ref (a 7)), (2, .int x1), (3, .int x2), (4, .int y114_l4), (5, .int y114_l5), (7, .int y114_l7), (8, .int y114_l8)]) (e1 := 1) (f := 11) hx hb dX3_numberOf_155 hl (k := 8) rfl (by decide) g35391 (by decide) (fun _ => rfl) (fun r35405 ls hr35405 er35405 hl => ?_)
            refine lv_goto (tgt := 114) hx hb dX3_numberOf_158 (by decide) ?_
            exact ih114 y114_l4 y114_l5 y114_l7 y114_l8 r35404 r35405 u _ _ ls g114_l2 g114_l3 (show Rg 0 11 y114_l4 from rg_w g35390 (by decide) (by decide)) (show Rg 0 11 r35405 from rg_w hr35405 (by decide) (by decide)) hP hD hS (lv_sub (l' := [(0, .ref (a 7)), (2, .int x1), (3, .int x2), (4, .int y114_l4), (5, .int y114_l5), (7, .int y114_l7), (8, .int y114_l8), (9, .int r35404), (10, .int r35405)]) hl [2, 3, 4, 5, 6, 7, 8, 1, 0] rfl) (me_up hm114 er35405 (by decide))
    refine lv_iload_n hx hb dX3_numberOf_0 rfl (lv_at hl 2 rfl) ?_
    refine lv_if_ne (tgt := 6) hx hb dX3_numberOf_1 (by decide) (fun c35406 => ?_) (fun c35406 => ?_)
    · have g35407 : Rg 1 65549 x1 := rg_ne_lo (k := 0) px1 (by decide) c35406 (by decide)
      refine lv_bipush (v := 31) hx hb dX3_numberOf_6 (by decide) ?_
      refine lv_iload_n hx hb dX3_numberOf_8 rfl (lv_at hl 1 rfl) ?_
      refine lz_ss (As := [.int x0]) (rest := [.int 31]) ⟨hx, hb, hml, hown, hts⟩ (k_J6_numberOfLeadingZeros_0f7a4 l D cI cS x0) hKK (hP.sub (ws' := []) [] rfl) (va_cwS 1 hts gX3_numberOf_J6_numberOfLeadingZeros_0f7a4 rfl rfl rfl (by decide +kernel) ⟨by show 0 + 1 ≤ (n + 1) + 1; omega, by show 8 + (2 + 11) + 0 ≤ 40 * ((n + 1) + 1); omega⟩) rfl hl.1 rfl (Nat.le_of_ble_eq_true rfl) dX3_numberOf_9 ⟨Nat.le_of_ble_eq_true rfl, Nat.le_of_ble_eq_true rfl⟩ (fun r35408 hr35408 => ?_)
      refine wk_isub (e1 := (-1)) (f := 31) hx hb dX3_numberOf_12 (by decide : Rg 31 31 (31 : Int32)) hr35408.1 (by decide) (fun r35409 hr35409 er35409 qr35409 => ?_)
      refine lv_istore (lv' := [(4, .int r35409), (0, .ref (a 7)), (1, .int x0), (2, .int x1), (3, .int x2)]) hx hb dX3_numberOf_13 hl (by decide) rfl (fun ls hl => ?_)
      refine lv_iload_n hx hb dX3_numberOf_15 rfl (lv_at hl 3 rfl) ?_
      refine lv_if_lt (tgt := 42) hx hb dX3_numberOf_16 (by decide) (fun c35410 => ?_) (fun c35410 => ?_)
      · exact absurd c35410 (wk_nlt g35407 (by decide : Rg 0 0 (0 : Int32)) (by decide))
      · refine lv_iconst (v := 2) hx hb dX3_numberOf_19 (by decide) ?_
        refine lv_iload_n hx hb dX3_numberOf_20 rfl (lv_at hl 3 rfl) ?_
        refine wk_imul (f := 131098) hx hb dX3_numberOf_21 (by decide : Rg 0 2 (2 : Int32)) (show Rg 0 65549 x1 from rg_w g35407 (by decide) (by decide)) (by decide) (fun r35411 hr35411 er35411 qr35411 => ?_)
        refine lv_iload_n hx hb dX3_numberOf_22 rfl (lv_at hl 2 rfl) ?_
        refine lz_ss (As := [.int x0]) (rest := [.int r35411]) ⟨hx, hb, hml, hown, hts⟩ (k_J6_bitCount_0f7a4 l D cI cS x0) hKK (hP.sub (ws' := []) [] rfl) (va_cwS 1 hts gX3_numberOf_J6_bitCount_0f7a4 rfl rfl rfl (by decide +kernel) ⟨by show 0 + 1 ≤ (n + 1) + 1; omega, by show 8 + (1 + 11) + 0 ≤ 40 * ((n + 1) + 1); omega⟩) rfl hl.1 rfl (Nat.le_of_ble_eq_true rfl) dX3_numberOf_23 ⟨Nat.le_of_ble_eq_true rfl, Nat.le_of_ble_eq_true rfl⟩ (fun r35412 hr35412 => ?_)
        refine lv_icmp_gt (tgt := 42) hx hb dX3_numberOf_26 (by decide) (fun c35413 => ?_) (fun c35413 => ?_)
        · have g35414 : Rg (-2147483648) 131097 r35412 := rg_ltl hr35412.1 hr35411 c35413 (by decide)
          refine lv_iconst (v := 0) hx hb dX3_numberOf_42 (by decide) ?_
          subst hAe
          exact W.iret (v := 0) hx hb hr (fun t ht hW => ⟨⟨_, u, rfl, ⟨(by decide : Rg (-2147483648) 2147483647 (0 : Int32)), trivial⟩, by rw [ht]; exact hP, hD⟩, hS.F ht⟩) hS.2.2 dX3_numberOf_43
        · have g35415 : Rg 0 2147483647 r35412 := rg_ler hr35411 hr35412.1 (rg_nlt c35413) (by decide)
          refine lv_iload hx hb dX3_numberOf_29 (lv_at hl 0 rfl) ?_
          refine lv_bipush (v := 12) hx hb dX3_numberOf_31 (by decide) ?_
          refine lv_icmp_ge (tgt := 42) hx hb dX3_numberOf_33 (by decide) (fun c35416 => ?_) (fun c35416 => ?_)
          · have g35417 : Rg 12 31 r35409 := rg_ler (by decide : Rg 12 12 (12 : Int32)) hr35409 c35416 (by decide)
            refine lv_iconst (v := 0) hx hb dX3_numberOf_42 (by decide) ?_
            subst hAe
            exact W.iret (v := 0) hx hb hr (fun t ht hW => ⟨⟨_, u, rfl, ⟨(by decide : Rg (-2147483648) 2147483647 (0 : Int32)), trivial⟩, by rw [ht]; exact hP, hD⟩, hS.F ht⟩) hS.2.2 dX3_numberOf_43
          · have g35418 : Rg (-1) 11 r35409 := rg_ltl hr35409 (by decide : Rg 12 12 (12 : Int32)) (rg_nle c35416) (by decide)
            refine lv_iload_n hx hb dX3_numberOf_36 rfl (lv_at hl 4 rfl) ?_
            refine lv_bipush (v := 12) hx hb dX3_numberOf_37 (by decide) ?_
            refine lv_icmp_le (tgt := 44) hx hb dX3_numberOf_39 (by decide) (fun c35419 => ?_) (fun c35419 => ?_)
            · have g35420 : Rg 0 12 x2 := rg_lel px2 (by decide : Rg 12 12 (12 : Int32)) c35419 (by decide)
              have z35421 : ¬ x0 = 0 := fun z8 => by have z1 := congrArg Int32.toInt (hr35412.2 z8); have z2 := (lz_le _ _).mp (rg_nlt c35413); have z3 := er35411; have z4 : (2 : Int32).toInt = 2 := (by decide); have z5 := g35407; have z6 : (0 : Int32).toInt = 0 := (by decide); rw [z4] at z3; omega
              have g35422 : Rg 0 11 r35409 := ⟨by have z1 := hr35408.2 z35421; have z2 := er35409; have z3 : (31 : Int32).toInt = 31 := (by decide); omega, g35418.2⟩
              refine lv_iload_n hx hb dX3_numberOf_44 rfl (lv_at hl 3 rfl) ?_
              refine lv_iconst (v := 1) hx hb dX3_numberOf_45 (by decide) ?_
              refine wk_isub (e1 := 0) (f := 65548) hx hb dX3_numberOf_46 g35407 (by decide : Rg 1 1 (1 : Int32)) (by decide) (fun r35423 hr35423 er35423 qr35423 => ?_)
              refine lv_sipush (v := 4096) hx hb dX3_numberOf_47 (by decide) ?_
              refine wk_imul (f := 268484608) hx hb dX3_numberOf_50 hr35423 (by decide : Rg 0 4096 (4096 : Int32)) (by decide) (fun r35424 hr35424 er35424 qr35424 => ?_)
              refine lv_iload_n hx hb dX3_numberOf_51 rfl (lv_at hl 2 rfl) ?_
              refine lv_iadd hx hb dX3_numberOf_52 ?_
              refine wk_topP (P := fun r => r = r35424 + x0) rfl (fun r35425 qr35425 => ?_)
              refine lv_istore (lv' := [(5, .int r35425), (4, .int r35409), (0, .ref (a 7)), (1, .int x0), (2, .int x1), (3, .int x2)]) hx hb dX3_numberOf_53 hl (by decide) rfl (fun ls hl => ?_)
              refine lv_aload_n hx hb dX3_numberOf_55 rfl (lv_at hl 2 rfl) ?_
              refine va_get (D := D) (ci := 3) (v := .ref na) (C := RX3) (T := TX3) (N := 4) hx hb hts hin3 hown hK hP 7 rfl rfl 2 (by decide) (hts (.fieldLink RX3 20 "MissedPoints$Pairs" "numbers" "LMissedPoints$Memo;") (by decide +kernel)) (fun _ h9 => h9) rfl dX3_numberOf_56 ?_
              refine lv_iload hx hb dX3_numberOf_59 (lv_at hl 0 rfl) ?_
              refine wk_sv 13 (As := [.int r35425]) (rest := []) ⟨hx, hb, hml, hown, hts⟩ (k_X1_recall_13 l D cI cS a na nc N L u hL hN r35425) hKK hP (ci := 1) rfl rfl (cwV 1 hts gX3_numberOf_X1_recall rfl rfl rfl (by decide +kernel) ⟨by show 0 + 1 ≤ (n + 1) + 1; omega, by show 8 + (2 + 11) + 0 ≤ 40 * ((n + 1) + 1); omega⟩) rfl hl.1 rfl (Nat.le_of_ble_eq_true rfl) dX3_numberOf_61 ⟨Nat.le_of_ble_eq_true rfl, Nat.le_of_ble_eq_true rfl⟩ (fun r35426 hr35426 => ?_)
              refine lv_istore (lv' := [(6, .int r35426), (5, .int r35425), (4, .int r35409), (0, .ref (a 7)), (1, .int x0), (2, .int x1), (3, .int x2)]) hx hb dX3_numberOf_64 hl (by decide) rfl (fun ls hl => ?_)
              refine lv_iload hx hb dX3_numberOf_66 (lv_at hl 0 rfl) ?_
              refine lv_if_lt (tgt := 74) hx hb dX3_numberOf_68 (by decide) (fun c35427 => ?_) (fun c35427 => ?_)
              · have g35428 : Rg (-1) (-1) r35426 := rg_ltl hr35426.1 (by decide : Rg 0 0 (0 : Int32)) c35427 (by decide)
                refine lv_iload_n hx hb dX3_numberOf_74 rfl (lv_at hl 4 rfl) ?_
                refine lv_iconst (v := 1) hx hb dX3_numberOf_75 (by decide) ?_
                refine lv_iload hx hb dX3_numberOf_76 (lv_at hl 2 rfl) ?_
                refine wk_ishl1 (f := 2048) hx hb dX3_numberOf_78 g35422 (by decide) (fun r35429 hr35429 qr35429 => ?_)
                refine lv_iconst (v := (-1)) hx hb dX3_numberOf_79 (by decide) ?_
                refine lv_ixor hx hb dX3_numberOf_80 ?_
                refine wk_topP (P := fun r => r = r35429 ^^^ ((-1) : Int32)) rfl (fun r35430 qr35430 => ?_)
                refine lv_iand hx hb dX3_numberOf_81 ?_
                refine wk_topP (P := fun r => r = x0 &&& r35430) rfl (fun r35431 qr35431 => ?_)
                refine lv_istore (lv' := [(7, .int r35431), (6, .int r35426), (5, .int r35425), (4, .int r35409), (0, .ref (a 7)), (1, .int x0), (2, .int x1), (3, .int x2)]) hx hb dX3_numberOf_82 hl (by decide) rfl (fun ls hl => ?_)
                refine lv_aload_n hx hb dX3_numberOf_84 rfl (lv_at hl 4 rfl) ?_
                refine va_get (D := D) (ci := 3) (v := .ref (a 1)) (C := RX3) (T := TX3) (N := 4) hx hb hts hin3 hown hK hP 7 rfl rfl 0 (by decide) (hts (.fieldLink RX3 23 "MissedPoints$Pairs" "net" "LMissedPoints$Net;") (by decide +kernel)) (fun _ h9 => h9) rfl dX3_numberOf_85 ?_
                refine va_getN (D := D) (ci := 2) (v := .ref (a 2)) (C := RX2) (T := TX2) (N := 3) hx hb hts hin2 hown hK hP 1 rfl rfl 0 (by decide) (va_Nw.use rfl hKK.2.2.2.2.2.2.2.2.2.2.2.2.1) (fun _ h9 => h9) rfl dX3_numberOf_88 ?_
                refine lv_iload hx hb dX3_numberOf_91 (lv_at hl 3 rfl) ?_
                refine wk_aldA hx hb hK hP 2 0 rfl rfl (rg_in g35422 (by decide) (by decide)) dX3_numberOf_93 (fun r35432 => ?_)
                refine lv_iload hx hb dX3_numberOf_94 (lv_at hl 0 rfl) ?_
                refine lv_iand hx hb dX3_numberOf_96 ?_
                refine wk_topP (P := fun r => r = r35432 &&& r35431) rfl (fun r35433 qr35433 => ?_)
                refine lv_istore (lv' := [(8, .int r35433), (7, .int r35431), (6, .int r35426), (5, .int r35425), (4, .int r35409), (0, .ref (a 7)), (1, .int x0), (2, .int x1), (3, .int x2)]) hx hb dX3_numberOf_97 hl (by decide) rfl (fun ls hl => ?_)
                refine lv_aload_n hx hb dX3_numberOf_99 rfl (lv_at hl 5 rfl) ?_
                refine lv_iload hx hb dX3_numberOf_100 (lv_at hl 1 rfl) ?_
                refine lv_iload_n hx hb dX3_numberOf_102 rfl (lv_at hl 7 rfl) ?_
                refine lv_iload_n hx hb dX3_numberOf_103 rfl (lv_at hl 8 rfl) ?_
                refine lv_iconst (v := 1) hx hb dX3_numberOf_104 (by decide) ?_
                refine wk_iadd (e1 := 1) (f := 13) hx hb dX3_numberOf_105 g35420 (by decide : Rg 1 1 (1 : Int32)) (by decide) (fun r35434 hr35434 er35434 qr35434 => ?_)
                refine wk_qi (wX cI cS a na nc N L) u (As := [.int r35431, .int x1, .int r35434]) (rest := []) ⟨hx, hb, hml, hown, hts⟩ (ih _ u r35431 x1 r35434 ((show Rg 0 65549 x1 from rg_w g35407 (by decide) (by decide))) ((show Rg 0 13 r35434 from rg_w hr35434 (by decide) (by decide))) (by have z1 := er35434; have z9 : (1 : Int32).toInt = 1 := (by decide); omega)) hKK hP hD hS hA 7 (ci := 3) rfl rfl (cwV 3 hts gX3_numberOf_X3_numberOf rfl rfl rfl (by decide +kernel) ⟨by show n + 1 + 1 ≤ (n + 1) + 1; omega, by show 8 + (11 + 11) + 40 * (n + 1) ≤ 40 * ((n + 1) + 1); omega⟩) rfl hl.1 rfl (Nat.le_of_ble_eq_true rfl) dX3_numberOf_106 ⟨Nat.le_of_ble_eq_true rfl, Nat.le_of_ble_eq_true rfl⟩ (fun r35435 u H locs hr35435 hP hD hS => ?_)
                refine lv_istore (lv' := [(9, .int r35435), (8, .int r35433), (7, .int r35431), (6, .int r35426), (5, .int r35425), (4, .int r35409), (0, .ref (a 7)), (1, .int x0), (2, .int x1), (3, .int x2)]) hx hb dX3_numberOf_109 hl (by decide) rfl (fun ls hl => ?_)
                refine lv_iconst (v := 0) hx hb dX3_numberOf_111 (by decide) ?_
                refine lv_istore (lv' := [(10, .int 0), (9, .int r35435), (8, .int r35433), (7, .int r35431), (6, .int r35426), (5, .int r35425), (4, .int r35409), (0, .ref (a 7)), (1, .int x0), (2, .int x1), (3, .int x2)]) hx hb dX3_numberOf_112 hl (by decide) rfl (fun ls hl => ?_)
                exact lp114 12 r35409 r35425 r35431 r35433 r35435 (0 : Int32) u _ _ ls g35407 g35420 g35422 (by decide : Rg 0 11 (0 : Int32)) hP hD hS (lv_sub (l' := [(0, .ref (a 7)), (2, .int x1), (3, .int x2), (4, .int r35409), (5, .int r35425), (7, .int r35431), (8, .int r35433), (9, .int r35435), (10, .int 0)]) hl [7, 9, 10, 6, 5, 3, 2, 1, 0] rfl) (me_i (by decide : Rg 0 11 (0 : Int32)) (by decide))
              · have g35436 : Rg 0 65535 r35426 := rg_ler (by decide : Rg 0 0 (0 : Int32)) hr35426.1 (rg_nlt c35427) (by decide)
                refine lv_iload hx hb dX3_numberOf_71 (lv_at hl 0 rfl) ?_
                subst hAe
                exact W.iret (v := r35426) hx hb hr (fun t ht hW => ⟨⟨_, u, rfl, ⟨(rg_any r35426), trivial⟩, by rw [ht]; exact hP, hD⟩, hS.F ht⟩) hS.2.2 dX3_numberOf_73
            · have g35437 : Rg 13 13 x2 := rg_ltr (by decide : Rg 12 12 (12 : Int32)) px2 (rg_nle c35419) (by decide)
              refine lv_iconst (v := 0) hx hb dX3_numberOf_42 (by decide) ?_
              subst hAe
              exact W.iret (v := 0) hx hb hr (fun t ht hW => ⟨⟨_, u, rfl, ⟨(by decide : Rg (-2147483648) 2147483647 (0 : Int32)), trivial⟩, by rw [ht]; exact hP, hD⟩, hS.F ht⟩) hS.2.2 dX3_numberOf_43
    · have g35438 : Rg 0 0 x1 := wk_eql px1 (by decide : Rg 0 0 (0 : Int32)) c35406 (by decide)
      refine lv_iconst (v := 1) hx hb dX3_numberOf_4 (by decide) ?_
      subst hAe
      exact W.iret (v := 1) hx hb hr (fun t ht hW => ⟨⟨_, u, rfl, ⟨(by decide : Rg (-2147483648) 2147483647 (1 : Int32)), trivial⟩, by rw [ht]; exact hP, hD⟩, hS.F ht⟩) hS.2.2 dX3_numberOf_5
theorem k_X3_numberOf (l : Launch) (D : va_G) (cI cS : ClassId) (sz : Nat) (a : Nat → Nat) (na nc N : Nat) (L u0 : SU) (hL : TyX L) (hN : N = 0 ∨ N = 24576) (x0 x1 x2 : Int32) (px1 : Rg 0 65549 x1) (px2 : Rg 0 0 x2) : Met l yX3_numberOf wsX3_numberOf ({ frames := 13 + 1, cells := 0, slots := 0, locals := 40 * (13 + 1) }) (PQ D cI cS (wX cI cS a na nc N L u0) sz [.ref (a 7), .int x0, .int x1, .int x2]) (QF (S := SU) D (wX cI cS a na nc N L u0) (wX cI cS a na nc N L) sz (fun r _ => Rg (-2147483648) 2147483647 r ∧ True)) 0 0 (va_A (wX cI cS a na nc N L u0) sz) := k_X3_numberOf_r l D cI cS a na nc N L hL hN 13 sz u0 x0 x1 x2 (px1) (rg_w px2 (by decide) (by decide)) (by have z1 := px2; omega)
set_option maxHeartbeats 4000000 in
set_option maxRecDepth 100000 in
theorem k_X3_best (l : Launch) (D : va_G) (cI cS : ClassId) (sz : Nat) (a : Nat → Nat) (na nc N : Nat) (L u0 : SU) (hL : TyX L) (hN : N = 0 ∨ N = 24576) (x0 : Int32) : Met l yX3_best wsX3_best ({ frames := 15, cells := 0, slots := 0, locals := 600 }) (PQ D cI cS (wX cI cS a na nc N L u0) sz [.ref (a 7), .int x0]) (QF (S := SU) D (wX cI cS a na nc N L u0) (wX cI cS a na nc N L) sz (fun r _ => Rg 0 65549 r ∧ True)) 0 0 (va_A (wX cI cS a na nc N L u0) sz) := by
  refine Met.ofW (cc := cX3_best) (maxL := 2) (ret := (some .int)) (by decide) rfl ?_
  intro p e s m args below meth c s₁ B hml hv
  obtain ⟨rfl, hsz, hP, hKK, hD0⟩ := hv
  have hx := B.exec
  have hb := B.bytes
  have hr := B.returns
  have hts := atoms_spec (ws := wsX3_best) B.pre
  have hown : s.vm.findClass RX3 = some m.cls := findClass_of_methodNamed B.named
  have hlocks := B.notSynchronized
  have hK := hKK.1
  subst hsz
  have hD := hD0.self (sz := s.heap.size)
  obtain ⟨A, hAe⟩ : ∃ A, A = va_A (wX cI cS a na nc N L u0) s.heap.size := ⟨_, rfl⟩
  rw [← hAe] at hD
  have hA : ∀ q : Nat, s.heap.size ≤ q → A q := fun q h => by rw [hAe]; exact Or.inr h
  have hS : va_S A s.heap s.heap [] := va_S.rf
  have hl := lv_entry ([.ref (a 7), .int x0]) (n := 2) (Nat.le_of_ble_eq_true rfl)
  rw [lg_entry_eq]
  generalize (lg_sl ([.ref (a 7), .int x0]) ++ List.replicate (2 - (lg_sl ([.ref (a 7), .int x0])).length) Slot.unset).toArray = ls at hl ⊢
  have hl : lv_has ls 2 [(0, .ref (a 7)), (1, .int x0)] := hl
  obtain ⟨u, hu9⟩ : ∃ u : SU, u = u0 := ⟨_, rfl⟩
  rw [← hu9] at hP hD
  refine lv_aload_n hx hb dX3_best_0 rfl (lv_at hl 0 rfl) ?_
  refine wk_qv (wX cI cS a na nc N L) u (As := []) (rest := []) ⟨hx, hb, hml, hown, hts⟩ (k_X3_notice l D cI cS _ a na nc N L u hL hN) hKK hP hD hS hA 7 (ci := 3) rfl rfl (cwV 0 hts gX3_best_X3_notice rfl rfl rfl (by decide +kernel) ⟨Nat.le_of_ble_eq_true rfl, Nat.le_of_ble_eq_true rfl⟩) rfl hl.1 rfl (Nat.le_of_ble_eq_true rfl) dX3_best_1 ⟨Nat.le_of_ble_eq_true rfl, Nat.le_of_ble_eq_true rfl⟩ (fun u H locs hr35441 hP hD hS => ?_)
  refine lv_aload_n hx hb dX3_best_4 rfl (lv_at hl 0 rfl) ?_
  refine lv_iload_n hx hb dX3_best_5 rfl (lv_at hl 1 rfl) ?_
  refine lv_iconst (v := 0) hx hb dX3_best_6 (by decide) ?_
  refine wk_qi (wX cI cS a na nc N L) u (As := [.int x0, .int 0]) (rest := []) ⟨hx, hb, hml, hown, hts⟩ (k_X3_bestOf l D cI cS _ a na nc N L u hL hN x0 (0 : Int32) (by decide : Rg 0 0 (0 : Int32))) hKK hP hD hS hA 7 (ci := 3) rfl rfl (cwV 2 hts gX3_best_X3_bestOf rfl rfl rfl (by decide +kernel) ⟨Nat.le_of_ble_eq_true rfl, Nat.le_of_ble_eq_true rfl⟩) rfl hl.1 rfl (Nat.le_of_ble_eq_true rfl) dX3_best_7 ⟨Nat.le_of_ble_eq_true rfl, Nat.le_of_ble_eq_true rfl⟩ (fun r35442 u H locs hr35442 hP hD hS => ?_)
  subst hAe
  exact W.iret (v := r35442) hx hb hr (fun t ht hW => ⟨⟨_, u, rfl, ⟨hr35442.1, trivial⟩, by rw [ht]; exact hP, hD⟩, hS.F ht⟩) hS.2.2 dX3_best_10
set_option maxHeartbeats 4000000 in
set_option maxRecDepth 100000 in
theorem k_X3_lack (l : Launch) (D : va_G) (cI cS : ClassId) (sz : Nat) (a : Nat → Nat) (na nc N : Nat) (L u0 : SU) (hL : TyX L) (hN : N = 0 ∨ N = 24576) (x0 : Int32) : Met l yX3_lack wsX3_lack ({ frames := 16, cells := 0, slots := 0, locals := 640 }) (PQ D cI cS (wX cI cS a na nc N L u0) sz [.ref (a 7), .int x0]) (QF (S := SU) D (wX cI cS a na nc N L u0) (wX cI cS a na nc N L) sz (fun r _ => Rg (-2147483648) 2147483647 r ∧ True)) 0 0 (va_A (wX cI cS a na nc N L u0) sz) := by
  refine Met.ofW (cc := cX3_lack) (maxL := 2) (ret := (some .int)) (by decide) rfl ?_
  intro p e s m args below meth c s₁ B hml hv
  obtain ⟨rfl, hsz, hP, hKK, hD0⟩ := hv
  have hx := B.exec
  have hb := B.bytes
  have hr := B.returns
  have hts := atoms_spec (ws := wsX3_lack) B.pre
  have hown : s.vm.findClass RX3 = some m.cls := findClass_of_methodNamed B.named
  have hlocks := B.notSynchronized
  have hK := hKK.1
  subst hsz
  have hD := hD0.self (sz := s.heap.size)
  obtain ⟨A, hAe⟩ : ∃ A, A = va_A (wX cI cS a na nc N L u0) s.heap.size := ⟨_, rfl⟩
  rw [← hAe] at hD
  have hA : ∀ q : Nat, s.heap.size ≤ q → A q := fun q h => by rw [hAe]; exact Or.inr h
  have hS : va_S A s.heap s.heap [] := va_S.rf
  have hl := lv_entry ([.ref (a 7), .int x0]) (n := 2) (Nat.le_of_ble_eq_true rfl)
  rw [lg_entry_eq]
  generalize (lg_sl ([.ref (a 7), .int x0]) ++ List.replicate (2 - (lg_sl ([.ref (a 7), .int x0])).length) Slot.unset).toArray = ls at hl ⊢
  have hl : lv_has ls 2 [(0, .ref (a 7)), (1, .int x0)] := hl
  obtain ⟨u, hu9⟩ : ∃ u : SU, u = u0 := ⟨_, rfl⟩
  rw [← hu9] at hP hD
  refine lv_iload_n hx hb dX3_lack_0 rfl (lv_at hl 1 rfl) ?_
  refine lz_ss (As := [.int x0]) (rest := []) ⟨hx, hb, hml, hown, hts⟩ (k_J6_bitCount_0f7a4 l D cI cS x0) hKK (hP.sub (ws' := []) [] rfl) (va_cwS 1 hts gX3_lack_J6_bitCount_0f7a4 rfl rfl rfl (by decide +kernel) ⟨Nat.le_of_ble_eq_true rfl, Nat.le_of_ble_eq_true rfl⟩) rfl hl.1 rfl (Nat.le_of_ble_eq_true rfl) dX3_lack_1 ⟨Nat.le_of_ble_eq_true rfl, Nat.le_of_ble_eq_true rfl⟩ (fun r35447 hr35447 => ?_)
  refine lv_iconst (v := 2) hx hb dX3_lack_4 (by decide) ?_
  refine lv_aload_n hx hb dX3_lack_5 rfl (lv_at hl 0 rfl) ?_
  refine lv_iload_n hx hb dX3_lack_6 rfl (lv_at hl 1 rfl) ?_
  refine wk_qi (wX cI cS a na nc N L) u (As := [.int x0]) (rest := [.int 2, .int r35447]) ⟨hx, hb, hml, hown, hts⟩ (k_X3_best l D cI cS _ a na nc N L u hL hN x0) hKK hP hD hS hA 7 (ci := 3) rfl rfl (cwV 1 hts gX3_lack_X3_best rfl rfl rfl (by decide +kernel) ⟨Nat.le_of_ble_eq_true rfl, Nat.le_of_ble_eq_true rfl⟩) rfl hl.1 rfl (Nat.le_of_ble_eq_true rfl) dX3_lack_7 ⟨Nat.le_of_ble_eq_true rfl, Nat.le_of_ble_eq_true rfl⟩ (fun r35448 u H locs hr35448 hP hD hS => ?_)
  refine wk_imul (f := 131098) hx hb dX3_lack_10 (by decide : Rg 0 2 (2 : Int32)) hr35448.1 (by decide) (fun r35449 hr35449 er35449 qr35449 => ?_)
  refine lv_isub hx hb dX3_lack_11 ?_
  refine wk_topP (P := fun r => r = r35447 - r35449) rfl (fun r35450 qr35450 => ?_)
  subst hAe
  exact W.iret (v := r35450) hx hb hr (fun t ht hW => ⟨⟨_, u, rfl, ⟨(rg_any r35450), trivial⟩, by rw [ht]; exact hP, hD⟩, hS.F ht⟩) hS.2.2 dX3_lack_12
set_option maxRecDepth 20000 in
theorem ggX3_isWhole_J6_bitCount_0f7a4 : GoodIn wsX3_isWhole wsJ6_bitCount_0f7a4 := goodIn_r _ [37, 38, 39, 40] rfl (by decide +kernel)
set_option maxRecDepth 20000 in
theorem gX3_isWhole_J6_bitCount_0f7a4 : GoodIn wsX3_isWhole (va_wsS RX3 46 yJ6_bitCount_0f7a4 wsJ6_bitCount_0f7a4) := goodIn_app (goodIn_of _ (by decide +kernel)) ggX3_isWhole_J6_bitCount_0f7a4
set_option maxRecDepth 20000 in
theorem ggX3_isWhole_X3_best : GoodIn wsX3_isWhole wsX3_best := goodIn_r _ [5, 6, 7, 8, 4, 9, 10, 11, 12, 13, 14, 15, 16, 17, 18, 19, 20, 21, 22, 23, 24, 25, 26, 27, 28, 29, 30, 31, 32, 33, 34, 35, 36, 37, 38, 39, 40, 41, 42, 43, 44, 45, 46, 47, 48, 49, 50, 51, 52, 53] rfl (by decide +kernel)
set_option maxRecDepth 20000 in
theorem gX3_isWhole_X3_best : GoodIn wsX3_isWhole (wsV RX3 52 RX3 yX3_best wsX3_best) := goodIn_app (goodIn_of _ (by decide +kernel)) ggX3_isWhole_X3_best
theorem dX3_isWhole_0 : decode cX3_isWhole 0 = .ok (.iconst 2, 1) := by decide +kernel
theorem dX3_isWhole_1 : decode cX3_isWhole 1 = .ok (.aload_n 0, 1) := by decide +kernel
theorem dX3_isWhole_11 : decode cX3_isWhole 11 = .ok (.if_icmp .ne 7, 3) := by decide +kernel
theorem dX3_isWhole_14 : decode cX3_isWhole 14 = .ok (.iconst 1, 1) := by decide +kernel
theorem dX3_isWhole_15 : decode cX3_isWhole 15 = .ok (.goto 4, 3) := by decide +kernel
theorem dX3_isWhole_18 : decode cX3_isWhole 18 = .ok (.iconst 0, 1) := by decide +kernel
theorem dX3_isWhole_19 : decode cX3_isWhole 19 = .ok (.ireturn, 1) := by decide +kernel
theorem dX3_isWhole_2 : decode cX3_isWhole 2 = .ok (.iload_n 1, 1) := by decide +kernel
theorem dX3_isWhole_3 : decode cX3_isWhole 3 = .ok (.invokevirtual 52, 3) := by decide +kernel
theorem dX3_isWhole_6 : decode cX3_isWhole 6 = .ok (.imul, 1) := by decide +kernel
theorem dX3_isWhole_7 : decode cX3_isWhole 7 = .ok (.iload_n 1, 1) := by decide +kernel
theorem dX3_isWhole_8 : decode cX3_isWhole 8 = .ok (.invokestatic 46, 3) := by decide +kernel
set_option maxHeartbeats 4000000 in
set_option maxRecDepth 100000 in
theorem k_X3_isWhole (l : Launch) (D : va_G) (cI cS : ClassId) (sz : Nat) (a : Nat → Nat) (na nc N : Nat) (L u0 : SU) (hL : TyX L) (hN : N = 0 ∨ N = 24576) (x0 : Int32) : Met l yX3_isWhole wsX3_isWhole ({ frames := 16, cells := 0, slots := 0, locals := 640 }) (PQ D cI cS (wX cI cS a na nc N L u0) sz [.ref (a 7), .int x0]) (QF (S := SU) D (wX cI cS a na nc N L u0) (wX cI cS a na nc N L) sz (fun r _ => Rg 0 1 r ∧ True)) 0 0 (va_A (wX cI cS a na nc N L u0) sz) := by
  refine Met.ofW (cc := cX3_isWhole) (maxL := 2) (ret := (some .boolean)) (by decide) rfl ?_
  intro p e s m args below meth c s₁ B hml hv
  obtain ⟨rfl, hsz, hP, hKK, hD0⟩ := hv
  have hx := B.exec
  have hb := B.bytes
  have hr := B.returns
  have hts := atoms_spec (ws := wsX3_isWhole) B.pre
  have hown : s.vm.findClass RX3 = some m.cls := findClass_of_methodNamed B.named
  have hlocks := B.notSynchronized
  have hK := hKK.1
  subst hsz
  have hD := hD0.self (sz := s.heap.size)
  obtain ⟨A, hAe⟩ : ∃ A, A = va_A (wX cI cS a na nc N L u0) s.heap.size := ⟨_, rfl⟩
  rw [← hAe] at hD
  have hA : ∀ q : Nat, s.heap.size ≤ q → A q := fun q h => by rw [hAe]; exact Or.inr h
  have hS : va_S A s.heap s.heap [] := va_S.rf
  have hl := lv_entry ([.ref (a 7), .int x0]) (n := 2) (Nat.le_of_ble_eq_true rfl)
  rw [lg_entry_eq]
  generalize (lg_sl ([.ref (a 7), .int x0]) ++ List.replicate (2 - (lg_sl ([.ref (a 7), .int x0])).length) Slot.unset).toArray = ls at hl ⊢
  have hl : lv_has ls 2 [(0, .ref (a 7)), (1, .int x0)] := hl
  obtain ⟨u, hu9⟩ : ∃ u : SU, u = u0 := ⟨_, rfl⟩
  rw [← hu9] at hP hD
  refine lv_iconst (v := 2) hx hb dX3_isWhole_0 (by decide) ?_
  refine lv_aload_n hx hb dX3_isWhole_1 rfl (lv_at hl 0 rfl) ?_
  refine lv_iload_n hx hb dX3_isWhole_2 rfl (lv_at hl 1 rfl) ?_
  refine wk_qi (wX cI cS a na nc N L) u (As := [.int x0]) (rest := [.int 2]) ⟨hx, hb, hml, hown, hts⟩ (k_X3_best l D cI cS _ a na nc N L u hL hN x0) hKK hP hD hS hA 7 (ci := 3) rfl rfl (cwV 1 hts gX3_isWhole_X3_best rfl rfl rfl (by decide +kernel) ⟨Nat.le_of_ble_eq_true rfl, Nat.le_of_ble_eq_true rfl⟩) rfl hl.1 rfl (Nat.le_of_ble_eq_true rfl) dX3_isWhole_3 ⟨Nat.le_of_ble_eq_true rfl, Nat.le_of_ble_eq_true rfl⟩ (fun r35456 u H locs hr35456 hP hD hS => ?_)
  refine wk_imul (f := 131098) hx hb dX3_isWhole_6 (by decide : Rg 0 2 (2 : Int32)) hr35456.1 (by decide) (fun r35457 hr35457 er35457 qr35457 => ?_)
  refine lv_iload_n hx hb dX3_isWhole_7 rfl (lv_at hl 1 rfl) ?_
  refine lz_ss (As := [.int x0]) (rest := [.int r35457]) ⟨hx, hb, hml, hown, hts⟩ (k_J6_bitCount_0f7a4 l D cI cS x0) hKK (hP.sub (ws' := []) [] rfl) (va_cwS 1 hts gX3_isWhole_J6_bitCount_0f7a4 rfl rfl rfl (by decide +kernel) ⟨Nat.le_of_ble_eq_true rfl, Nat.le_of_ble_eq_true rfl⟩) rfl hl.1 rfl (Nat.le_of_ble_eq_true rfl) dX3_isWhole_8 ⟨Nat.le_of_ble_eq_true rfl, Nat.le_of_ble_eq_true rfl⟩ (fun r35458 hr35458 => ?_)
  refine lv_icmp_ne (tgt := 18) hx hb dX3_isWhole_11 (by decide) (fun c35459 => ?_) (fun c35459 => ?_)
  · refine lv_iconst (v := 0) hx hb dX3_isWhole_18 (by decide) ?_
    subst hAe
    exact W.zret (v := 0) hx hb hr (by decide) (fun t ht hW => ⟨⟨_, u, rfl, ⟨(by decide : Rg 0 1 (0 : Int32)), trivial⟩, by rw [ht]; exact hP, hD⟩, hS.F ht⟩) hS.2.2 dX3_isWhole_19
  · have g35460 : Rg 0 131098 r35458 := wk_eqr hr35457 hr35458.1 c35459 (by decide)
    refine lv_iconst (v := 1) hx hb dX3_isWhole_14 (by decide) ?_
    refine lv_goto (tgt := 19) hx hb dX3_isWhole_15 (by decide) ?_
    subst hAe
    exact W.zret (v := 1) hx hb hr (by decide) (fun t ht hW => ⟨⟨_, u, rfl, ⟨(by decide : Rg 0 1 (1 : Int32)), trivial⟩, by rw [ht]; exact hP, hD⟩, hS.F ht⟩) hS.2.2 dX3_isWhole_19
theorem dX3_loosePoints_27 : decode cX3_loosePoints 27 = .ok (.aload_n 0, 1) := by decide +kernel
theorem dX3_loosePoints_28 : decode cX3_loosePoints 28 = .ok (.aload_n 0, 1) := by decide +kernel
theorem dX3_loosePoints_29 : decode cX3_loosePoints 29 = .ok (.getfield 23, 3) := by decide +kernel
theorem dX3_loosePoints_32 : decode cX3_loosePoints 32 = .ok (.invokevirtual 77, 3) := by decide +kernel
theorem dX3_loosePoints_35 : decode cX3_loosePoints 35 = .ok (.iconst 1, 1) := by decide +kernel
theorem dX3_loosePoints_36 : decode cX3_loosePoints 36 = .ok (.iload_n 3, 1) := by decide +kernel
theorem dX3_loosePoints_37 : decode cX3_loosePoints 37 = .ok (.ishl, 1) := by decide +kernel
theorem dX3_loosePoints_38 : decode cX3_loosePoints 38 = .ok (.iconst (-1), 1) := by decide +kernel
theorem dX3_loosePoints_39 : decode cX3_loosePoints 39 = .ok (.ixor, 1) := by decide +kernel
theorem dX3_loosePoints_40 : decode cX3_loosePoints 40 = .ok (.iand, 1) := by decide +kernel
theorem dX3_loosePoints_41 : decode cX3_loosePoints 41 = .ok (.invokevirtual 52, 3) := by decide +kernel
theorem dX3_loosePoints_44 : decode cX3_loosePoints 44 = .ok (.iload_n 1, 1) := by decide +kernel
theorem dX3_loosePoints_45 : decode cX3_loosePoints 45 = .ok (.if_icmp .ne 9, 3) := by decide +kernel
theorem dX3_loosePoints_48 : decode cX3_loosePoints 48 = .ok (.iload_n 2, 1) := by decide +kernel
theorem dX3_loosePoints_49 : decode cX3_loosePoints 49 = .ok (.iconst 1, 1) := by decide +kernel
theorem dX3_loosePoints_50 : decode cX3_loosePoints 50 = .ok (.iload_n 3, 1) := by decide +kernel
theorem dX3_loosePoints_51 : decode cX3_loosePoints 51 = .ok (.ishl, 1) := by decide +kernel
theorem dX3_loosePoints_52 : decode cX3_loosePoints 52 = .ok (.ior, 1) := by decide +kernel
theorem dX3_loosePoints_53 : decode cX3_loosePoints 53 = .ok (.istore_n 2, 1) := by decide +kernel
theorem dX3_loosePoints_54 : decode cX3_loosePoints 54 = .ok (.iinc 3 1, 3) := by decide +kernel
theorem dX3_loosePoints_57 : decode cX3_loosePoints 57 = .ok (.goto (-41), 3) := by decide +kernel
set_option maxHeartbeats 4000000 in
set_option maxRecDepth 100000 in
theorem k_X3_loosePoints (l : Launch) (D : va_G) (cI cS : ClassId) (sz : Nat) (a : Nat → Nat) (na nc N : Nat) (L u0 : SU) (hL : TyX L) (hN : N = 0 ∨ N = 24576) : Met l yX3_loosePoints wsX3_loosePoints ({ frames := 16, cells := 0, slots := 0, locals := 640 }) (PQ D cI cS (wX cI cS a na nc N L u0) sz [.ref (a 7)]) (QF (S := SU) D (wX cI cS a na nc N L u0) (wX cI cS a na nc N L) sz (fun r _ => Rg 0 4095 r ∧ True)) 0 0 (va_A (wX cI cS a na nc N L u0) sz) := by
  refine Met.ofW (cc := cX3_loosePoints) (maxL := 4) (ret := (some .int)) (by decide) rfl ?_
  intro p e s m args below meth c s₁ B hml hv
  obtain ⟨rfl, hsz, hP, hKK, hD0⟩ := hv
  have hx := B.exec
  have hb := B.bytes
  have hr := B.returns
  have hts := atoms_spec (ws := wsX3_loosePoints) B.pre
  have hown : s.vm.findClass RX3 = some m.cls := findClass_of_methodNamed B.named
  have hlocks := B.notSynchronized
  have hK := hKK.1
  have hin2 : ∀ w ∈ wsX20, w ∈ wsX3_loosePoints := by decide +kernel
  have hin3 : ∀ w ∈ wsX30, w ∈ wsX3_loosePoints := by decide +kernel
  subst hsz
  have hD := hD0.self (sz := s.heap.size)
  obtain ⟨A, hAe⟩ : ∃ A, A = va_A (wX cI cS a na nc N L u0) s.heap.size := ⟨_, rfl⟩
  rw [← hAe] at hD
  have hA : ∀ q : Nat, s.heap.size ≤ q → A q := fun q h => by rw [hAe]; exact Or.inr h
  have hS : va_S A s.heap s.heap [] := va_S.rf
  have hl := lv_entry ([.ref (a 7)]) (n := 4) (Nat.le_of_ble_eq_true rfl)
  rw [lg_entry_eq]
  generalize (lg_sl ([.ref (a 7)]) ++ List.replicate (4 - (lg_sl ([.ref (a 7)])).length) Slot.unset).toArray = ls at hl ⊢
  have hl : lv_has ls 4 [(0, .ref (a 7))] := hl
  obtain ⟨u, hu9⟩ : ∃ u : SU, u = u0 := ⟨_, rfl⟩
  rw [← hu9] at hP hD
  have lp16 : ∀ (n16 : Nat) (y16_l1 : Int32) (y16_l2 : Int32) (y16_l3 : Int32) (u : SU) (H : Heap) (locs : List Loc) (ls : Array Slot), Rg 0 65549 y16_l1 → Rg 0 4095 y16_l2 → Rg 0 12 y16_l3 → va_P D cls (wX cI cS a na nc N L u) H → va_D A (wX cI cS a na nc N L u) → va_S A s.heap H locs → lv_has ls 4 [(0, .ref (a 7)), (1, .int y16_l1), (2, .int y16_l2), (3, .int y16_l3)] → 12 - y16_l3.toInt < (n16 : Int) → W p l e (headSpec wsX3_loosePoints ({ frames := 16, cells := 0, slots := 0, locals := 640 })).room s m ([.ref (a 7)]).toArray below meth c H locs 0 0 (MQ below (QF (S := SU) D (wX cI cS a na nc N L u0) (wX cI cS a na nc N L) s.heap.size (fun r _ => Rg 0 4095 r ∧ True)) ([.ref (a 7)]).toArray s 0 0 (va_A (wX cI cS a na nc N L u0) s.heap.size)) (F0 m 16 ls []) := by
    intro n16
    induction n16 with
    | zero =>
      intro y16_l1 y16_l2 y16_l3 u H locs ls g16_l1 g16_l2 g16_l3 hP hD hS hl hm16
      exact absurd rfl (me_z g16_l3 hm16)
    | succ n16 ih16 =>
      intro y16_l1 y16_l2 y16_l3 u H locs ls g16_l1 g16_l2 g16_l3 hP hD hS hl hm16
      refine lv_iload_n hx hb dX3_loosePoints_16 rfl (lv_at hl 3 rfl) ?_
      refine lv_aload_n hx hb dX3_loosePoints_17 rfl (lv_at hl 0 rfl) ?_
      refine va_get (D := D) (ci := 3) (v := .ref (a 1)) (C := RX3) (T := TX3) (N := 4) hx hb hts hin3 hown hK hP 7 rfl rfl 0 (by decide) (hts (.fieldLink RX3 23 "MissedPoints$Pairs" "net" "LMissedPoints$Net;") (by decide +kernel)) (fun _ h9 => h9) rfl dX3_loosePoints_18 ?_
      refine va_getN (D := D) (ci := 2) (v := .int (L 1 1)) (C := RX2) (T := TX2) (N := 3) hx hb hts hin2 hown hK hP 1 rfl rfl 1 (by decide) (va_Nw.use rfl hKK.2.2.2.2.2.2.2.2.2.2.2.2.2.1) (fun _ h9 => h9) rfl dX3_loosePoints_21 ?_
      refine lv_icmp_ge (tgt := 60) hx hb dX3_loosePoints_24 (by decide) (fun c35591 => ?_) (fun c35591 => ?_)
      · refine lv_iload_n hx hb dX3_loosePoints_60 rfl (lv_at hl 2 rfl) ?_
        subst hAe
        exact W.iret (v := y16_l2) hx hb hr (fun t ht hW => ⟨⟨_, u, rfl, ⟨g16_l2, trivial⟩, by rw [ht]; exact hP, hD⟩, hS.F ht⟩) hS.2.2 dX3_loosePoints_61
      · have g35592 : Rg 1 12 (L 1 1) := rg_ltr g16_l3 hL.1 (rg_nle c35591) (by decide)
        have g35593 : Rg 0 11 y16_l3 := rg_ltl g16_l3 hL.1 (rg_nle c35591) (by decide)
        refine lv_aload_n hx hb dX3_loosePoints_27 rfl (lv_at hl 0 rfl) ?_
        refine lv_aload_n hx hb dX3_loosePoints_28 rfl (lv_at hl 0 rfl) ?_
        refine va_get (D := D) (ci := 3) (v := .ref (a 1)) (C := RX3) (T := TX3) (N := 4) hx hb hts hin3 hown hK hP 7 rfl rfl 0 (by decide) (hts (.fieldLink RX3 23 "MissedPoints$Pairs" "net" "LMissedPoints$Net;") (by decide +kernel)) (fun _ h9 => h9) rfl dX3_loosePoints_29 ?_
        refine wk_sv 1 (As := []) (rest := [.ref (a 7)]) ⟨hx, hb, hml, hown, hts⟩ (k_X2_all l D cI cS a na nc N L u hL hN) hKK hP (ci := 2) rfl rfl (cwV 0 hts gX3_loosePoints_X2_all rfl rfl rfl (by decide +kernel) ⟨Nat.le_of_ble_eq_true rfl, Nat.le_of_ble_eq_true rfl⟩) rfl hl.1 rfl (Nat.le_of_ble_eq_true rfl) dX3_loosePoints_32 ⟨Nat.le_of_ble_eq_true rfl, Nat.le_of_ble_eq_true rfl⟩ (fun r35594 hr35594 => ?_)
        refine lv_iconst (v := 1) hx hb dX3_loosePoints_35 (by decide) ?_
        refine lv_iload_n hx hb dX3_loosePoints_36 rfl (lv_at hl 3 rfl) ?_
        refine wk_ishl1 (f := 2048) hx hb dX3_loosePoints_37 g35593 (by decide) (fun r35595 hr35595 qr35595 => ?_)
        refine lv_iconst (v := (-1)) hx hb dX3_loosePoints_38 (by decide) ?_
        refine lv_ixor hx hb dX3_loosePoints_39 ?_
        refine wk_topP (P := fun r => r = r35595 ^^^ ((-1) : Int32)) rfl (fun r35596 qr35596 => ?_)
        refine wk_iandl hx hb dX3_loosePoints_40 hr35594.1 (by decide) (fun r35597 hr35597 qr35597 => ?_)
        refine wk_qi (wX cI cS a na nc N L) u (As := [.int r35597]) (rest := []) ⟨hx, hb, hml, hown, hts⟩ (k_X3_best l D cI cS _ a na nc N L u hL hN r35597) hKK hP hD hS hA 7 (ci := 3) rfl rfl (cwV 1 hts gX3_loosePoints_X3_best rfl rfl rfl (by decide +kernel) ⟨Nat.le_of_ble_eq_true rfl, Nat.le_of_ble_eq_true rfl⟩) rfl hl.1 rfl (Nat.le_of_ble_eq_true rfl) dX3_loosePoints_41 ⟨Nat.le_of_ble_eq_true rfl, Nat.le_of_ble_eq_true rfl⟩ (fun r35598 u H locs hr35598 hP hD hS => ?_)
        refine lv_iload_n hx hb dX3_loosePoints_44 rfl (lv_at hl 1 rfl) ?_
        refine lv_icmp_ne (tgt := 54) hx hb dX3_loosePoints_45 (by decide) (fun c35599 => ?_) (fun c35599 => ?_)
        · refine wk_iinc (lv' := fun r => [(3, .int r), (0, .ref (a 7)), (1, .int y16_l1), (2, .int y16_l2)]) (e1 := 1) (f := 12) hx hb dX3_loosePoints_54 hl (k := 3) rfl (by decide) g35593 (by decide) (fun _ => rfl) (fun r35600 ls hr35600 er35600 hl => ?_)
          refine lv_goto (tgt := 16) hx hb dX3_loosePoints_57 (by decide) ?_
          exact ih16 y16_l1 y16_l2 r35600 u _ _ ls g16_l1 g16_l2 (show Rg 0 12 r35600 from rg_w hr35600 (by decide) (by decide)) hP hD hS (lv_sub (l' := [(0, .ref (a 7)), (1, .int y16_l1), (2, .int y16_l2), (3, .int r35600)]) hl [1, 2, 3, 0] rfl) (me_up hm16 er35600 (by decide))
        · refine lv_iload_n hx hb dX3_loosePoints_48 rfl (lv_at hl 2 rfl) ?_
          refine lv_iconst (v := 1) hx hb dX3_loosePoints_49 (by decide) ?_
          refine lv_iload_n hx hb dX3_loosePoints_50 rfl (lv_at hl 3 rfl) ?_
          refine wk_ishl1 (f := 2048) hx hb dX3_loosePoints_51 g35593 (by decide) (fun r35601 hr35601 qr35601 => ?_)
          refine wk_ior 12 (e1 := 1) (f := 4095) hx hb dX3_loosePoints_52 g16_l2 hr35601 (by decide) (fun r35602 hr35602 qr35602 => ?_)
          refine lv_istore_n (lv' := [(2, .int r35602), (0, .ref (a 7)), (1, .int y16_l1), (3, .int y16_l3)]) hx hb dX3_loosePoints_53 rfl hl (by decide) rfl (fun ls hl => ?_)
          refine wk_iinc (lv' := fun r => [(3, .int r), (2, .int r35602), (0, .ref (a 7)), (1, .int y16_l1)]) (e1 := 1) (f := 12) hx hb dX3_loosePoints_54 hl (k := 3) rfl (by decide) g35593 (by decide) (fun _ => rfl) (fun r35603 ls hr35603 er35603 hl => ?_)
          refine lv_goto (tgt := 16) hx hb dX3_loosePoints_57 (by decide) ?_
          exact ih16 y16_l1 r35602 r35603 u _ _ ls g16_l1 (show Rg 0 4095 r35602 from rg_w hr35602 (by decide) (by decide)) (show Rg 0 12 r35603 from rg_w hr35603 (by decide) (by decide)) hP hD hS (lv_sub (l' := [(0, .ref (a 7)), (1, .int y16_l1), (2, .int r35602), (3, .int r35603)]) hl [2, 3, 1, 0] rfl) (me_up hm16 er35603 (by decide))
  refine lv_aload_n hx hb dX3_loosePoints_0 rfl (lv_at hl 0 rfl) ?_
  refine lv_aload_n hx hb dX3_loosePoints_1 rfl (lv_at hl 0 rfl) ?_
  refine va_get (D := D) (ci := 3) (v := .ref (a 1)) (C := RX3) (T := TX3) (N := 4) hx hb hts hin3 hown hK hP 7 rfl rfl 0 (by decide) (hts (.fieldLink RX3 23 "MissedPoints$Pairs" "net" "LMissedPoints$Net;") (by decide +kernel)) (fun _ h9 => h9) rfl dX3_loosePoints_2 ?_
  refine wk_sv 1 (As := []) (rest := [.ref (a 7)]) ⟨hx, hb, hml, hown, hts⟩ (k_X2_all l D cI cS a na nc N L u hL hN) hKK hP (ci := 2) rfl rfl (cwV 0 hts gX3_loosePoints_X2_all rfl rfl rfl (by decide +kernel) ⟨Nat.le_of_ble_eq_true rfl, Nat.le_of_ble_eq_true rfl⟩) rfl hl.1 rfl (Nat.le_of_ble_eq_true rfl) dX3_loosePoints_5 ⟨Nat.le_of_ble_eq_true rfl, Nat.le_of_ble_eq_true rfl⟩ (fun r35604 hr35604 => ?_)
  refine wk_qi (wX cI cS a na nc N L) u (As := [.int r35604]) (rest := []) ⟨hx, hb, hml, hown, hts⟩ (k_X3_best l D cI cS _ a na nc N L u hL hN r35604) hKK hP hD hS hA 7 (ci := 3) rfl rfl (cwV 1 hts gX3_loosePoints_X3_best rfl rfl rfl (by decide +kernel) ⟨Nat.le_of_ble_eq_true rfl, Nat.le_of_ble_eq_true rfl⟩) rfl hl.1 rfl (Nat.le_of_ble_eq_true rfl) dX3_loosePoints_8 ⟨Nat.le_of_ble_eq_true rfl, Nat.le_of_ble_eq_true rfl⟩ (fun r35605 u H locs hr35605 hP hD hS => ?_)
  refine lv_istore_n (lv' := [(1, .int r35605), (0, .ref (a 7))]) hx hb dX3_loosePoints_11 rfl hl (by decide) rfl (fun ls hl => ?_)
  refine lv_iconst (v := 0) hx hb dX3_loosePoints_12 (by decide) ?_
  refine lv_istore_n (lv' := [(2, .int 0), (1, .int r35605), (0, .ref (a 7))]) hx hb dX3_loosePoints_13 rfl hl (by decide) rfl (fun ls hl => ?_)
  refine lv_iconst (v := 0) hx hb dX3_loosePoints_14 (by decide) ?_
  refine lv_istore_n (lv' := [(3, .int 0), (2, .int 0), (1, .int r35605), (0, .ref (a 7))]) hx hb dX3_loosePoints_15 rfl hl (by decide) rfl (fun ls hl => ?_)
  exact lp16 13 r35605 (0 : Int32) (0 : Int32) u _ _ ls hr35605.1 (by decide : Rg 0 4095 (0 : Int32)) (by decide : Rg 0 12 (0 : Int32)) hP hD hS (lv_sub (l' := [(0, .ref (a 7)), (1, .int r35605), (2, .int 0), (3, .int 0)]) hl [3, 2, 1, 0] rfl) (me_i (by decide : Rg 0 12 (0 : Int32)) (by decide))
set_option maxRecDepth 20000 in
theorem ggX3_isMend_X2_all : GoodIn wsX3_isMend wsX2_all := goodIn_r _ [20, 16, 68, 69, 70] rfl (by decide +kernel)
set_option maxRecDepth 20000 in
theorem gX3_isMend_X2_all : GoodIn wsX3_isMend (wsV RX3 77 RX2 yX2_all wsX2_all) := goodIn_app (goodIn_of _ (by decide +kernel)) ggX3_isMend_X2_all
set_option maxRecDepth 20000 in
theorem ggX3_isMend_X2_joined : GoodIn wsX3_isMend wsX2_joined := goodIn_r _ [6, 7, 8, 9, 10, 5, 11, 12, 13, 14, 15, 16, 68, 69, 70] rfl (by decide +kernel)
set_option maxRecDepth 20000 in
theorem gX3_isMend_X2_joined : GoodIn wsX3_isMend (wsV RX3 84 RX2 yX2_joined wsX2_joined) := goodIn_app (goodIn_of _ (by decide +kernel)) ggX3_isMend_X2_joined
set_option maxRecDepth 20000 in
theorem ggX3_isMend_X3_best : GoodIn wsX3_isMend wsX3_best := goodIn_r _ [25, 26, 27, 28, 24, 29, 30, 1, 31, 32, 33, 34, 35, 36, 37, 38, 39, 40, 41, 42, 43, 44, 45, 46, 47, 48, 49, 50, 51, 52, 53, 54, 55, 56, 57, 58, 59, 60, 61, 62, 63, 64, 65, 66, 67, 68, 69, 70, 71, 72] rfl (by decide +kernel)
set_option maxRecDepth 20000 in
theorem gX3_isMend_X3_best : GoodIn wsX3_isMend (wsV RX3 52 RX3 yX3_best wsX3_best) := goodIn_app (goodIn_of _ (by decide +kernel)) ggX3_isMend_X3_best
theorem dX3_isMend_0 : decode cX3_isMend 0 = .ok (.aload_n 0, 1) := by decide +kernel
theorem dX3_isMend_1 : decode cX3_isMend 1 = .ok (.getfield 23, 3) := by decide +kernel
theorem dX3_isMend_12 : decode cX3_isMend 12 = .ok (.aload_n 0, 1) := by decide +kernel
theorem dX3_isMend_13 : decode cX3_isMend 13 = .ok (.aload_n 0, 1) := by decide +kernel
theorem dX3_isMend_14 : decode cX3_isMend 14 = .ok (.getfield 23, 3) := by decide +kernel
theorem dX3_isMend_17 : decode cX3_isMend 17 = .ok (.invokevirtual 77, 3) := by decide +kernel
theorem dX3_isMend_20 : decode cX3_isMend 20 = .ok (.iconst 1, 1) := by decide +kernel
theorem dX3_isMend_21 : decode cX3_isMend 21 = .ok (.iload_n 1, 1) := by decide +kernel
theorem dX3_isMend_22 : decode cX3_isMend 22 = .ok (.ishl, 1) := by decide +kernel
theorem dX3_isMend_23 : decode cX3_isMend 23 = .ok (.iconst 1, 1) := by decide +kernel
theorem dX3_isMend_24 : decode cX3_isMend 24 = .ok (.iload_n 2, 1) := by decide +kernel
theorem dX3_isMend_25 : decode cX3_isMend 25 = .ok (.ishl, 1) := by decide +kernel
theorem dX3_isMend_26 : decode cX3_isMend 26 = .ok (.ior, 1) := by decide +kernel
theorem dX3_isMend_27 : decode cX3_isMend 27 = .ok (.iconst (-1), 1) := by decide +kernel
theorem dX3_isMend_28 : decode cX3_isMend 28 = .ok (.ixor, 1) := by decide +kernel
theorem dX3_isMend_29 : decode cX3_isMend 29 = .ok (.iand, 1) := by decide +kernel
theorem dX3_isMend_30 : decode cX3_isMend 30 = .ok (.invokevirtual 52, 3) := by decide +kernel
theorem dX3_isMend_33 : decode cX3_isMend 33 = .ok (.aload_n 0, 1) := by decide +kernel
theorem dX3_isMend_34 : decode cX3_isMend 34 = .ok (.aload_n 0, 1) := by decide +kernel
theorem dX3_isMend_35 : decode cX3_isMend 35 = .ok (.getfield 23, 3) := by decide +kernel
theorem dX3_isMend_38 : decode cX3_isMend 38 = .ok (.invokevirtual 77, 3) := by decide +kernel
theorem dX3_isMend_4 : decode cX3_isMend 4 = .ok (.iload_n 1, 1) := by decide +kernel
theorem dX3_isMend_41 : decode cX3_isMend 41 = .ok (.invokevirtual 52, 3) := by decide +kernel
theorem dX3_isMend_44 : decode cX3_isMend 44 = .ok (.if_icmp .ne 7, 3) := by decide +kernel
theorem dX3_isMend_47 : decode cX3_isMend 47 = .ok (.iconst 1, 1) := by decide +kernel
theorem dX3_isMend_48 : decode cX3_isMend 48 = .ok (.goto 4, 3) := by decide +kernel
theorem dX3_isMend_5 : decode cX3_isMend 5 = .ok (.iload_n 2, 1) := by decide +kernel
theorem dX3_isMend_51 : decode cX3_isMend 51 = .ok (.iconst 0, 1) := by decide +kernel
theorem dX3_isMend_52 : decode cX3_isMend 52 = .ok (.ireturn, 1) := by decide +kernel
theorem dX3_isMend_6 : decode cX3_isMend 6 = .ok (.invokevirtual 84, 3) := by decide +kernel
theorem dX3_isMend_9 : decode cX3_isMend 9 = .ok (.ifCond .ne 42, 3) := by decide +kernel
set_option maxHeartbeats 4000000 in
set_option maxRecDepth 100000 in
theorem k_X3_isMend (l : Launch) (D : va_G) (cI cS : ClassId) (sz : Nat) (a : Nat → Nat) (na nc N : Nat) (L u0 : SU) (hL : TyX L) (hN : N = 0 ∨ N = 24576) (x0 x1 : Int32) : Met l yX3_isMend wsX3_isMend ({ frames := 16, cells := 0, slots := 0, locals := 640 }) (PQ D cI cS (wX cI cS a na nc N L u0) sz [.ref (a 7), .int x0, .int x1]) (QF (S := SU) D (wX cI cS a na nc N L u0) (wX cI cS a na nc N L) sz (fun r _ => Rg 0 1 r ∧ True)) 0 0 (va_A (wX cI cS a na nc N L u0) sz) := by
  refine Met.ofW (cc := cX3_isMend) (maxL := 3) (ret := (some .boolean)) (by decide) rfl ?_
  intro p e s m args below meth c s₁ B hml hv
  obtain ⟨rfl, hsz, hP, hKK, hD0⟩ := hv
  have hx := B.exec
  have hb := B.bytes
  have hr := B.returns
  have hts := atoms_spec (ws := wsX3_isMend) B.pre
  have hown : s.vm.findClass RX3 = some m.cls := findClass_of_methodNamed B.named
  have hlocks := B.notSynchronized
  have hK := hKK.1
  have hin3 : ∀ w ∈ wsX30, w ∈ wsX3_isMend := by decide +kernel
  subst hsz
  have hD := hD0.self (sz := s.heap.size)
  obtain ⟨A, hAe⟩ : ∃ A, A = va_A (wX cI cS a na nc N L u0) s.heap.size := ⟨_, rfl⟩
  rw [← hAe] at hD
  have hA : ∀ q : Nat, s.heap.size ≤ q → A q := fun q h => by rw [hAe]; exact Or.inr h
  have hS : va_S A s.heap s.heap [] := va_S.rf
  have hl := lv_entry ([.ref (a 7), .int x0, .int x1]) (n := 3) (Nat.le_of_ble_eq_true rfl)
  rw [lg_entry_eq]
  generalize (lg_sl ([.ref (a 7), .int x0, .int x1]) ++ List.replicate (3 - (lg_sl ([.ref (a 7), .int x0, .int x1])).length) Slot.unset).toArray = ls at hl ⊢
  have hl : lv_has ls 3 [(0, .ref (a 7)), (1, .int x0), (2, .int x1)] := hl
  obtain ⟨u, hu9⟩ : ∃ u : SU, u = u0 := ⟨_, rfl⟩
  rw [← hu9] at hP hD
  refine lv_aload_n hx hb dX3_isMend_0 rfl (lv_at hl 0 rfl) ?_
  refine va_get (D := D) (ci := 3) (v := .ref (a 1)) (C := RX3) (T := TX3) (N := 4) hx hb hts hin3 hown hK hP 7 rfl rfl 0 (by decide) (hts (.fieldLink RX3 23 "MissedPoints$Pairs" "net" "LMissedPoints$Net;") (by decide +kernel)) (fun _ h9 => h9) rfl dX3_isMend_1 ?_
  refine lv_iload_n hx hb dX3_isMend_4 rfl (lv_at hl 1 rfl) ?_
  refine lv_iload_n hx hb dX3_isMend_5 rfl (lv_at hl 2 rfl) ?_
  refine wk_sv 1 (As := [.int x0, .int x1]) (rest := []) ⟨hx, hb, hml, hown, hts⟩ (k_X2_joined l D cI cS a na nc N L u hL hN x0 x1) hKK hP (ci := 2) rfl rfl (cwV 2 hts gX3_isMend_X2_joined rfl rfl rfl (by decide +kernel) ⟨Nat.le_of_ble_eq_true rfl, Nat.le_of_ble_eq_true rfl⟩) rfl hl.1 rfl (Nat.le_of_ble_eq_true rfl) dX3_isMend_6 ⟨Nat.le_of_ble_eq_true rfl, Nat.le_of_ble_eq_true rfl⟩ (fun r35622 hr35622 => ?_)
  refine lv_if_ne (tgt := 51) hx hb dX3_isMend_9 (by decide) (fun c35623 => ?_) (fun c35623 => ?_)
  · have g35624 : Rg 0 11 x0 := (hr35622.2 c35623).1
    have g35625 : Rg 0 11 x1 := (hr35622.2 c35623).2
    have g35626 : Rg 1 1 r35622 := rg_ne_lo (k := 0) hr35622.1 (by decide) c35623 (by decide)
    refine lv_iconst (v := 0) hx hb dX3_isMend_51 (by decide) ?_
    subst hAe
    exact W.zret (v := 0) hx hb hr (by decide) (fun t ht hW => ⟨⟨_, u, rfl, ⟨(by decide : Rg 0 1 (0 : Int32)), trivial⟩, by rw [ht]; exact hP, hD⟩, hS.F ht⟩) hS.2.2 dX3_isMend_52
  · have g35627 : Rg 0 0 r35622 := wk_eql hr35622.1 (by decide : Rg 0 0 (0 : Int32)) c35623 (by decide)
    refine lv_aload_n hx hb dX3_isMend_12 rfl (lv_at hl 0 rfl) ?_
    refine lv_aload_n hx hb dX3_isMend_13 rfl (lv_at hl 0 rfl) ?_
    refine va_get (D := D) (ci := 3) (v := .ref (a 1)) (C := RX3) (T := TX3) (N := 4) hx hb hts hin3 hown hK hP 7 rfl rfl 0 (by decide) (hts (.fieldLink RX3 23 "MissedPoints$Pairs" "net" "LMissedPoints$Net;") (by decide +kernel)) (fun _ h9 => h9) rfl dX3_isMend_14 ?_
    refine wk_sv 1 (As := []) (rest := [.ref (a 7)]) ⟨hx, hb, hml, hown, hts⟩ (k_X2_all l D cI cS a na nc N L u hL hN) hKK hP (ci := 2) rfl rfl (cwV 0 hts gX3_isMend_X2_all rfl rfl rfl (by decide +kernel) ⟨Nat.le_of_ble_eq_true rfl, Nat.le_of_ble_eq_true rfl⟩) rfl hl.1 rfl (Nat.le_of_ble_eq_true rfl) dX3_isMend_17 ⟨Nat.le_of_ble_eq_true rfl, Nat.le_of_ble_eq_true rfl⟩ (fun r35628 hr35628 => ?_)
    refine lv_iconst (v := 1) hx hb dX3_isMend_20 (by decide) ?_
    refine lv_iload_n hx hb dX3_isMend_21 rfl (lv_at hl 1 rfl) ?_
    refine lv_ishl hx hb dX3_isMend_22 ?_
    refine wk_topP (P := fun r => r = (1 : Int32) <<< (x0 &&& 31)) rfl (fun r35629 qr35629 => ?_)
    refine lv_iconst (v := 1) hx hb dX3_isMend_23 (by decide) ?_
    refine lv_iload_n hx hb dX3_isMend_24 rfl (lv_at hl 2 rfl) ?_
    refine lv_ishl hx hb dX3_isMend_25 ?_
    refine wk_topP (P := fun r => r = (1 : Int32) <<< (x1 &&& 31)) rfl (fun r35630 qr35630 => ?_)
    refine lv_ior hx hb dX3_isMend_26 ?_
    refine wk_topP (P := fun r => r = r35629 ||| r35630) rfl (fun r35631 qr35631 => ?_)
    refine lv_iconst (v := (-1)) hx hb dX3_isMend_27 (by decide) ?_
    refine lv_ixor hx hb dX3_isMend_28 ?_
    refine wk_topP (P := fun r => r = r35631 ^^^ ((-1) : Int32)) rfl (fun r35632 qr35632 => ?_)
    refine wk_iandl hx hb dX3_isMend_29 hr35628.1 (by decide) (fun r35633 hr35633 qr35633 => ?_)
    refine wk_qi (wX cI cS a na nc N L) u (As := [.int r35633]) (rest := []) ⟨hx, hb, hml, hown, hts⟩ (k_X3_best l D cI cS _ a na nc N L u hL hN r35633) hKK hP hD hS hA 7 (ci := 3) rfl rfl (cwV 1 hts gX3_isMend_X3_best rfl rfl rfl (by decide +kernel) ⟨Nat.le_of_ble_eq_true rfl, Nat.le_of_ble_eq_true rfl⟩) rfl hl.1 rfl (Nat.le_of_ble_eq_true rfl) dX3_isMend_30 ⟨Nat.le_of_ble_eq_true rfl, Nat.le_of_ble_eq_true rfl⟩ (fun r35634 u H locs hr35634 hP hD hS => ?_)
    refine lv_aload_n hx hb dX3_isMend_33 rfl (lv_at hl 0 rfl) ?_
    refine lv_aload_n hx hb dX3_isMend_34 rfl (lv_at hl 0 rfl) ?_
    refine va_get (D := D) (ci := 3) (v := .ref (a 1)) (C := RX3) (T := TX3) (N := 4) hx hb hts hin3 hown hK hP 7 rfl rfl 0 (by decide) (hts (.fieldLink RX3 23 "MissedPoints$Pairs" "net" "LMissedPoints$Net;") (by decide +kernel)) (fun _ h9 => h9) rfl dX3_isMend_35 ?_
    refine wk_sv 1 (As := []) (rest := [.ref (a 7), .int r35634]) ⟨hx, hb, hml, hown, hts⟩ (k_X2_all l D cI cS a na nc N L u hL hN) hKK hP (ci := 2) rfl rfl (cwV 0 hts gX3_isMend_X2_all rfl rfl rfl (by decide +kernel) ⟨Nat.le_of_ble_eq_true rfl, Nat.le_of_ble_eq_true rfl⟩) rfl hl.1 rfl (Nat.le_of_ble_eq_true rfl) dX3_isMend_38 ⟨Nat.le_of_ble_eq_true rfl, Nat.le_of_ble_eq_true rfl⟩ (fun r35635 hr35635 => ?_)
    refine wk_qi (wX cI cS a na nc N L) u (As := [.int r35635]) (rest := [.int r35634]) ⟨hx, hb, hml, hown, hts⟩ (k_X3_best l D cI cS _ a na nc N L u hL hN r35635) hKK hP hD hS hA 7 (ci := 3) rfl rfl (cwV 1 hts gX3_isMend_X3_best rfl rfl rfl (by decide +kernel) ⟨Nat.le_of_ble_eq_true rfl, Nat.le_of_ble_eq_true rfl⟩) rfl hl.1 rfl (Nat.le_of_ble_eq_true rfl) dX3_isMend_41 ⟨Nat.le_of_ble_eq_true rfl, Nat.le_of_ble_eq_true rfl⟩ (fun r35636 u H locs hr35636 hP hD hS => ?_)
    refine lv_icmp_ne (tgt := 51) hx hb dX3_isMend_44 (by decide) (fun c35637 => ?_) (fun c35637 => ?_)
    · refine lv_iconst (v := 0) hx hb dX3_isMend_51 (by decide) ?_
      subst hAe
      exact W.zret (v := 0) hx hb hr (by decide) (fun t ht hW => ⟨⟨_, u, rfl, ⟨(by decide : Rg 0 1 (0 : Int32)), trivial⟩, by rw [ht]; exact hP, hD⟩, hS.F ht⟩) hS.2.2 dX3_isMend_52
    · refine lv_iconst (v := 1) hx hb dX3_isMend_47 (by decide) ?_
      refine lv_goto (tgt := 52) hx hb dX3_isMend_48 (by decide) ?_
      subst hAe
      exact W.zret (v := 1) hx hb hr (by decide) (fun t ht hW => ⟨⟨_, u, rfl, ⟨(by decide : Rg 0 1 (1 : Int32)), trivial⟩, by rw [ht]; exact hP, hD⟩, hS.F ht⟩) hS.2.2 dX3_isMend_52
set_option maxRecDepth 20000 in
theorem ggX3_allowedMates_X2_all : GoodIn wsX3_allowedMates wsX2_all := goodIn_r _ [16, 12, 64, 65, 66] rfl (by decide +kernel)
set_option maxRecDepth 20000 in
theorem gX3_allowedMates_X2_all : GoodIn wsX3_allowedMates (wsV RX3 77 RX2 yX2_all wsX2_all) := goodIn_app (goodIn_of _ (by decide +kernel)) ggX3_allowedMates_X2_all
set_option maxRecDepth 20000 in
theorem ggX3_allowedMates_X2_near : GoodIn wsX3_allowedMates wsX2_near := goodIn_r _ [6, 7, 8, 9, 10, 5, 11, 12, 64, 65, 66] rfl (by decide +kernel)
set_option maxRecDepth 20000 in
theorem gX3_allowedMates_X2_near : GoodIn wsX3_allowedMates (wsV RX3 91 RX2 yX2_near wsX2_near) := goodIn_app (goodIn_of _ (by decide +kernel)) ggX3_allowedMates_X2_near
set_option maxRecDepth 20000 in
theorem ggX3_allowedMates_X3_best : GoodIn wsX3_allowedMates wsX3_best := goodIn_r _ [21, 22, 23, 24, 20, 25, 26, 1, 27, 28, 29, 30, 31, 32, 33, 34, 35, 36, 37, 38, 39, 40, 41, 42, 43, 44, 45, 46, 47, 48, 49, 50, 51, 52, 53, 54, 55, 56, 57, 58, 59, 60, 61, 62, 63, 64, 65, 66, 67, 68] rfl (by decide +kernel)
set_option maxRecDepth 20000 in
theorem gX3_allowedMates_X3_best : GoodIn wsX3_allowedMates (wsV RX3 52 RX3 yX3_best wsX3_best) := goodIn_app (goodIn_of _ (by decide +kernel)) ggX3_allowedMates_X3_best
theorem dX3_allowedMates_0 : decode cX3_allowedMates 0 = .ok (.aload_n 0, 1) := by decide +kernel
theorem dX3_allowedMates_1 : decode cX3_allowedMates 1 = .ok (.getfield 23, 3) := by decide +kernel
theorem dX3_allowedMates_10 : decode cX3_allowedMates 10 = .ok (.getfield 23, 3) := by decide +kernel
theorem dX3_allowedMates_13 : decode cX3_allowedMates 13 = .ok (.invokevirtual 77, 3) := by decide +kernel
theorem dX3_allowedMates_16 : decode cX3_allowedMates 16 = .ok (.iconst 1, 1) := by decide +kernel
theorem dX3_allowedMates_17 : decode cX3_allowedMates 17 = .ok (.iload_n 1, 1) := by decide +kernel
theorem dX3_allowedMates_18 : decode cX3_allowedMates 18 = .ok (.ishl, 1) := by decide +kernel
theorem dX3_allowedMates_19 : decode cX3_allowedMates 19 = .ok (.iconst (-1), 1) := by decide +kernel
theorem dX3_allowedMates_20 : decode cX3_allowedMates 20 = .ok (.ixor, 1) := by decide +kernel
theorem dX3_allowedMates_21 : decode cX3_allowedMates 21 = .ok (.iand, 1) := by decide +kernel
theorem dX3_allowedMates_22 : decode cX3_allowedMates 22 = .ok (.istore_n 3, 1) := by decide +kernel
theorem dX3_allowedMates_23 : decode cX3_allowedMates 23 = .ok (.aload_n 0, 1) := by decide +kernel
theorem dX3_allowedMates_24 : decode cX3_allowedMates 24 = .ok (.aload_n 0, 1) := by decide +kernel
theorem dX3_allowedMates_25 : decode cX3_allowedMates 25 = .ok (.getfield 23, 3) := by decide +kernel
theorem dX3_allowedMates_28 : decode cX3_allowedMates 28 = .ok (.invokevirtual 77, 3) := by decide +kernel
theorem dX3_allowedMates_31 : decode cX3_allowedMates 31 = .ok (.invokevirtual 52, 3) := by decide +kernel
theorem dX3_allowedMates_34 : decode cX3_allowedMates 34 = .ok (.iconst 1, 1) := by decide +kernel
theorem dX3_allowedMates_35 : decode cX3_allowedMates 35 = .ok (.isub, 1) := by decide +kernel
theorem dX3_allowedMates_36 : decode cX3_allowedMates 36 = .ok (.istore 4, 2) := by decide +kernel
theorem dX3_allowedMates_38 : decode cX3_allowedMates 38 = .ok (.iconst 0, 1) := by decide +kernel
theorem dX3_allowedMates_39 : decode cX3_allowedMates 39 = .ok (.istore 5, 2) := by decide +kernel
theorem dX3_allowedMates_4 : decode cX3_allowedMates 4 = .ok (.iload_n 1, 1) := by decide +kernel
theorem dX3_allowedMates_41 : decode cX3_allowedMates 41 = .ok (.iconst 0, 1) := by decide +kernel
theorem dX3_allowedMates_42 : decode cX3_allowedMates 42 = .ok (.istore 6, 2) := by decide +kernel
theorem dX3_allowedMates_44 : decode cX3_allowedMates 44 = .ok (.iload 6, 2) := by decide +kernel
theorem dX3_allowedMates_46 : decode cX3_allowedMates 46 = .ok (.aload_n 0, 1) := by decide +kernel
theorem dX3_allowedMates_47 : decode cX3_allowedMates 47 = .ok (.getfield 23, 3) := by decide +kernel
theorem dX3_allowedMates_5 : decode cX3_allowedMates 5 = .ok (.invokevirtual 91, 3) := by decide +kernel
theorem dX3_allowedMates_50 : decode cX3_allowedMates 50 = .ok (.getfield 81, 3) := by decide +kernel
theorem dX3_allowedMates_53 : decode cX3_allowedMates 53 = .ok (.if_icmp .ge 44, 3) := by decide +kernel
theorem dX3_allowedMates_56 : decode cX3_allowedMates 56 = .ok (.iload_n 2, 1) := by decide +kernel
theorem dX3_allowedMates_57 : decode cX3_allowedMates 57 = .ok (.iload 6, 2) := by decide +kernel
theorem dX3_allowedMates_59 : decode cX3_allowedMates 59 = .ok (.ishr, 1) := by decide +kernel
theorem dX3_allowedMates_60 : decode cX3_allowedMates 60 = .ok (.iconst 1, 1) := by decide +kernel
theorem dX3_allowedMates_61 : decode cX3_allowedMates 61 = .ok (.iand, 1) := by decide +kernel
theorem dX3_allowedMates_62 : decode cX3_allowedMates 62 = .ok (.ifCond .eq 29, 3) := by decide +kernel
theorem dX3_allowedMates_65 : decode cX3_allowedMates 65 = .ok (.aload_n 0, 1) := by decide +kernel
theorem dX3_allowedMates_66 : decode cX3_allowedMates 66 = .ok (.iload_n 3, 1) := by decide +kernel
theorem dX3_allowedMates_67 : decode cX3_allowedMates 67 = .ok (.iconst 1, 1) := by decide +kernel
theorem dX3_allowedMates_68 : decode cX3_allowedMates 68 = .ok (.iload 6, 2) := by decide +kernel
theorem dX3_allowedMates_70 : decode cX3_allowedMates 70 = .ok (.ishl, 1) := by decide +kernel
theorem dX3_allowedMates_71 : decode cX3_allowedMates 71 = .ok (.iconst (-1), 1) := by decide +kernel
theorem dX3_allowedMates_72 : decode cX3_allowedMates 72 = .ok (.ixor, 1) := by decide +kernel
theorem dX3_allowedMates_73 : decode cX3_allowedMates 73 = .ok (.iand, 1) := by decide +kernel
theorem dX3_allowedMates_74 : decode cX3_allowedMates 74 = .ok (.invokevirtual 52, 3) := by decide +kernel
theorem dX3_allowedMates_77 : decode cX3_allowedMates 77 = .ok (.iload 4, 2) := by decide +kernel
theorem dX3_allowedMates_79 : decode cX3_allowedMates 79 = .ok (.if_icmp .ne 12, 3) := by decide +kernel
theorem dX3_allowedMates_8 : decode cX3_allowedMates 8 = .ok (.istore_n 2, 1) := by decide +kernel
theorem dX3_allowedMates_82 : decode cX3_allowedMates 82 = .ok (.iload 5, 2) := by decide +kernel
theorem dX3_allowedMates_84 : decode cX3_allowedMates 84 = .ok (.iconst 1, 1) := by decide +kernel
theorem dX3_allowedMates_85 : decode cX3_allowedMates 85 = .ok (.iload 6, 2) := by decide +kernel
theorem dX3_allowedMates_87 : decode cX3_allowedMates 87 = .ok (.ishl, 1) := by decide +kernel
theorem dX3_allowedMates_88 : decode cX3_allowedMates 88 = .ok (.ior, 1) := by decide +kernel
theorem dX3_allowedMates_89 : decode cX3_allowedMates 89 = .ok (.istore 5, 2) := by decide +kernel
theorem dX3_allowedMates_9 : decode cX3_allowedMates 9 = .ok (.aload_n 0, 1) := by decide +kernel
theorem dX3_allowedMates_91 : decode cX3_allowedMates 91 = .ok (.iinc 6 1, 3) := by decide +kernel
theorem dX3_allowedMates_94 : decode cX3_allowedMates 94 = .ok (.goto (-50), 3) := by decide +kernel
theorem dX3_allowedMates_97 : decode cX3_allowedMates 97 = .ok (.iload 5, 2) := by decide +kernel
theorem dX3_allowedMates_99 : decode cX3_allowedMates 99 = .ok (.ireturn, 1) := by decide +kernel
set_option maxHeartbeats 4000000 in
set_option maxRecDepth 100000 in
theorem k_X3_allowedMates (l : Launch) (D : va_G) (cI cS : ClassId) (sz : Nat) (a : Nat → Nat) (na nc N : Nat) (L u0 : SU) (hL : TyX L) (hN : N = 0 ∨ N = 24576) (x0 : Int32) : Met l yX3_allowedMates wsX3_allowedMates ({ frames := 16, cells := 0, slots := 0, locals := 640 }) (PQ D cI cS (wX cI cS a na nc N L u0) sz [.ref (a 7), .int x0]) (QF (S := SU) D (wX cI cS a na nc N L u0) (wX cI cS a na nc N L) sz (fun r _ => Rg 0 4095 r ∧ True)) 0 0 (va_A (wX cI cS a na nc N L u0) sz) := by
  refine Met.ofW (cc := cX3_allowedMates) (maxL := 7) (ret := (some .int)) (by decide) rfl ?_
  intro p e s m args below meth c s₁ B hml hv
  obtain ⟨rfl, hsz, hP, hKK, hD0⟩ := hv
  have hx := B.exec
  have hb := B.bytes
  have hr := B.returns
  have hts := atoms_spec (ws := wsX3_allowedMates) B.pre
  have hown : s.vm.findClass RX3 = some m.cls := findClass_of_methodNamed B.named
  have hlocks := B.notSynchronized
  have hK := hKK.1
  have hin2 : ∀ w ∈ wsX20, w ∈ wsX3_allowedMates := by decide +kernel
  have hin3 : ∀ w ∈ wsX30, w ∈ wsX3_allowedMates := by decide +kernel
  subst hsz
  have hD := hD0.self (sz := s.heap.size)
  obtain ⟨A, hAe⟩ : ∃ A, A = va_A (wX cI cS a na nc N L u0) s.heap.size := ⟨_, rfl⟩
  rw [← hAe] at hD
  have hA : ∀ q : Nat, s.heap.size ≤ q → A q := fun q h => by rw [hAe]; exact Or.inr h
  have hS : va_S A s.heap s.heap [] := va_S.rf
  have hl := lv_entry ([.ref (a 7), .int x0]) (n := 7) (Nat.le_of_ble_eq_true rfl)
  rw [lg_entry_eq]
  generalize (lg_sl ([.ref (a 7), .int x0]) ++ List.replicate (7 - (lg_sl ([.ref (a 7), .int x0])).length) Slot.unset).toArray = ls at hl ⊢
  have hl : lv_has ls 7 [(0, .ref (a 7)), (1, .int x0)] := hl
  obtain ⟨u, hu9⟩ : ∃ u : SU, u = u0 := ⟨_, rfl⟩
  rw [← hu9] at hP hD
  have lp44 : ∀ (n44 : Nat) (y44_l2 : Int32) (y44_l3 : Int32) (y44_l4 : Int32) (y44_l5 : Int32) (y44_l6 : Int32) (u : SU) (H : Heap) (locs : List Loc) (ls : Array Slot), Rg 0 4095 y44_l3 → Rg (-1) 65548 y44_l4 → Rg 0 4095 y44_l5 → Rg 0 12 y44_l6 → va_P D cls (wX cI cS a na nc N L u) H → va_D A (wX cI cS a na nc N L u) → va_S A s.heap H locs → lv_has ls 7 [(0, .ref (a 7)), (2, .int y44_l2), (3, .int y44_l3), (4, .int y44_l4), (5, .int y44_l5), (6, .int y44_l6)] → 12 - y44_l6.toInt < (n44 : Int) → W p l e (headSpec wsX3_allowedMates ({ frames := 16, cells := 0, slots := 0, locals := 640 })).room s m ([.ref (a 7), .int x0]).toArray below meth c H locs 0 0 (MQ below (QF (S := SU) D (wX cI cS a na nc N L u0) (wX cI cS a na nc N L) s.heap.size (fun r _ => Rg 0 4095 r ∧ True)) ([.ref (a 7), .int x0]).toArray s 0 0 (va_A (wX cI cS a na nc N L u0) s.heap.size)) (F0 m 44 ls []) := by
    intro n44
    induction n44 with
    | zero =>
      intro y44_l2 y44_l3 y44_l4 y44_l5 y44_l6 u H locs ls g44_l3 g44_l4 g44_l5 g44_l6 hP hD hS hl hm44
      exact absurd rfl (me_z g44_l6 hm44)
    | succ n44 ih44 =>
      intro y44_l2 y44_l3 y44_l4 y44_l5 y44_l6 u H locs ls g44_l3 g44_l4 g44_l5 g44_l6 hP hD hS hl hm44
      refine lv_iload hx hb dX3_allowedMates_44 (lv_at hl 5 rfl) ?_
      refine lv_aload_n hx hb dX3_allowedMates_46 rfl (lv_at hl 0 rfl) ?_
      refine va_get (D := D) (ci := 3) (v := .ref (a 1)) (C := RX3) (T := TX3) (N := 4) hx hb hts hin3 hown hK hP 7 rfl rfl 0 (by decide) (hts (.fieldLink RX3 23 "MissedPoints$Pairs" "net" "LMissedPoints$Net;") (by decide +kernel)) (fun _ h9 => h9) rfl dX3_allowedMates_47 ?_
      refine va_getN (D := D) (ci := 2) (v := .int (L 1 1)) (C := RX2) (T := TX2) (N := 3) hx hb hts hin2 hown hK hP 1 rfl rfl 1 (by decide) (va_Nw.use rfl hKK.2.2.2.2.2.2.2.2.2.2.2.2.2.1) (fun _ h9 => h9) rfl dX3_allowedMates_50 ?_
      refine lv_icmp_ge (tgt := 97) hx hb dX3_allowedMates_53 (by decide) (fun c35878 => ?_) (fun c35878 => ?_)
      · refine lv_iload hx hb dX3_allowedMates_97 (lv_at hl 4 rfl) ?_
        subst hAe
        exact W.iret (v := y44_l5) hx hb hr (fun t ht hW => ⟨⟨_, u, rfl, ⟨g44_l5, trivial⟩, by rw [ht]; exact hP, hD⟩, hS.F ht⟩) hS.2.2 dX3_allowedMates_99
      · have g35879 : Rg 1 12 (L 1 1) := rg_ltr g44_l6 hL.1 (rg_nle c35878) (by decide)
        have g35880 : Rg 0 11 y44_l6 := rg_ltl g44_l6 hL.1 (rg_nle c35878) (by decide)
        refine lv_iload_n hx hb dX3_allowedMates_56 rfl (lv_at hl 1 rfl) ?_
        refine lv_iload hx hb dX3_allowedMates_57 (lv_at hl 5 rfl) ?_
        refine lv_ishr hx hb dX3_allowedMates_59 ?_
        refine wk_topP (P := fun r => r = y44_l2 >>> (y44_l6 &&& 31)) rfl (fun r35881 qr35881 => ?_)
        refine lv_iconst (v := 1) hx hb dX3_allowedMates_60 (by decide) ?_
        refine wk_iandr hx hb dX3_allowedMates_61 (by decide : Rg 1 1 (1 : Int32)) (by decide) (fun r35882 hr35882 qr35882 => ?_)
        refine lv_if_eq (tgt := 91) hx hb dX3_allowedMates_62 (by decide) (fun c35883 => ?_) (fun c35883 => ?_)
        · have g35884 : Rg 0 0 r35882 := wk_eql hr35882 (by decide : Rg 0 0 (0 : Int32)) c35883 (by decide)
          refine wk_iinc (lv' := fun r => [(6, .int r), (0, .ref (a 7)), (2, .int y44_l2), (3, .int y44_l3), (4, .int y44_l4), (5, .int y44_l5)]) (e1 := 1) (f := 12) hx hb dX3_allowedMates_91 hl (k := 5) rfl (by decide) g35880 (by decide) (fun _ => rfl) (fun r35885 ls hr35885 er35885 hl => ?_)
          refine lv_goto (tgt := 44) hx hb dX3_allowedMates_94 (by decide) ?_
          exact ih44 y44_l2 y44_l3 y44_l4 y44_l5 r35885 u _ _ ls g44_l3 g44_l4 g44_l5 (show Rg 0 12 r35885 from rg_w hr35885 (by decide) (by decide)) hP hD hS (lv_sub (l' := [(0, .ref (a 7)), (2, .int y44_l2), (3, .int y44_l3), (4, .int y44_l4), (5, .int y44_l5), (6, .int r35885)]) hl [1, 2, 3, 4, 5, 0] rfl) (me_up hm44 er35885 (by decide))
        · have g35886 : Rg 1 1 r35882 := rg_ne_lo (k := 0) hr35882 (by decide) c35883 (by decide)
          refine lv_aload_n hx hb dX3_allowedMates_65 rfl (lv_at hl 0 rfl) ?_
          refine lv_iload_n hx hb dX3_allowedMates_66 rfl (lv_at hl 2 rfl) ?_
          refine lv_iconst (v := 1) hx hb dX3_allowedMates_67 (by decide) ?_
          refine lv_iload hx hb dX3_allowedMates_68 (lv_at hl 5 rfl) ?_
          refine wk_ishl1 (f := 2048) hx hb dX3_allowedMates_70 g35880 (by decide) (fun r35887 hr35887 qr35887 => ?_)
          refine lv_iconst (v := (-1)) hx hb dX3_allowedMates_71 (by decide) ?_
          refine lv_ixor hx hb dX3_allowedMates_72 ?_
          refine wk_topP (P := fun r => r = r35887 ^^^ ((-1) : Int32)) rfl (fun r35888 qr35888 => ?_)
          refine wk_iandl hx hb dX3_allowedMates_73 g44_l3 (by decide) (fun r35889 hr35889 qr35889 => ?_)
          refine wk_qi (wX cI cS a na nc N L) u (As := [.int r35889]) (rest := []) ⟨hx, hb, hml, hown, hts⟩ (k_X3_best l D cI cS _ a na nc N L u hL hN r35889) hKK hP hD hS hA 7 (ci := 3) rfl rfl (cwV 1 hts gX3_allowedMates_X3_best rfl rfl rfl (by decide +kernel) ⟨Nat.le_of_ble_eq_true rfl, Nat.le_of_ble_eq_true rfl⟩) rfl hl.1 rfl (Nat.le_of_ble_eq_true rfl) dX3_allowedMates_74 ⟨Nat.le_of_ble_eq_true rfl, Nat.le_of_ble_eq_true rfl⟩ (fun r35890 u H locs hr35890 hP hD hS => ?_)
          refine lv_iload hx hb dX3_allowedMates_77 (lv_at hl 3 rfl) ?_
          refine lv_icmp_ne (tgt := 91) hx hb dX3_allowedMates_79 (by decide) (fun c35891 => ?_) (fun c35891 => ?_)
          · refine wk_iinc (lv' := fun r => [(6, .int r), (0, .ref (a 7)), (2, .int y44_l2), (3, .int y44_l3), (4, .int y44_l4), (5, .int y44_l5)]) (e1 := 1) (f := 12) hx hb dX3_allowedMates_91 hl (k := 5) rfl (by decide) g35880 (by decide) (fun _ => rfl) (fun r35892 ls hr35892 er35892 hl => ?_)
            refine lv_goto (tgt := 44) hx hb dX3_allowedMates_94 (by decide) ?_
            exact ih44 y44_l2 y44_l3 y44_l4 y44_l5 r35892 u _ _ ls g44_l3 g44_l4 g44_l5 (show Rg 0 12 r35892 from rg_w hr35892 (by decide) (by decide)) hP hD hS (lv_sub (l' := [(0, .ref (a 7)), (2, .int y44_l2), (3, .int y44_l3), (4, .int y44_l4), (5, .int y44_l5), (6, .int r35892)]) hl [1, 2, 3, 4, 5, 0] rfl) (me_up hm44 er35892 (by decide))
          · have g35893 : Rg 0 65548 r35890 := wk_eql hr35890.1 g44_l4 c35891 (by decide)
            have g35894 : Rg 0 65548 y44_l4 := wk_eqr hr35890.1 g44_l4 c35891 (by decide)
            refine lv_iload hx hb dX3_allowedMates_82 (lv_at hl 4 rfl) ?_
            refine lv_iconst (v := 1) hx hb dX3_allowedMates_84 (by decide) ?_
            refine lv_iload hx hb dX3_allowedMates_85 (lv_at hl 5 rfl) ?_
            refine wk_ishl1 (f := 2048) hx hb dX3_allowedMates_87 g35880 (by decide) (fun r35895 hr35895 qr35895 => ?_)
            refine wk_ior 12 (e1 := 1) (f := 4095) hx hb dX3_allowedMates_88 g44_l5 hr35895 (by decide) (fun r35896 hr35896 qr35896 => ?_)
            refine lv_istore (lv' := [(5, .int r35896), (0, .ref (a 7)), (2, .int y44_l2), (3, .int y44_l3), (4, .int y44_l4), (6, .int y44_l6)]) hx hb dX3_allowedMates_89 hl (by decide) rfl (fun ls hl => ?_)
            refine wk_iinc (lv' := fun r => [(6, .int r), (5, .int r35896), (0, .ref (a 7)), (2, .int y44_l2), (3, .int y44_l3), (4, .int y44_l4)]) (e1 := 1) (f := 12) hx hb dX3_allowedMates_91 hl (k := 5) rfl (by decide) g35880 (by decide) (fun _ => rfl) (fun r35897 ls hr35897 er35897 hl => ?_)
            refine lv_goto (tgt := 44) hx hb dX3_allowedMates_94 (by decide) ?_
            exact ih44 y44_l2 y44_l3 y44_l4 r35896 r35897 u _ _ ls g44_l3 (show Rg (-1) 65548 y44_l4 from rg_w g35894 (by decide) (by decide)) (show Rg 0 4095 r35896 from rg_w hr35896 (by decide) (by decide)) (show Rg 0 12 r35897 from rg_w hr35897 (by decide) (by decide)) hP hD hS (lv_sub (l' := [(0, .ref (a 7)), (2, .int y44_l2), (3, .int y44_l3), (4, .int y44_l4), (5, .int r35896), (6, .int r35897)]) hl [2, 3, 4, 5, 1, 0] rfl) (me_up hm44 er35897 (by decide))
  refine lv_aload_n hx hb dX3_allowedMates_0 rfl (lv_at hl 0 rfl) ?_
  refine va_get (D := D) (ci := 3) (v := .ref (a 1)) (C := RX3) (T := TX3) (N := 4) hx hb hts hin3 hown hK hP 7 rfl rfl 0 (by decide) (hts (.fieldLink RX3 23 "MissedPoints$Pairs" "net" "LMissedPoints$Net;") (by decide +kernel)) (fun _ h9 => h9) rfl dX3_allowedMates_1 ?_
  refine lv_iload_n hx hb dX3_allowedMates_4 rfl (lv_at hl 1 rfl) ?_
  refine wk_sv 1 (As := [.int x0]) (rest := []) ⟨hx, hb, hml, hown, hts⟩ (k_X2_near l D cI cS a na nc N L u hL hN x0) hKK hP (ci := 2) rfl rfl (cwV 1 hts gX3_allowedMates_X2_near rfl rfl rfl (by decide +kernel) ⟨Nat.le_of_ble_eq_true rfl, Nat.le_of_ble_eq_true rfl⟩) rfl hl.1 rfl (Nat.le_of_ble_eq_true rfl) dX3_allowedMates_5 ⟨Nat.le_of_ble_eq_true rfl, Nat.le_of_ble_eq_true rfl⟩ (fun r35898 hr35898 => ?_)
  refine lv_istore_n (lv' := [(2, .int r35898), (0, .ref (a 7)), (1, .int x0)]) hx hb dX3_allowedMates_8 rfl hl (by decide) rfl (fun ls hl => ?_)
  refine lv_aload_n hx hb dX3_allowedMates_9 rfl (lv_at hl 1 rfl) ?_
  refine va_get (D := D) (ci := 3) (v := .ref (a 1)) (C := RX3) (T := TX3) (N := 4) hx hb hts hin3 hown hK hP 7 rfl rfl 0 (by decide) (hts (.fieldLink RX3 23 "MissedPoints$Pairs" "net" "LMissedPoints$Net;") (by decide +kernel)) (fun _ h9 => h9) rfl dX3_allowedMates_10 ?_
  refine wk_sv 1 (As := []) (rest := []) ⟨hx, hb, hml, hown, hts⟩ (k_X2_all l D cI cS a na nc N L u hL hN) hKK hP (ci := 2) rfl rfl (cwV 0 hts gX3_allowedMates_X2_all rfl rfl rfl (by decide +kernel) ⟨Nat.le_of_ble_eq_true rfl, Nat.le_of_ble_eq_true rfl⟩) rfl hl.1 rfl (Nat.le_of_ble_eq_true rfl) dX3_allowedMates_13 ⟨Nat.le_of_ble_eq_true rfl, Nat.le_of_ble_eq_true rfl⟩ (fun r35899 hr35899 => ?_)
  refine lv_iconst (v := 1) hx hb dX3_allowedMates_16 (by decide) ?_
  refine lv_iload_n hx hb dX3_allowedMates_17 rfl (lv_at hl 2 rfl) ?_
  refine lv_ishl hx hb dX3_allowedMates_18 ?_
  refine wk_topP (P := fun r => r = (1 : Int32) <<< (x0 &&& 31)) rfl (fun r35900 qr35900 => ?_)
  refine lv_iconst (v := (-1)) hx hb dX3_allowedMates_19 (by decide) ?_
  refine lv_ixor hx hb dX3_allowedMates_20 ?_
  refine wk_topP (P := fun r => r = r35900 ^^^ ((-1) : Int32)) rfl (fun r35901 qr35901 => ?_)
  refine wk_iandl hx hb dX3_allowedMates_21 hr35899.1 (by decide) (fun r35902 hr35902 qr35902 => ?_)
  refine lv_istore_n (lv' := [(3, .int r35902), (2, .int r35898), (0, .ref (a 7)), (1, .int x0)]) hx hb dX3_allowedMates_22 rfl hl (by decide) rfl (fun ls hl => ?_)
  refine lv_aload_n hx hb dX3_allowedMates_23 rfl (lv_at hl 2 rfl) ?_
  refine lv_aload_n hx hb dX3_allowedMates_24 rfl (lv_at hl 2 rfl) ?_
  refine va_get (D := D) (ci := 3) (v := .ref (a 1)) (C := RX3) (T := TX3) (N := 4) hx hb hts hin3 hown hK hP 7 rfl rfl 0 (by decide) (hts (.fieldLink RX3 23 "MissedPoints$Pairs" "net" "LMissedPoints$Net;") (by decide +kernel)) (fun _ h9 => h9) rfl dX3_allowedMates_25 ?_
  refine wk_sv 1 (As := []) (rest := [.ref (a 7)]) ⟨hx, hb, hml, hown, hts⟩ (k_X2_all l D cI cS a na nc N L u hL hN) hKK hP (ci := 2) rfl rfl (cwV 0 hts gX3_allowedMates_X2_all rfl rfl rfl (by decide +kernel) ⟨Nat.le_of_ble_eq_true rfl, Nat.le_of_ble_eq_true rfl⟩) rfl hl.1 rfl (Nat.le_of_ble_eq_true rfl) dX3_allowedMates_28 ⟨Nat.le_of_ble_eq_true rfl, Nat.le_of_ble_eq_true rfl⟩ (fun r35903 hr35903 => ?_)
  refine wk_qi (wX cI cS a na nc N L) u (As := [.int r35903]) (rest := []) ⟨hx, hb, hml, hown, hts⟩ (k_X3_best l D cI cS _ a na nc N L u hL hN r35903) hKK hP hD hS hA 7 (ci := 3) rfl rfl (cwV 1 hts gX3_allowedMates_X3_best rfl rfl rfl (by decide +kernel) ⟨Nat.le_of_ble_eq_true rfl, Nat.le_of_ble_eq_true rfl⟩) rfl hl.1 rfl (Nat.le_of_ble_eq_true rfl) dX3_allowedMates_31 ⟨Nat.le_of_ble_eq_true rfl, Nat.le_of_ble_eq_true rfl⟩ (fun r35904 u H locs hr35904 hP hD hS => ?_)
  refine lv_iconst (v := 1) hx hb dX3_allowedMates_34 (by decide) ?_
  refine wk_isub (e1 := (-1)) (f := 65548) hx hb dX3_allowedMates_35 hr35904.1 (by decide : Rg 1 1 (1 : Int32)) (by decide) (fun r35905 hr35905 er35905 qr35905 => ?_)
  refine lv_istore (lv' := [(4, .int r35905), (3, .int r35902), (2, .int r35898), (0, .ref (a 7)), (1, .int x0)]) hx hb dX3_allowedMates_36 hl (by decide) rfl (fun ls hl => ?_)
  refine lv_iconst (v := 0) hx hb dX3_allowedMates_38 (by decide) ?_
  refine lv_istore (lv' := [(5, .int 0), (4, .int r35905), (3, .int r35902), (2, .int r35898), (0, .ref (a 7)), (1, .int x0)]) hx hb dX3_allowedMates_39 hl (by decide) rfl (fun ls hl => ?_)
  refine lv_iconst (v := 0) hx hb dX3_allowedMates_41 (by decide) ?_
  refine lv_istore (lv' := [(6, .int 0), (5, .int 0), (4, .int r35905), (3, .int r35902), (2, .int r35898), (0, .ref (a 7)), (1, .int x0)]) hx hb dX3_allowedMates_42 hl (by decide) rfl (fun ls hl => ?_)
  exact lp44 13 r35898 r35902 r35905 (0 : Int32) (0 : Int32) u _ _ ls hr35902 hr35905 (by decide : Rg 0 4095 (0 : Int32)) (by decide : Rg 0 12 (0 : Int32)) hP hD hS (lv_sub (l' := [(0, .ref (a 7)), (2, .int r35898), (3, .int r35902), (4, .int r35905), (5, .int 0), (6, .int 0)]) hl [5, 4, 3, 2, 1, 0] rfl) (me_i (by decide : Rg 0 12 (0 : Int32)) (by decide))
set_option maxRecDepth 20000 in
theorem ggX3_judge_X2_all : GoodIn wsX3_judge wsX2_all := goodIn_r _ [21, 17, 68, 69, 70] rfl (by decide +kernel)
set_option maxRecDepth 20000 in
theorem gX3_judge_X2_all : GoodIn wsX3_judge (wsV RX3 77 RX2 yX2_all wsX2_all) := goodIn_app (goodIn_of _ (by decide +kernel)) ggX3_judge_X2_all
set_option maxRecDepth 20000 in
theorem ggX3_judge_X3_allowedMates : GoodIn wsX3_judge wsX3_allowedMates := goodIn_r _ [6, 1, 7, 8, 9, 10, 11, 12, 13, 14, 15, 16, 17, 18, 19, 20, 21, 22, 23, 24, 5, 25, 26, 27, 28, 29, 30, 31, 32, 33, 34, 35, 36, 37, 38, 39, 40, 41, 42, 43, 44, 45, 46, 47, 48, 49, 50, 51, 52, 53, 54, 55, 56, 57, 58, 59, 60, 61, 62, 63, 64, 65, 66, 67, 68, 69, 70, 71, 72] rfl (by decide +kernel)
set_option maxRecDepth 20000 in
theorem gX3_judge_X3_allowedMates : GoodIn wsX3_judge (wsV RX3 88 RX3 yX3_allowedMates wsX3_allowedMates) := goodIn_app (goodIn_of _ (by decide +kernel)) ggX3_judge_X3_allowedMates
set_option maxRecDepth 20000 in
theorem ggX3_judge_X3_best : GoodIn wsX3_judge wsX3_best := goodIn_r _ [25, 26, 27, 28, 5, 29, 30, 1, 31, 32, 33, 34, 35, 36, 37, 38, 39, 40, 41, 42, 43, 44, 45, 46, 47, 48, 49, 50, 51, 52, 53, 54, 55, 56, 57, 58, 59, 60, 61, 62, 63, 64, 65, 66, 67, 68, 69, 70, 71, 72] rfl (by decide +kernel)
set_option maxRecDepth 20000 in
theorem gX3_judge_X3_best : GoodIn wsX3_judge (wsV RX3 52 RX3 yX3_best wsX3_best) := goodIn_app (goodIn_of _ (by decide +kernel)) ggX3_judge_X3_best
theorem dX3_judge_0 : decode cX3_judge 0 = .ok (.aload_n 0, 1) := by decide +kernel
theorem dX3_judge_1 : decode cX3_judge 1 = .ok (.iload_n 1, 1) := by decide +kernel
theorem dX3_judge_10 : decode cX3_judge 10 = .ok (.iand, 1) := by decide +kernel
theorem dX3_judge_11 : decode cX3_judge 11 = .ok (.ifCond .ne 5, 3) := by decide +kernel
theorem dX3_judge_14 : decode cX3_judge 14 = .ok (.iconst 0, 1) := by decide +kernel
theorem dX3_judge_15 : decode cX3_judge 15 = .ok (.ireturn, 1) := by decide +kernel
theorem dX3_judge_16 : decode cX3_judge 16 = .ok (.aload_n 0, 1) := by decide +kernel
theorem dX3_judge_17 : decode cX3_judge 17 = .ok (.aload_n 0, 1) := by decide +kernel
theorem dX3_judge_18 : decode cX3_judge 18 = .ok (.getfield 23, 3) := by decide +kernel
theorem dX3_judge_2 : decode cX3_judge 2 = .ok (.invokevirtual 88, 3) := by decide +kernel
theorem dX3_judge_21 : decode cX3_judge 21 = .ok (.invokevirtual 77, 3) := by decide +kernel
theorem dX3_judge_24 : decode cX3_judge 24 = .ok (.iconst 1, 1) := by decide +kernel
theorem dX3_judge_25 : decode cX3_judge 25 = .ok (.iload_n 1, 1) := by decide +kernel
theorem dX3_judge_26 : decode cX3_judge 26 = .ok (.ishl, 1) := by decide +kernel
theorem dX3_judge_27 : decode cX3_judge 27 = .ok (.iconst (-1), 1) := by decide +kernel
theorem dX3_judge_28 : decode cX3_judge 28 = .ok (.ixor, 1) := by decide +kernel
theorem dX3_judge_29 : decode cX3_judge 29 = .ok (.iand, 1) := by decide +kernel
theorem dX3_judge_30 : decode cX3_judge 30 = .ok (.invokevirtual 52, 3) := by decide +kernel
theorem dX3_judge_33 : decode cX3_judge 33 = .ok (.aload_n 0, 1) := by decide +kernel
theorem dX3_judge_34 : decode cX3_judge 34 = .ok (.aload_n 0, 1) := by decide +kernel
theorem dX3_judge_35 : decode cX3_judge 35 = .ok (.getfield 23, 3) := by decide +kernel
theorem dX3_judge_38 : decode cX3_judge 38 = .ok (.invokevirtual 77, 3) := by decide +kernel
theorem dX3_judge_41 : decode cX3_judge 41 = .ok (.invokevirtual 52, 3) := by decide +kernel
theorem dX3_judge_44 : decode cX3_judge 44 = .ok (.if_icmp .ne 7, 3) := by decide +kernel
theorem dX3_judge_47 : decode cX3_judge 47 = .ok (.iconst 1, 1) := by decide +kernel
theorem dX3_judge_48 : decode cX3_judge 48 = .ok (.goto 4, 3) := by decide +kernel
theorem dX3_judge_5 : decode cX3_judge 5 = .ok (.istore_n 3, 1) := by decide +kernel
theorem dX3_judge_51 : decode cX3_judge 51 = .ok (.iconst 0, 1) := by decide +kernel
theorem dX3_judge_52 : decode cX3_judge 52 = .ok (.istore 4, 2) := by decide +kernel
theorem dX3_judge_54 : decode cX3_judge 54 = .ok (.iload 4, 2) := by decide +kernel
theorem dX3_judge_56 : decode cX3_judge 56 = .ok (.ifCond .ne 10, 3) := by decide +kernel
theorem dX3_judge_59 : decode cX3_judge 59 = .ok (.iload_n 3, 1) := by decide +kernel
theorem dX3_judge_6 : decode cX3_judge 6 = .ok (.iload_n 3, 1) := by decide +kernel
theorem dX3_judge_60 : decode cX3_judge 60 = .ok (.iconst 1, 1) := by decide +kernel
theorem dX3_judge_61 : decode cX3_judge 61 = .ok (.iload_n 2, 1) := by decide +kernel
theorem dX3_judge_62 : decode cX3_judge 62 = .ok (.ishl, 1) := by decide +kernel
theorem dX3_judge_63 : decode cX3_judge 63 = .ok (.if_icmp .eq 7, 3) := by decide +kernel
theorem dX3_judge_66 : decode cX3_judge 66 = .ok (.iconst 1, 1) := by decide +kernel
theorem dX3_judge_67 : decode cX3_judge 67 = .ok (.goto 4, 3) := by decide +kernel
theorem dX3_judge_7 : decode cX3_judge 7 = .ok (.iload_n 2, 1) := by decide +kernel
theorem dX3_judge_70 : decode cX3_judge 70 = .ok (.iconst 2, 1) := by decide +kernel
theorem dX3_judge_71 : decode cX3_judge 71 = .ok (.ireturn, 1) := by decide +kernel
theorem dX3_judge_8 : decode cX3_judge 8 = .ok (.ishr, 1) := by decide +kernel
theorem dX3_judge_9 : decode cX3_judge 9 = .ok (.iconst 1, 1) := by decide +kernel
set_option maxHeartbeats 4000000 in
set_option maxRecDepth 100000 in
theorem k_X3_judge (l : Launch) (D : va_G) (cI cS : ClassId) (sz : Nat) (a : Nat → Nat) (na nc N : Nat) (L u0 : SU) (hL : TyX L) (hN : N = 0 ∨ N = 24576) (x0 x1 : Int32) : Met l yX3_judge wsX3_judge ({ frames := 17, cells := 0, slots := 0, locals := 680 }) (PQ D cI cS (wX cI cS a na nc N L u0) sz [.ref (a 7), .int x0, .int x1]) (QF (S := SU) D (wX cI cS a na nc N L u0) (wX cI cS a na nc N L) sz (fun r _ => Rg 0 2 r ∧ True)) 0 0 (va_A (wX cI cS a na nc N L u0) sz) := by
  refine Met.ofW (cc := cX3_judge) (maxL := 5) (ret := (some .int)) (by decide) rfl ?_
  intro p e s m args below meth c s₁ B hml hv
  obtain ⟨rfl, hsz, hP, hKK, hD0⟩ := hv
  have hx := B.exec
  have hb := B.bytes
  have hr := B.returns
  have hts := atoms_spec (ws := wsX3_judge) B.pre
  have hown : s.vm.findClass RX3 = some m.cls := findClass_of_methodNamed B.named
  have hlocks := B.notSynchronized
  have hK := hKK.1
  have hin3 : ∀ w ∈ wsX30, w ∈ wsX3_judge := by decide +kernel
  subst hsz
  have hD := hD0.self (sz := s.heap.size)
  obtain ⟨A, hAe⟩ : ∃ A, A = va_A (wX cI cS a na nc N L u0) s.heap.size := ⟨_, rfl⟩
  rw [← hAe] at hD
  have hA : ∀ q : Nat, s.heap.size ≤ q → A q := fun q h => by rw [hAe]; exact Or.inr h
  have hS : va_S A s.heap s.heap [] := va_S.rf
  have hl := lv_entry ([.ref (a 7), .int x0, .int x1]) (n := 5) (Nat.le_of_ble_eq_true rfl)
  rw [lg_entry_eq]
  generalize (lg_sl ([.ref (a 7), .int x0, .int x1]) ++ List.replicate (5 - (lg_sl ([.ref (a 7), .int x0, .int x1])).length) Slot.unset).toArray = ls at hl ⊢
  have hl : lv_has ls 5 [(0, .ref (a 7)), (1, .int x0), (2, .int x1)] := hl
  obtain ⟨u, hu9⟩ : ∃ u : SU, u = u0 := ⟨_, rfl⟩
  rw [← hu9] at hP hD
  have ct52 : ∀ (y52_l3 : Int32) (y52_s0 : Int32) (u : SU) (H : Heap) (locs : List Loc) (ls : Array Slot), Rg 0 4095 y52_l3 → Rg 0 1 y52_s0 → va_P D cls (wX cI cS a na nc N L u) H → va_D A (wX cI cS a na nc N L u) → va_S A s.heap H locs → lv_has ls 5 [(2, .int x1), (3, .int y52_l3)] → W p l e (headSpec wsX3_judge ({ frames := 17, cells := 0, slots := 0, locals := 680 })).room s m ([.ref (a 7), .int x0, .int x1]).toArray below meth c H locs 0 0 (MQ below (QF (S := SU) D (wX cI cS a na nc N L u0) (wX cI cS a na nc N L) s.heap.size (fun r _ => Rg 0 2 r ∧ True)) ([.ref (a 7), .int x0, .int x1]).toArray s 0 0 (va_A (wX cI cS a na nc N L u0) s.heap.size)) (F0 m 52 ls [.int y52_s0]) := by
    intro y52_l3 y52_s0 u H locs ls g52_l3 g52_s0 hP hD hS hl
    refine lv_istore (lv' := [(4, .int y52_s0), (2, .int x1), (3, .int y52_l3)]) hx hb dX3_judge_52 hl (by decide) rfl (fun ls hl => ?_)
    refine lv_iload hx hb dX3_judge_54 (lv_at hl 0 rfl) ?_
    refine lv_if_ne (tgt := 66) hx hb dX3_judge_56 (by decide) (fun c35946 => ?_) (fun c35946 => ?_)
    · have g35947 : Rg 1 1 y52_s0 := rg_ne_lo (k := 0) g52_s0 (by decide) c35946 (by decide)
      refine lv_iconst (v := 1) hx hb dX3_judge_66 (by decide) ?_
      refine lv_goto (tgt := 71) hx hb dX3_judge_67 (by decide) ?_
      subst hAe
      exact W.iret (v := 1) hx hb hr (fun t ht hW => ⟨⟨_, u, rfl, ⟨(by decide : Rg 0 2 (1 : Int32)), trivial⟩, by rw [ht]; exact hP, hD⟩, hS.F ht⟩) hS.2.2 dX3_judge_71
    · have g35948 : Rg 0 0 y52_s0 := wk_eql g52_s0 (by decide : Rg 0 0 (0 : Int32)) c35946 (by decide)
      refine lv_iload_n hx hb dX3_judge_59 rfl (lv_at hl 2 rfl) ?_
      refine lv_iconst (v := 1) hx hb dX3_judge_60 (by decide) ?_
      refine lv_iload_n hx hb dX3_judge_61 rfl (lv_at hl 1 rfl) ?_
      refine lv_ishl hx hb dX3_judge_62 ?_
      refine wk_topP (P := fun r => r = (1 : Int32) <<< (x1 &&& 31)) rfl (fun r35949 qr35949 => ?_)
      refine lv_icmp_eq (tgt := 70) hx hb dX3_judge_63 (by decide) (fun c35950 => ?_) (fun c35950 => ?_)
      · have g35951 : Rg 0 4095 r35949 := wk_eqr g52_l3 (rg_any r35949) c35950 (by decide)
        refine lv_iconst (v := 2) hx hb dX3_judge_70 (by decide) ?_
        subst hAe
        exact W.iret (v := 2) hx hb hr (fun t ht hW => ⟨⟨_, u, rfl, ⟨(by decide : Rg 0 2 (2 : Int32)), trivial⟩, by rw [ht]; exact hP, hD⟩, hS.F ht⟩) hS.2.2 dX3_judge_71
      · refine lv_iconst (v := 1) hx hb dX3_judge_66 (by decide) ?_
        refine lv_goto (tgt := 71) hx hb dX3_judge_67 (by decide) ?_
        subst hAe
        exact W.iret (v := 1) hx hb hr (fun t ht hW => ⟨⟨_, u, rfl, ⟨(by decide : Rg 0 2 (1 : Int32)), trivial⟩, by rw [ht]; exact hP, hD⟩, hS.F ht⟩) hS.2.2 dX3_judge_71
  refine lv_aload_n hx hb dX3_judge_0 rfl (lv_at hl 0 rfl) ?_
  refine lv_iload_n hx hb dX3_judge_1 rfl (lv_at hl 1 rfl) ?_
  refine wk_qi (wX cI cS a na nc N L) u (As := [.int x0]) (rest := []) ⟨hx, hb, hml, hown, hts⟩ (k_X3_allowedMates l D cI cS _ a na nc N L u hL hN x0) hKK hP hD hS hA 7 (ci := 3) rfl rfl (cwV 1 hts gX3_judge_X3_allowedMates rfl rfl rfl (by decide +kernel) ⟨Nat.le_of_ble_eq_true rfl, Nat.le_of_ble_eq_true rfl⟩) rfl hl.1 rfl (Nat.le_of_ble_eq_true rfl) dX3_judge_2 ⟨Nat.le_of_ble_eq_true rfl, Nat.le_of_ble_eq_true rfl⟩ (fun r35952 u H locs hr35952 hP hD hS => ?_)
  refine lv_istore_n (lv' := [(3, .int r35952), (0, .ref (a 7)), (1, .int x0), (2, .int x1)]) hx hb dX3_judge_5 rfl hl (by decide) rfl (fun ls hl => ?_)
  refine lv_iload_n hx hb dX3_judge_6 rfl (lv_at hl 0 rfl) ?_
  refine lv_iload_n hx hb dX3_judge_7 rfl (lv_at hl 3 rfl) ?_
  refine lv_ishr hx hb dX3_judge_8 ?_
  refine wk_topP (P := fun r => r = r35952 >>> (x1 &&& 31)) rfl (fun r35953 qr35953 => ?_)
  refine lv_iconst (v := 1) hx hb dX3_judge_9 (by decide) ?_
  refine wk_iandr hx hb dX3_judge_10 (by decide : Rg 1 1 (1 : Int32)) (by decide) (fun r35954 hr35954 qr35954 => ?_)
  refine lv_if_ne (tgt := 16) hx hb dX3_judge_11 (by decide) (fun c35955 => ?_) (fun c35955 => ?_)
  · have g35956 : Rg 1 1 r35954 := rg_ne_lo (k := 0) hr35954 (by decide) c35955 (by decide)
    refine lv_aload_n hx hb dX3_judge_16 rfl (lv_at hl 1 rfl) ?_
    refine lv_aload_n hx hb dX3_judge_17 rfl (lv_at hl 1 rfl) ?_
    refine va_get (D := D) (ci := 3) (v := .ref (a 1)) (C := RX3) (T := TX3) (N := 4) hx hb hts hin3 hown hK hP 7 rfl rfl 0 (by decide) (hts (.fieldLink RX3 23 "MissedPoints$Pairs" "net" "LMissedPoints$Net;") (by decide +kernel)) (fun _ h9 => h9) rfl dX3_judge_18 ?_
    refine wk_sv 1 (As := []) (rest := [.ref (a 7)]) ⟨hx, hb, hml, hown, hts⟩ (k_X2_all l D cI cS a na nc N L u hL hN) hKK hP (ci := 2) rfl rfl (cwV 0 hts gX3_judge_X2_all rfl rfl rfl (by decide +kernel) ⟨Nat.le_of_ble_eq_true rfl, Nat.le_of_ble_eq_true rfl⟩) rfl hl.1 rfl (Nat.le_of_ble_eq_true rfl) dX3_judge_21 ⟨Nat.le_of_ble_eq_true rfl, Nat.le_of_ble_eq_true rfl⟩ (fun r35957 hr35957 => ?_)
    refine lv_iconst (v := 1) hx hb dX3_judge_24 (by decide) ?_
    refine lv_iload_n hx hb dX3_judge_25 rfl (lv_at hl 2 rfl) ?_
    refine lv_ishl hx hb dX3_judge_26 ?_
    refine wk_topP (P := fun r => r = (1 : Int32) <<< (x0 &&& 31)) rfl (fun r35958 qr35958 => ?_)
    refine lv_iconst (v := (-1)) hx hb dX3_judge_27 (by decide) ?_
    refine lv_ixor hx hb dX3_judge_28 ?_
    refine wk_topP (P := fun r => r = r35958 ^^^ ((-1) : Int32)) rfl (fun r35959 qr35959 => ?_)
    refine wk_iandl hx hb dX3_judge_29 hr35957.1 (by decide) (fun r35960 hr35960 qr35960 => ?_)
    refine wk_qi (wX cI cS a na nc N L) u (As := [.int r35960]) (rest := []) ⟨hx, hb, hml, hown, hts⟩ (k_X3_best l D cI cS _ a na nc N L u hL hN r35960) hKK hP hD hS hA 7 (ci := 3) rfl rfl (cwV 1 hts gX3_judge_X3_best rfl rfl rfl (by decide +kernel) ⟨Nat.le_of_ble_eq_true rfl, Nat.le_of_ble_eq_true rfl⟩) rfl hl.1 rfl (Nat.le_of_ble_eq_true rfl) dX3_judge_30 ⟨Nat.le_of_ble_eq_true rfl, Nat.le_of_ble_eq_true rfl⟩ (fun r35961 u H locs hr35961 hP hD hS => ?_)
    refine lv_aload_n hx hb dX3_judge_33 rfl (lv_at hl 1 rfl) ?_
    refine lv_aload_n hx hb dX3_judge_34 rfl (lv_at hl 1 rfl) ?_
    refine va_get (D := D) (ci := 3) (v := .ref (a 1)) (C := RX3) (T := TX3) (N := 4) hx hb hts hin3 hown hK hP 7 rfl rfl 0 (by decide) (hts (.fieldLink RX3 23 "MissedPoints$Pairs" "net" "LMissedPoints$Net;") (by decide +kernel)) (fun _ h9 => h9) rfl dX3_judge_35 ?_
    refine wk_sv 1 (As := []) (rest := [.ref (a 7), .int r35961]) ⟨hx, hb, hml, hown, hts⟩ (k_X2_all l D cI cS a na nc N L u hL hN) hKK hP (ci := 2) rfl rfl (cwV 0 hts gX3_judge_X2_all rfl rfl rfl (by decide +kernel) ⟨Nat.le_of_ble_eq_true rfl, Nat.le_of_ble_eq_true rfl⟩) rfl hl.1 rfl (Nat.le_of_ble_eq_true rfl) dX3_judge_38 ⟨Nat.le_of_ble_eq_true rfl, Nat.le_of_ble_eq_true rfl⟩ (fun r35962 hr35962 => ?_)
    refine wk_qi (wX cI cS a na nc N L) u (As := [.int r35962]) (rest := [.int r35961]) ⟨hx, hb, hml, hown, hts⟩ (k_X3_best l D cI cS _ a na nc N L u hL hN r35962) hKK hP hD hS hA 7 (ci := 3) rfl rfl (cwV 1 hts gX3_judge_X3_best rfl rfl rfl (by decide +kernel) ⟨Nat.le_of_ble_eq_true rfl, Nat.le_of_ble_eq_true rfl⟩) rfl hl.1 rfl (Nat.le_of_ble_eq_true rfl) dX3_judge_41 ⟨Nat.le_of_ble_eq_true rfl, Nat.le_of_ble_eq_true rfl⟩ (fun r35963 u H locs hr35963 hP hD hS => ?_)
    refine lv_icmp_ne (tgt := 51) hx hb dX3_judge_44 (by decide) (fun c35964 => ?_) (fun c35964 => ?_)
    · refine lv_iconst (v := 0) hx hb dX3_judge_51 (by decide) ?_
      exact ct52 r35952 (0 : Int32) u _ _ ls hr35952.1 (by decide : Rg 0 1 (0 : Int32)) hP hD hS (lv_sub (l' := [(2, .int x1), (3, .int r35952)]) hl [3, 0] rfl)
    · refine lv_iconst (v := 1) hx hb dX3_judge_47 (by decide) ?_
      refine lv_goto (tgt := 52) hx hb dX3_judge_48 (by decide) ?_
      exact ct52 r35952 (1 : Int32) u _ _ ls hr35952.1 (by decide : Rg 0 1 (1 : Int32)) hP hD hS (lv_sub (l' := [(2, .int x1), (3, .int r35952)]) hl [3, 0] rfl)
  · have g35965 : Rg 0 0 r35954 := wk_eql hr35954 (by decide : Rg 0 0 (0 : Int32)) c35955 (by decide)
    refine lv_iconst (v := 0) hx hb dX3_judge_14 (by decide) ?_
    subst hAe
    exact W.iret (v := 0) hx hb hr (fun t ht hW => ⟨⟨_, u, rfl, ⟨(by decide : Rg 0 2 (0 : Int32)), trivial⟩, by rw [ht]; exact hP, hD⟩, hS.F ht⟩) hS.2.2 dX3_judge_15
set_option maxRecDepth 20000 in
theorem ggX3_firstMate_X2_near : GoodIn wsX3_firstMate wsX2_near := goodIn_r _ [6, 7, 8, 9, 10, 5, 11, 12, 60, 61, 62] rfl (by decide +kernel)
set_option maxRecDepth 20000 in
theorem gX3_firstMate_X2_near : GoodIn wsX3_firstMate (wsV RX3 91 RX2 yX2_near wsX2_near) := goodIn_app (goodIn_of _ (by decide +kernel)) ggX3_firstMate_X2_near
set_option maxRecDepth 20000 in
theorem ggX3_firstMate_X3_best : GoodIn wsX3_firstMate wsX3_best := goodIn_r _ [17, 18, 19, 20, 16, 21, 22, 1, 23, 24, 25, 26, 27, 28, 29, 30, 31, 32, 33, 34, 35, 36, 37, 38, 39, 40, 41, 42, 43, 44, 45, 46, 47, 48, 49, 50, 51, 52, 53, 54, 55, 56, 57, 58, 59, 60, 61, 62, 63, 64] rfl (by decide +kernel)
set_option maxRecDepth 20000 in
theorem gX3_firstMate_X3_best : GoodIn wsX3_firstMate (wsV RX3 52 RX3 yX3_best wsX3_best) := goodIn_app (goodIn_of _ (by decide +kernel)) ggX3_firstMate_X3_best
theorem dX3_firstMate_0 : decode cX3_firstMate 0 = .ok (.iload_n 2, 1) := by decide +kernel
theorem dX3_firstMate_1 : decode cX3_firstMate 1 = .ok (.iconst 1, 1) := by decide +kernel
theorem dX3_firstMate_12 : decode cX3_firstMate 12 = .ok (.iload_n 1, 1) := by decide +kernel
theorem dX3_firstMate_13 : decode cX3_firstMate 13 = .ok (.invokevirtual 91, 3) := by decide +kernel
theorem dX3_firstMate_16 : decode cX3_firstMate 16 = .ok (.iload_n 3, 1) := by decide +kernel
theorem dX3_firstMate_17 : decode cX3_firstMate 17 = .ok (.iand, 1) := by decide +kernel
theorem dX3_firstMate_18 : decode cX3_firstMate 18 = .ok (.istore 4, 2) := by decide +kernel
theorem dX3_firstMate_2 : decode cX3_firstMate 2 = .ok (.iload_n 1, 1) := by decide +kernel
theorem dX3_firstMate_20 : decode cX3_firstMate 20 = .ok (.aload_n 0, 1) := by decide +kernel
theorem dX3_firstMate_21 : decode cX3_firstMate 21 = .ok (.iload_n 2, 1) := by decide +kernel
theorem dX3_firstMate_22 : decode cX3_firstMate 22 = .ok (.invokevirtual 52, 3) := by decide +kernel
theorem dX3_firstMate_25 : decode cX3_firstMate 25 = .ok (.iconst 1, 1) := by decide +kernel
theorem dX3_firstMate_26 : decode cX3_firstMate 26 = .ok (.isub, 1) := by decide +kernel
theorem dX3_firstMate_27 : decode cX3_firstMate 27 = .ok (.istore 5, 2) := by decide +kernel
theorem dX3_firstMate_29 : decode cX3_firstMate 29 = .ok (.iconst 0, 1) := by decide +kernel
theorem dX3_firstMate_3 : decode cX3_firstMate 3 = .ok (.ishl, 1) := by decide +kernel
theorem dX3_firstMate_30 : decode cX3_firstMate 30 = .ok (.istore 6, 2) := by decide +kernel
theorem dX3_firstMate_32 : decode cX3_firstMate 32 = .ok (.iload 6, 2) := by decide +kernel
theorem dX3_firstMate_34 : decode cX3_firstMate 34 = .ok (.aload_n 0, 1) := by decide +kernel
theorem dX3_firstMate_35 : decode cX3_firstMate 35 = .ok (.getfield 23, 3) := by decide +kernel
theorem dX3_firstMate_38 : decode cX3_firstMate 38 = .ok (.getfield 81, 3) := by decide +kernel
theorem dX3_firstMate_4 : decode cX3_firstMate 4 = .ok (.iconst (-1), 1) := by decide +kernel
theorem dX3_firstMate_41 : decode cX3_firstMate 41 = .ok (.if_icmp .ge 39, 3) := by decide +kernel
theorem dX3_firstMate_44 : decode cX3_firstMate 44 = .ok (.iload 4, 2) := by decide +kernel
theorem dX3_firstMate_46 : decode cX3_firstMate 46 = .ok (.iload 6, 2) := by decide +kernel
theorem dX3_firstMate_48 : decode cX3_firstMate 48 = .ok (.ishr, 1) := by decide +kernel
theorem dX3_firstMate_49 : decode cX3_firstMate 49 = .ok (.iconst 1, 1) := by decide +kernel
theorem dX3_firstMate_5 : decode cX3_firstMate 5 = .ok (.ixor, 1) := by decide +kernel
theorem dX3_firstMate_50 : decode cX3_firstMate 50 = .ok (.iand, 1) := by decide +kernel
theorem dX3_firstMate_51 : decode cX3_firstMate 51 = .ok (.ifCond .eq 23, 3) := by decide +kernel
theorem dX3_firstMate_54 : decode cX3_firstMate 54 = .ok (.aload_n 0, 1) := by decide +kernel
theorem dX3_firstMate_55 : decode cX3_firstMate 55 = .ok (.iload_n 3, 1) := by decide +kernel
theorem dX3_firstMate_56 : decode cX3_firstMate 56 = .ok (.iconst 1, 1) := by decide +kernel
theorem dX3_firstMate_57 : decode cX3_firstMate 57 = .ok (.iload 6, 2) := by decide +kernel
theorem dX3_firstMate_59 : decode cX3_firstMate 59 = .ok (.ishl, 1) := by decide +kernel
theorem dX3_firstMate_6 : decode cX3_firstMate 6 = .ok (.iand, 1) := by decide +kernel
theorem dX3_firstMate_60 : decode cX3_firstMate 60 = .ok (.iconst (-1), 1) := by decide +kernel
theorem dX3_firstMate_61 : decode cX3_firstMate 61 = .ok (.ixor, 1) := by decide +kernel
theorem dX3_firstMate_62 : decode cX3_firstMate 62 = .ok (.iand, 1) := by decide +kernel
theorem dX3_firstMate_63 : decode cX3_firstMate 63 = .ok (.invokevirtual 52, 3) := by decide +kernel
theorem dX3_firstMate_66 : decode cX3_firstMate 66 = .ok (.iload 5, 2) := by decide +kernel
theorem dX3_firstMate_68 : decode cX3_firstMate 68 = .ok (.if_icmp .ne 6, 3) := by decide +kernel
theorem dX3_firstMate_7 : decode cX3_firstMate 7 = .ok (.istore_n 3, 1) := by decide +kernel
theorem dX3_firstMate_71 : decode cX3_firstMate 71 = .ok (.iload 6, 2) := by decide +kernel
theorem dX3_firstMate_73 : decode cX3_firstMate 73 = .ok (.ireturn, 1) := by decide +kernel
theorem dX3_firstMate_74 : decode cX3_firstMate 74 = .ok (.iinc 6 1, 3) := by decide +kernel
theorem dX3_firstMate_77 : decode cX3_firstMate 77 = .ok (.goto (-45), 3) := by decide +kernel
theorem dX3_firstMate_8 : decode cX3_firstMate 8 = .ok (.aload_n 0, 1) := by decide +kernel
theorem dX3_firstMate_80 : decode cX3_firstMate 80 = .ok (.iconst (-1), 1) := by decide +kernel
theorem dX3_firstMate_81 : decode cX3_firstMate 81 = .ok (.ireturn, 1) := by decide +kernel
theorem dX3_firstMate_9 : decode cX3_firstMate 9 = .ok (.getfield 23, 3) := by decide +kernel
set_option maxHeartbeats 4000000 in
set_option maxRecDepth 100000 in
theorem k_X3_firstMate (l : Launch) (D : va_G) (cI cS : ClassId) (sz : Nat) (a : Nat → Nat) (na nc N : Nat) (L u0 : SU) (hL : TyX L) (hN : N = 0 ∨ N = 24576) (x0 x1 : Int32) : Met l yX3_firstMate wsX3_firstMate ({ frames := 16, cells := 0, slots := 0, locals := 640 }) (PQ D cI cS (wX cI cS a na nc N L u0) sz [.ref (a 7), .int x0, .int x1]) (QF (S := SU) D (wX cI cS a na nc N L u0) (wX cI cS a na nc N L) sz (fun r _ => Rg (-1) 11 r ∧ True)) 0 0 (va_A (wX cI cS a na nc N L u0) sz) := by
  refine Met.ofW (cc := cX3_firstMate) (maxL := 7) (ret := (some .int)) (by decide) rfl ?_
  intro p e s m args below meth c s₁ B hml hv
  obtain ⟨rfl, hsz, hP, hKK, hD0⟩ := hv
  have hx := B.exec
  have hb := B.bytes
  have hr := B.returns
  have hts := atoms_spec (ws := wsX3_firstMate) B.pre
  have hown : s.vm.findClass RX3 = some m.cls := findClass_of_methodNamed B.named
  have hlocks := B.notSynchronized
  have hK := hKK.1
  have hin2 : ∀ w ∈ wsX20, w ∈ wsX3_firstMate := by decide +kernel
  have hin3 : ∀ w ∈ wsX30, w ∈ wsX3_firstMate := by decide +kernel
  subst hsz
  have hD := hD0.self (sz := s.heap.size)
  obtain ⟨A, hAe⟩ : ∃ A, A = va_A (wX cI cS a na nc N L u0) s.heap.size := ⟨_, rfl⟩
  rw [← hAe] at hD
  have hA : ∀ q : Nat, s.heap.size ≤ q → A q := fun q h => by rw [hAe]; exact Or.inr h
  have hS : va_S A s.heap s.heap [] := va_S.rf
  have hl := lv_entry ([.ref (a 7), .int x0, .int x1]) (n := 7) (Nat.le_of_ble_eq_true rfl)
  rw [lg_entry_eq]
  generalize (lg_sl ([.ref (a 7), .int x0, .int x1]) ++ List.replicate (7 - (lg_sl ([.ref (a 7), .int x0, .int x1])).length) Slot.unset).toArray = ls at hl ⊢
  have hl : lv_has ls 7 [(0, .ref (a 7)), (1, .int x0), (2, .int x1)] := hl
  obtain ⟨u, hu9⟩ : ∃ u : SU, u = u0 := ⟨_, rfl⟩
  rw [← hu9] at hP hD
  have lp32 : ∀ (n32 : Nat) (y32_l3 : Int32) (y32_l4 : Int32) (y32_l5 : Int32) (y32_l6 : Int32) (u : SU) (H : Heap) (locs : List Loc) (ls : Array Slot), Rg (-1) 65548 y32_l5 → Rg 0 12 y32_l6 → va_P D cls (wX cI cS a na nc N L u) H → va_D A (wX cI cS a na nc N L u) → va_S A s.heap H locs → lv_has ls 7 [(0, .ref (a 7)), (3, .int y32_l3), (4, .int y32_l4), (5, .int y32_l5), (6, .int y32_l6)] → 12 - y32_l6.toInt < (n32 : Int) → W p l e (headSpec wsX3_firstMate ({ frames := 16, cells := 0, slots := 0, locals := 640 })).room s m ([.ref (a 7), .int x0, .int x1]).toArray below meth c H locs 0 0 (MQ below (QF (S := SU) D (wX cI cS a na nc N L u0) (wX cI cS a na nc N L) s.heap.size (fun r _ => Rg (-1) 11 r ∧ True)) ([.ref (a 7), .int x0, .int x1]).toArray s 0 0 (va_A (wX cI cS a na nc N L u0) s.heap.size)) (F0 m 32 ls []) := by
    intro n32
    induction n32 with
    | zero =>
      intro y32_l3 y32_l4 y32_l5 y32_l6 u H locs ls g32_l5 g32_l6 hP hD hS hl hm32
      exact absurd rfl (me_z g32_l6 hm32)
    | succ n32 ih32 =>
      intro y32_l3 y32_l4 y32_l5 y32_l6 u H locs ls g32_l5 g32_l6 hP hD hS hl hm32
      refine lv_iload hx hb dX3_firstMate_32 (lv_at hl 4 rfl) ?_
      refine lv_aload_n hx hb dX3_firstMate_34 rfl (lv_at hl 0 rfl) ?_
      refine va_get (D := D) (ci := 3) (v := .ref (a 1)) (C := RX3) (T := TX3) (N := 4) hx hb hts hin3 hown hK hP 7 rfl rfl 0 (by decide) (hts (.fieldLink RX3 23 "MissedPoints$Pairs" "net" "LMissedPoints$Net;") (by decide +kernel)) (fun _ h9 => h9) rfl dX3_firstMate_35 ?_
      refine va_getN (D := D) (ci := 2) (v := .int (L 1 1)) (C := RX2) (T := TX2) (N := 3) hx hb hts hin2 hown hK hP 1 rfl rfl 1 (by decide) (va_Nw.use rfl hKK.2.2.2.2.2.2.2.2.2.2.2.2.2.1) (fun _ h9 => h9) rfl dX3_firstMate_38 ?_
      refine lv_icmp_ge (tgt := 80) hx hb dX3_firstMate_41 (by decide) (fun c36173 => ?_) (fun c36173 => ?_)
      · refine lv_iconst (v := (-1)) hx hb dX3_firstMate_80 (by decide) ?_
        subst hAe
        exact W.iret (v := (-1)) hx hb hr (fun t ht hW => ⟨⟨_, u, rfl, ⟨(by decide : Rg (-1) 11 ((-1) : Int32)), trivial⟩, by rw [ht]; exact hP, hD⟩, hS.F ht⟩) hS.2.2 dX3_firstMate_81
      · have g36174 : Rg 1 12 (L 1 1) := rg_ltr g32_l6 hL.1 (rg_nle c36173) (by decide)
        have g36175 : Rg 0 11 y32_l6 := rg_ltl g32_l6 hL.1 (rg_nle c36173) (by decide)
        refine lv_iload hx hb dX3_firstMate_44 (lv_at hl 2 rfl) ?_
        refine lv_iload hx hb dX3_firstMate_46 (lv_at hl 4 rfl) ?_
        refine lv_ishr hx hb dX3_firstMate_48 ?_
        refine wk_topP (P := fun r => r = y32_l4 >>> (y32_l6 &&& 31)) rfl (fun r36176 qr36176 => ?_)
        refine lv_iconst (v := 1) hx hb dX3_firstMate_49 (by decide) ?_
        refine wk_iandr hx hb dX3_firstMate_50 (by decide : Rg 1 1 (1 : Int32)) (by decide) (fun r36177 hr36177 qr36177 => ?_)
        refine lv_if_eq (tgt := 74) hx hb dX3_firstMate_51 (by decide) (fun c36178 => ?_) (fun c36178 => ?_)
        · have g36179 : Rg 0 0 r36177 := wk_eql hr36177 (by decide : Rg 0 0 (0 : Int32)) c36178 (by decide)
          refine wk_iinc (lv' := fun r => [(6, .int r), (0, .ref (a 7)), (3, .int y32_l3), (4, .int y32_l4), (5, .int y32_l5)]) (e1 := 1) (f := 12) hx hb dX3_firstMate_74 hl (k := 4) rfl (by decide) g36175 (by decide) (fun _ => rfl) (fun r36180 ls hr36180 er36180 hl => ?_)
          refine lv_goto (tgt := 32) hx hb dX3_firstMate_77 (by decide) ?_
          exact ih32 y32_l3 y32_l4 y32_l5 r36180 u _ _ ls g32_l5 (show Rg 0 12 r36180 from rg_w hr36180 (by decide) (by decide)) hP hD hS (lv_sub (l' := [(0, .ref (a 7)), (3, .int y32_l3), (4, .int y32_l4), (5, .int y32_l5), (6, .int r36180)]) hl [1, 2, 3, 4, 0] rfl) (me_up hm32 er36180 (by decide))
        · have g36181 : Rg 1 1 r36177 := rg_ne_lo (k := 0) hr36177 (by decide) c36178 (by decide)
          refine lv_aload_n hx hb dX3_firstMate_54 rfl (lv_at hl 0 rfl) ?_
          refine lv_iload_n hx hb dX3_firstMate_55 rfl (lv_at hl 1 rfl) ?_
          refine lv_iconst (v := 1) hx hb dX3_firstMate_56 (by decide) ?_
          refine lv_iload hx hb dX3_firstMate_57 (lv_at hl 4 rfl) ?_
          refine wk_ishl1 (f := 2048) hx hb dX3_firstMate_59 g36175 (by decide) (fun r36182 hr36182 qr36182 => ?_)
          refine lv_iconst (v := (-1)) hx hb dX3_firstMate_60 (by decide) ?_
          refine lv_ixor hx hb dX3_firstMate_61 ?_
          refine wk_topP (P := fun r => r = r36182 ^^^ ((-1) : Int32)) rfl (fun r36183 qr36183 => ?_)
          refine lv_iand hx hb dX3_firstMate_62 ?_
          refine wk_topP (P := fun r => r = y32_l3 &&& r36183) rfl (fun r36184 qr36184 => ?_)
          refine wk_qi (wX cI cS a na nc N L) u (As := [.int r36184]) (rest := []) ⟨hx, hb, hml, hown, hts⟩ (k_X3_best l D cI cS _ a na nc N L u hL hN r36184) hKK hP hD hS hA 7 (ci := 3) rfl rfl (cwV 1 hts gX3_firstMate_X3_best rfl rfl rfl (by decide +kernel) ⟨Nat.le_of_ble_eq_true rfl, Nat.le_of_ble_eq_true rfl⟩) rfl hl.1 rfl (Nat.le_of_ble_eq_true rfl) dX3_firstMate_63 ⟨Nat.le_of_ble_eq_true rfl, Nat.le_of_ble_eq_true rfl⟩ (fun r36185 u H locs hr36185 hP hD hS => ?_)
          refine lv_iload hx hb dX3_firstMate_66 (lv_at hl 3 rfl) ?_
          refine lv_icmp_ne (tgt := 74) hx hb dX3_firstMate_68 (by decide) (fun c36186 => ?_) (fun c36186 => ?_)
          · refine wk_iinc (lv' := fun r => [(6, .int r), (0, .ref (a 7)), (3, .int y32_l3), (4, .int y32_l4), (5, .int y32_l5)]) (e1 := 1) (f := 12) hx hb dX3_firstMate_74 hl (k := 4) rfl (by decide) g36175 (by decide) (fun _ => rfl) (fun r36187 ls hr36187 er36187 hl => ?_)
            refine lv_goto (tgt := 32) hx hb dX3_firstMate_77 (by decide) ?_
            exact ih32 y32_l3 y32_l4 y32_l5 r36187 u _ _ ls g32_l5 (show Rg 0 12 r36187 from rg_w hr36187 (by decide) (by decide)) hP hD hS (lv_sub (l' := [(0, .ref (a 7)), (3, .int y32_l3), (4, .int y32_l4), (5, .int y32_l5), (6, .int r36187)]) hl [1, 2, 3, 4, 0] rfl) (me_up hm32 er36187 (by decide))
          · have g36188 : Rg 0 65548 r36185 := wk_eql hr36185.1 g32_l5 c36186 (by decide)
            have g36189 : Rg 0 65548 y32_l5 := wk_eqr hr36185.1 g32_l5 c36186 (by decide)
            refine lv_iload hx hb dX3_firstMate_71 (lv_at hl 4 rfl) ?_
            subst hAe
            exact W.iret (v := y32_l6) hx hb hr (fun t ht hW => ⟨⟨_, u, rfl, ⟨(show Rg (-1) 11 y32_l6 from rg_w g36175 (by decide) (by decide)), trivial⟩, by rw [ht]; exact hP, hD⟩, hS.F ht⟩) hS.2.2 dX3_firstMate_73
  refine lv_iload_n hx hb dX3_firstMate_0 rfl (lv_at hl 2 rfl) ?_
  refine lv_iconst (v := 1) hx hb dX3_firstMate_1 (by decide) ?_
  refine lv_iload_n hx hb dX3_firstMate_2 rfl (lv_at hl 1 rfl) ?_
  refine lv_ishl hx hb dX3_firstMate_3 ?_
  refine wk_topP (P := fun r => r = (1 : Int32) <<< (x0 &&& 31)) rfl (fun r36190 qr36190 => ?_)
  refine lv_iconst (v := (-1)) hx hb dX3_firstMate_4 (by decide) ?_
  refine lv_ixor hx hb dX3_firstMate_5 ?_
  refine wk_topP (P := fun r => r = r36190 ^^^ ((-1) : Int32)) rfl (fun r36191 qr36191 => ?_)
  refine lv_iand hx hb dX3_firstMate_6 ?_
  refine wk_topP (P := fun r => r = x1 &&& r36191) rfl (fun r36192 qr36192 => ?_)
  refine lv_istore_n (lv' := [(3, .int r36192), (0, .ref (a 7)), (1, .int x0), (2, .int x1)]) hx hb dX3_firstMate_7 rfl hl (by decide) rfl (fun ls hl => ?_)
  refine lv_aload_n hx hb dX3_firstMate_8 rfl (lv_at hl 1 rfl) ?_
  refine va_get (D := D) (ci := 3) (v := .ref (a 1)) (C := RX3) (T := TX3) (N := 4) hx hb hts hin3 hown hK hP 7 rfl rfl 0 (by decide) (hts (.fieldLink RX3 23 "MissedPoints$Pairs" "net" "LMissedPoints$Net;") (by decide +kernel)) (fun _ h9 => h9) rfl dX3_firstMate_9 ?_
  refine lv_iload_n hx hb dX3_firstMate_12 rfl (lv_at hl 2 rfl) ?_
  refine wk_sv 1 (As := [.int x0]) (rest := []) ⟨hx, hb, hml, hown, hts⟩ (k_X2_near l D cI cS a na nc N L u hL hN x0) hKK hP (ci := 2) rfl rfl (cwV 1 hts gX3_firstMate_X2_near rfl rfl rfl (by decide +kernel) ⟨Nat.le_of_ble_eq_true rfl, Nat.le_of_ble_eq_true rfl⟩) rfl hl.1 rfl (Nat.le_of_ble_eq_true rfl) dX3_firstMate_13 ⟨Nat.le_of_ble_eq_true rfl, Nat.le_of_ble_eq_true rfl⟩ (fun r36193 hr36193 => ?_)
  refine lv_iload_n hx hb dX3_firstMate_16 rfl (lv_at hl 0 rfl) ?_
  refine lv_iand hx hb dX3_firstMate_17 ?_
  refine wk_topP (P := fun r => r = r36193 &&& r36192) rfl (fun r36194 qr36194 => ?_)
  refine lv_istore (lv' := [(4, .int r36194), (3, .int r36192), (0, .ref (a 7)), (1, .int x0), (2, .int x1)]) hx hb dX3_firstMate_18 hl (by decide) rfl (fun ls hl => ?_)
  refine lv_aload_n hx hb dX3_firstMate_20 rfl (lv_at hl 2 rfl) ?_
  refine lv_iload_n hx hb dX3_firstMate_21 rfl (lv_at hl 4 rfl) ?_
  refine wk_qi (wX cI cS a na nc N L) u (As := [.int x1]) (rest := []) ⟨hx, hb, hml, hown, hts⟩ (k_X3_best l D cI cS _ a na nc N L u hL hN x1) hKK hP hD hS hA 7 (ci := 3) rfl rfl (cwV 1 hts gX3_firstMate_X3_best rfl rfl rfl (by decide +kernel) ⟨Nat.le_of_ble_eq_true rfl, Nat.le_of_ble_eq_true rfl⟩) rfl hl.1 rfl (Nat.le_of_ble_eq_true rfl) dX3_firstMate_22 ⟨Nat.le_of_ble_eq_true rfl, Nat.le_of_ble_eq_true rfl⟩ (fun r36195 u H locs hr36195 hP hD hS => ?_)
  refine lv_iconst (v := 1) hx hb dX3_firstMate_25 (by decide) ?_
  refine wk_isub (e1 := (-1)) (f := 65548) hx hb dX3_firstMate_26 hr36195.1 (by decide : Rg 1 1 (1 : Int32)) (by decide) (fun r36196 hr36196 er36196 qr36196 => ?_)
  refine lv_istore (lv' := [(5, .int r36196), (4, .int r36194), (3, .int r36192), (0, .ref (a 7)), (1, .int x0), (2, .int x1)]) hx hb dX3_firstMate_27 hl (by decide) rfl (fun ls hl => ?_)
  refine lv_iconst (v := 0) hx hb dX3_firstMate_29 (by decide) ?_
  refine lv_istore (lv' := [(6, .int 0), (5, .int r36196), (4, .int r36194), (3, .int r36192), (0, .ref (a 7)), (1, .int x0), (2, .int x1)]) hx hb dX3_firstMate_30 hl (by decide) rfl (fun ls hl => ?_)
  exact lp32 13 r36192 r36194 r36196 (0 : Int32) u _ _ ls hr36196 (by decide : Rg 0 12 (0 : Int32)) hP hD hS (lv_sub (l' := [(0, .ref (a 7)), (3, .int r36192), (4, .int r36194), (5, .int r36196), (6, .int 0)]) hl [4, 3, 2, 1, 0] rfl) (me_i (by decide : Rg 0 12 (0 : Int32)) (by decide))
set_option maxRecDepth 20000 in
theorem ggX3_layFirst_X3_firstMate : GoodIn wsX3_layFirst wsX3_firstMate := goodIn_r _ [12, 1, 13, 14, 15, 5, 16, 17, 18, 19, 20, 21, 7, 22, 23, 24, 11, 25, 26, 27, 28, 29, 30, 31, 32, 33, 34, 35, 36, 37, 38, 39, 40, 41, 42, 43, 44, 45, 46, 47, 48, 49, 50, 51, 52, 53, 54, 55, 56, 57, 58, 59, 60, 61, 62, 63, 64, 65, 66, 67, 68, 69, 70, 71, 72] rfl (by decide +kernel)
set_option maxRecDepth 20000 in
theorem gX3_layFirst_X3_firstMate : GoodIn wsX3_layFirst (wsV RX3 94 RX3 yX3_firstMate wsX3_firstMate) := goodIn_app (goodIn_of _ (by decide +kernel)) ggX3_layFirst_X3_firstMate
theorem dX3_layFirst_100 : decode cX3_layFirst 100 = .ok (.iconst (-1), 1) := by decide +kernel
theorem dX3_layFirst_101 : decode cX3_layFirst 101 = .ok (.ixor, 1) := by decide +kernel
theorem dX3_layFirst_102 : decode cX3_layFirst 102 = .ok (.iand, 1) := by decide +kernel
theorem dX3_layFirst_103 : decode cX3_layFirst 103 = .ok (.istore_n 2, 1) := by decide +kernel
theorem dX3_layFirst_104 : decode cX3_layFirst 104 = .ok (.iinc 3 1, 3) := by decide +kernel
theorem dX3_layFirst_107 : decode cX3_layFirst 107 = .ok (.goto (-79), 3) := by decide +kernel
theorem dX3_layFirst_39 : decode cX3_layFirst 39 = .ok (.iload_n 3, 1) := by decide +kernel
theorem dX3_layFirst_40 : decode cX3_layFirst 40 = .ok (.aload_n 1, 1) := by decide +kernel
theorem dX3_layFirst_41 : decode cX3_layFirst 41 = .ok (.arraylength, 1) := by decide +kernel
theorem dX3_layFirst_42 : decode cX3_layFirst 42 = .ok (.if_icmp .ge 68, 3) := by decide +kernel
theorem dX3_layFirst_45 : decode cX3_layFirst 45 = .ok (.iload_n 2, 1) := by decide +kernel
theorem dX3_layFirst_46 : decode cX3_layFirst 46 = .ok (.iload_n 3, 1) := by decide +kernel
theorem dX3_layFirst_47 : decode cX3_layFirst 47 = .ok (.ishr, 1) := by decide +kernel
theorem dX3_layFirst_48 : decode cX3_layFirst 48 = .ok (.iconst 1, 1) := by decide +kernel
theorem dX3_layFirst_49 : decode cX3_layFirst 49 = .ok (.iand, 1) := by decide +kernel
theorem dX3_layFirst_50 : decode cX3_layFirst 50 = .ok (.ifCond .eq 12, 3) := by decide +kernel
theorem dX3_layFirst_53 : decode cX3_layFirst 53 = .ok (.aload_n 0, 1) := by decide +kernel
theorem dX3_layFirst_54 : decode cX3_layFirst 54 = .ok (.iload_n 3, 1) := by decide +kernel
theorem dX3_layFirst_55 : decode cX3_layFirst 55 = .ok (.iload_n 2, 1) := by decide +kernel
theorem dX3_layFirst_56 : decode cX3_layFirst 56 = .ok (.invokevirtual 94, 3) := by decide +kernel
theorem dX3_layFirst_59 : decode cX3_layFirst 59 = .ok (.goto 4, 3) := by decide +kernel
theorem dX3_layFirst_62 : decode cX3_layFirst 62 = .ok (.iconst (-1), 1) := by decide +kernel
theorem dX3_layFirst_63 : decode cX3_layFirst 63 = .ok (.istore 4, 2) := by decide +kernel
theorem dX3_layFirst_65 : decode cX3_layFirst 65 = .ok (.iload_n 2, 1) := by decide +kernel
theorem dX3_layFirst_66 : decode cX3_layFirst 66 = .ok (.iconst 1, 1) := by decide +kernel
theorem dX3_layFirst_67 : decode cX3_layFirst 67 = .ok (.iload_n 3, 1) := by decide +kernel
theorem dX3_layFirst_68 : decode cX3_layFirst 68 = .ok (.ishl, 1) := by decide +kernel
theorem dX3_layFirst_69 : decode cX3_layFirst 69 = .ok (.iconst (-1), 1) := by decide +kernel
theorem dX3_layFirst_70 : decode cX3_layFirst 70 = .ok (.ixor, 1) := by decide +kernel
theorem dX3_layFirst_71 : decode cX3_layFirst 71 = .ok (.iand, 1) := by decide +kernel
theorem dX3_layFirst_72 : decode cX3_layFirst 72 = .ok (.istore_n 2, 1) := by decide +kernel
theorem dX3_layFirst_73 : decode cX3_layFirst 73 = .ok (.iload 4, 2) := by decide +kernel
theorem dX3_layFirst_75 : decode cX3_layFirst 75 = .ok (.ifCond .lt 29, 3) := by decide +kernel
theorem dX3_layFirst_78 : decode cX3_layFirst 78 = .ok (.iload 4, 2) := by decide +kernel
theorem dX3_layFirst_80 : decode cX3_layFirst 80 = .ok (.aload_n 1, 1) := by decide +kernel
theorem dX3_layFirst_81 : decode cX3_layFirst 81 = .ok (.arraylength, 1) := by decide +kernel
theorem dX3_layFirst_82 : decode cX3_layFirst 82 = .ok (.if_icmp .ge 22, 3) := by decide +kernel
theorem dX3_layFirst_85 : decode cX3_layFirst 85 = .ok (.aload_n 1, 1) := by decide +kernel
theorem dX3_layFirst_86 : decode cX3_layFirst 86 = .ok (.iload_n 3, 1) := by decide +kernel
theorem dX3_layFirst_87 : decode cX3_layFirst 87 = .ok (.iload 4, 2) := by decide +kernel
theorem dX3_layFirst_89 : decode cX3_layFirst 89 = .ok (.iastore, 1) := by decide +kernel
theorem dX3_layFirst_90 : decode cX3_layFirst 90 = .ok (.aload_n 1, 1) := by decide +kernel
theorem dX3_layFirst_91 : decode cX3_layFirst 91 = .ok (.iload 4, 2) := by decide +kernel
theorem dX3_layFirst_93 : decode cX3_layFirst 93 = .ok (.iload_n 3, 1) := by decide +kernel
theorem dX3_layFirst_94 : decode cX3_layFirst 94 = .ok (.iastore, 1) := by decide +kernel
theorem dX3_layFirst_95 : decode cX3_layFirst 95 = .ok (.iload_n 2, 1) := by decide +kernel
theorem dX3_layFirst_96 : decode cX3_layFirst 96 = .ok (.iconst 1, 1) := by decide +kernel
theorem dX3_layFirst_97 : decode cX3_layFirst 97 = .ok (.iload 4, 2) := by decide +kernel
theorem dX3_layFirst_99 : decode cX3_layFirst 99 = .ok (.ishl, 1) := by decide +kernel
set_option maxHeartbeats 4000000 in
set_option maxRecDepth 100000 in
theorem k_X3_layFirst (l : Launch) (D : va_G) (cI cS : ClassId) (sz : Nat) (a : Nat → Nat) (na nc N : Nat) (L u0 : SU) (hL : TyX L) (hN : N = 0 ∨ N = 24576) : Met l yX3_layFirst wsX3_layFirst ({ frames := 17, cells := 0, slots := 0, locals := 680 }) (PQ D cI cS (wX cI cS a na nc N L u0) sz [.ref (a 7), .ref (a 35)]) (QE (S := SU) D (wX cI cS a na nc N L u0) (wX cI cS a na nc N L) sz (fun _ => True)) 0 0 (va_A (wX cI cS a na nc N L u0) sz) := by
  refine Met.ofW (cc := cX3_layFirst) (maxL := 5) (ret := none) (by decide) rfl ?_
  intro p e s m args below meth c s₁ B hml hv
  obtain ⟨rfl, hsz, hP, hKK, hD0⟩ := hv
  have hx := B.exec
  have hb := B.bytes
  have hr := B.returns
  have hts := atoms_spec (ws := wsX3_layFirst) B.pre
  have hown : s.vm.findClass RX3 = some m.cls := findClass_of_methodNamed B.named
  have hlocks := B.notSynchronized
  have hK := hKK.1
  have hin2 : ∀ w ∈ wsX20, w ∈ wsX3_layFirst := by decide +kernel
  have hin3 : ∀ w ∈ wsX30, w ∈ wsX3_layFirst := by decide +kernel
  subst hsz
  have hD := hD0.self (sz := s.heap.size)
  obtain ⟨A, hAe⟩ : ∃ A, A = va_A (wX cI cS a na nc N L u0) s.heap.size := ⟨_, rfl⟩
  rw [← hAe] at hD
  have hA : ∀ q : Nat, s.heap.size ≤ q → A q := fun q h => by rw [hAe]; exact Or.inr h
  have hS : va_S A s.heap s.heap [] := va_S.rf
  have hl := lv_entry ([.ref (a 7), .ref (a 35)]) (n := 5) (Nat.le_of_ble_eq_true rfl)
  rw [lg_entry_eq]
  generalize (lg_sl ([.ref (a 7), .ref (a 35)]) ++ List.replicate (5 - (lg_sl ([.ref (a 7), .ref (a 35)])).length) Slot.unset).toArray = ls at hl ⊢
  have hl : lv_has ls 5 [(0, .ref (a 7)), (1, .ref (a 35))] := hl
  obtain ⟨u, hu9⟩ : ∃ u : SU, u = u0 := ⟨_, rfl⟩
  rw [← hu9] at hP hD
  have lp28 : ∀ (n28 : Nat) (y28_l2 : Int32) (y28_l3 : Int32) (u : SU) (H : Heap) (locs : List Loc) (ls : Array Slot), Rg 0 4095 y28_l2 → Rg 0 12 y28_l3 → va_P D cls (wX cI cS a na nc N L u) H → va_D A (wX cI cS a na nc N L u) → va_S A s.heap H locs → lv_has ls 5 [(0, .ref (a 7)), (1, .ref (a 35)), (2, .int y28_l2), (3, .int y28_l3)] → 12 - y28_l3.toInt < (n28 : Int) → W p l e (headSpec wsX3_layFirst ({ frames := 17, cells := 0, slots := 0, locals := 680 })).room s m ([.ref (a 7), .ref (a 35)]).toArray below meth c H locs 0 0 (MQ below (QE (S := SU) D (wX cI cS a na nc N L u0) (wX cI cS a na nc N L) s.heap.size (fun _ => True)) ([.ref (a 7), .ref (a 35)]).toArray s 0 0 (va_A (wX cI cS a na nc N L u0) s.heap.size)) (F0 m 28 ls []) := by
    intro n28
    induction n28 with
    | zero =>
      intro y28_l2 y28_l3 u H locs ls g28_l2 g28_l3 hP hD hS hl hm28
      exact absurd rfl (me_z g28_l3 hm28)
    | succ n28 ih28 =>
      intro y28_l2 y28_l3 u H locs ls g28_l2 g28_l3 hP hD hS hl hm28
      have ct63 : ∀ (y63_s0 : Int32) (u : SU) (H : Heap) (locs : List Loc) (ls : Array Slot), Rg 0 4095 y28_l2 → Rg 0 11 y28_l3 → Rg (-1) 11 y63_s0 → va_P D cls (wX cI cS a na nc N L u) H → va_D A (wX cI cS a na nc N L u) → va_S A s.heap H locs → lv_has ls 5 [(0, .ref (a 7)), (1, .ref (a 35)), (2, .int y28_l2), (3, .int y28_l3)] → W p l e (headSpec wsX3_layFirst ({ frames := 17, cells := 0, slots := 0, locals := 680 })).room s m ([.ref (a 7), .ref (a 35)]).toArray below meth c H locs 0 0 (MQ below (QE (S := SU) D (wX cI cS a na nc N L u0) (wX cI cS a na nc N L) s.heap.size (fun _ => True)) ([.ref (a 7), .ref (a 35)]).toArray s 0 0 (va_A (wX cI cS a na nc N L u0) s.heap.size)) (F0 m 63 ls [.int y63_s0]) := by
        intro y63_s0 u H locs ls g63_l2 g63_l3 g63_s0 hP hD hS hl
        refine lv_istore (lv' := [(4, .int y63_s0), (0, .ref (a 7)), (1, .ref (a 35)), (2, .int y28_l2), (3, .int y28_l3)]) hx hb dX3_layFirst_63 hl (by decide) rfl (fun ls hl => ?_)
        refine lv_iload_n hx hb dX3_layFirst_65 rfl (lv_at hl 3 rfl) ?_
        refine lv_iconst (v := 1) hx hb dX3_layFirst_66 (by decide) ?_
        refine lv_iload_n hx hb dX3_layFirst_67 rfl (lv_at hl 4 rfl) ?_
        refine wk_ishl1 (f := 2048) hx hb dX3_layFirst_68 g63_l3 (by decide) (fun r36491 hr36491 qr36491 => ?_)
        refine lv_iconst (v := (-1)) hx hb dX3_layFirst_69 (by decide) ?_
        refine lv_ixor hx hb dX3_layFirst_70 ?_
        refine wk_topP (P := fun r => r = r36491 ^^^ ((-1) : Int32)) rfl (fun r36492 qr36492 => ?_)
        refine wk_iandl hx hb dX3_layFirst_71 g63_l2 (by decide) (fun r36493 hr36493 qr36493 => ?_)
        refine lv_istore_n (lv' := [(2, .int r36493), (4, .int y63_s0), (0, .ref (a 7)), (1, .ref (a 35)), (3, .int y28_l3)]) hx hb dX3_layFirst_72 rfl hl (by decide) rfl (fun ls hl => ?_)
        refine lv_iload hx hb dX3_layFirst_73 (lv_at hl 1 rfl) ?_
        refine lv_if_lt (tgt := 104) hx hb dX3_layFirst_75 (by decide) (fun c36494 => ?_) (fun c36494 => ?_)
        · have g36495 : Rg (-1) (-1) y63_s0 := rg_ltl g63_s0 (by decide : Rg 0 0 (0 : Int32)) c36494 (by decide)
          refine wk_iinc (lv' := fun r => [(3, .int r), (2, .int r36493), (4, .int y63_s0), (0, .ref (a 7)), (1, .ref (a 35))]) (e1 := 1) (f := 12) hx hb dX3_layFirst_104 hl (k := 4) rfl (by decide) g63_l3 (by decide) (fun _ => rfl) (fun r36496 ls hr36496 er36496 hl => ?_)
          refine lv_goto (tgt := 28) hx hb dX3_layFirst_107 (by decide) ?_
          exact ih28 r36493 r36496 u _ _ ls hr36493 (show Rg 0 12 r36496 from rg_w hr36496 (by decide) (by decide)) hP hD hS (lv_sub (l' := [(0, .ref (a 7)), (1, .ref (a 35)), (2, .int r36493), (3, .int r36496)]) hl [3, 4, 1, 0] rfl) (me_up hm28 er36496 (by decide))
        · have g36497 : Rg 0 11 y63_s0 := rg_ler (by decide : Rg 0 0 (0 : Int32)) g63_s0 (rg_nlt c36494) (by decide)
          refine lv_iload hx hb dX3_layFirst_78 (lv_at hl 1 rfl) ?_
          refine lv_aload_n hx hb dX3_layFirst_80 rfl (lv_at hl 3 rfl) ?_
          refine va_alen hx hb hK hP 35 0 rfl rfl (v := 12) rfl dX3_layFirst_81 ?_
          refine lv_icmp_ge (tgt := 104) hx hb dX3_layFirst_82 (by decide) (fun c36498 => ?_) (fun c36498 => ?_)
          · exact absurd c36498 (wk_nle (by decide : Rg 12 12 (12 : Int32)) g36497 (by decide))
          · refine lv_aload_n hx hb dX3_layFirst_85 rfl (lv_at hl 3 rfl) ?_
            refine lv_iload_n hx hb dX3_layFirst_86 rfl (lv_at hl 4 rfl) ?_
            refine lv_iload hx hb dX3_layFirst_87 (lv_at hl 1 rfl) ?_
            refine ks_ast hx hb hK hP hD hS rfl (k := 35) rfl sx_35 (rg_in g63_l3 (by decide) (by decide)) dX3_layFirst_89 (fun u H locs hP hD hS => ?_)
            refine lv_aload_n hx hb dX3_layFirst_90 rfl (lv_at hl 3 rfl) ?_
            refine lv_iload hx hb dX3_layFirst_91 (lv_at hl 1 rfl) ?_
            refine lv_iload_n hx hb dX3_layFirst_93 rfl (lv_at hl 4 rfl) ?_
            refine ks_ast hx hb hK hP hD hS rfl (k := 35) rfl sx_35 (rg_in g36497 (by decide) (by decide)) dX3_layFirst_94 (fun u H locs hP hD hS => ?_)
            refine lv_iload_n hx hb dX3_layFirst_95 rfl (lv_at hl 0 rfl) ?_
            refine lv_iconst (v := 1) hx hb dX3_layFirst_96 (by decide) ?_
            refine lv_iload hx hb dX3_layFirst_97 (lv_at hl 1 rfl) ?_
            refine wk_ishl1 (f := 2048) hx hb dX3_layFirst_99 g36497 (by decide) (fun r36499 hr36499 qr36499 => ?_)
            refine lv_iconst (v := (-1)) hx hb dX3_layFirst_100 (by decide) ?_
            refine lv_ixor hx hb dX3_layFirst_101 ?_
            refine wk_topP (P := fun r => r = r36499 ^^^ ((-1) : Int32)) rfl (fun r36500 qr36500 => ?_)
            refine wk_iandl hx hb dX3_layFirst_102 hr36493 (by decide) (fun r36501 hr36501 qr36501 => ?_)
            refine lv_istore_n (lv' := [(2, .int r36501), (4, .int y63_s0), (0, .ref (a 7)), (1, .ref (a 35)), (3, .int y28_l3)]) hx hb dX3_layFirst_103 rfl hl (by decide) rfl (fun ls hl => ?_)
            refine wk_iinc (lv' := fun r => [(3, .int r), (2, .int r36501), (4, .int y63_s0), (0, .ref (a 7)), (1, .ref (a 35))]) (e1 := 1) (f := 12) hx hb dX3_layFirst_104 hl (k := 4) rfl (by decide) g63_l3 (by decide) (fun _ => rfl) (fun r36502 ls hr36502 er36502 hl => ?_)
            refine lv_goto (tgt := 28) hx hb dX3_layFirst_107 (by decide) ?_
            exact ih28 r36501 r36502 u _ _ ls hr36501 (show Rg 0 12 r36502 from rg_w hr36502 (by decide) (by decide)) hP hD hS (lv_sub (l' := [(0, .ref (a 7)), (1, .ref (a 35)), (2, .int r36501), (3, .int r36502)]) hl [3, 4, 1, 0] rfl) (me_up hm28 er36502 (by decide))
      refine lv_iload_n hx hb dX3_layFirst_28 rfl (lv_at hl 3 rfl) ?_
      refine lv_aload_n hx hb dX3_layFirst_29 rfl (lv_at hl 0 rfl) ?_
      refine va_get (D := D) (ci := 3) (v := .ref (a 1)) (C := RX3) (T := TX3) (N := 4) hx hb hts hin3 hown hK hP 7 rfl rfl 0 (by decide) (hts (.fieldLink RX3 23 "MissedPoints$Pairs" "net" "LMissedPoints$Net;") (by decide +kernel)) (fun _ h9 => h9) rfl dX3_layFirst_30 ?_
      refine va_getN (D := D) (ci := 2) (v := .int (L 1 1)) (C := RX2) (T := TX2) (N := 3) hx hb hts hin2 hown hK hP 1 rfl rfl 1 (by decide) (va_Nw.use rfl hKK.2.2.2.2.2.2.2.2.2.2.2.2.2.1) (fun _ h9 => h9) rfl dX3_layFirst_33 ?_
      refine lv_icmp_ge (tgt := 110) hx hb dX3_layFirst_36 (by decide) (fun c36503 => ?_) (fun c36503 => ?_)
      · subst hAe
        exact W.vret hx hb hr (fun t ht hW => ⟨⟨u, rfl, trivial, by rw [ht]; exact hP, hD⟩, hS.F ht⟩) hS.2.2 dX3_layFirst_110
      · have g36504 : Rg 1 12 (L 1 1) := rg_ltr g28_l3 hL.1 (rg_nle c36503) (by decide)
        have g36505 : Rg 0 11 y28_l3 := rg_ltl g28_l3 hL.1 (rg_nle c36503) (by decide)
        refine lv_iload_n hx hb dX3_layFirst_39 rfl (lv_at hl 3 rfl) ?_
        refine lv_aload_n hx hb dX3_layFirst_40 rfl (lv_at hl 1 rfl) ?_
        refine va_alen hx hb hK hP 35 0 rfl rfl (v := 12) rfl dX3_layFirst_41 ?_
        refine lv_icmp_ge (tgt := 110) hx hb dX3_layFirst_42 (by decide) (fun c36506 => ?_) (fun c36506 => ?_)
        · exact absurd c36506 (wk_nle (by decide : Rg 12 12 (12 : Int32)) g36505 (by decide))
        · refine lv_iload_n hx hb dX3_layFirst_45 rfl (lv_at hl 2 rfl) ?_
          refine lv_iload_n hx hb dX3_layFirst_46 rfl (lv_at hl 3 rfl) ?_
          refine lv_ishr hx hb dX3_layFirst_47 ?_
          refine wk_topP (P := fun r => r = y28_l2 >>> (y28_l3 &&& 31)) rfl (fun r36507 qr36507 => ?_)
          refine lv_iconst (v := 1) hx hb dX3_layFirst_48 (by decide) ?_
          refine wk_iandr hx hb dX3_layFirst_49 (by decide : Rg 1 1 (1 : Int32)) (by decide) (fun r36508 hr36508 qr36508 => ?_)
          refine lv_if_eq (tgt := 62) hx hb dX3_layFirst_50 (by decide) (fun c36509 => ?_) (fun c36509 => ?_)
          · have g36510 : Rg 0 0 r36508 := wk_eql hr36508 (by decide : Rg 0 0 (0 : Int32)) c36509 (by decide)
            refine lv_iconst (v := (-1)) hx hb dX3_layFirst_62 (by decide) ?_
            exact ct63 (((-1) : Int32)) u _ _ ls g28_l2 g36505 (by decide : Rg (-1) 11 ((-1) : Int32)) hP hD hS (lv_sub (l' := [(0, .ref (a 7)), (1, .ref (a 35)), (2, .int y28_l2), (3, .int y28_l3)]) hl [0, 1, 2, 3] rfl)
          · have g36511 : Rg 1 1 r36508 := rg_ne_lo (k := 0) hr36508 (by decide) c36509 (by decide)
            refine lv_aload_n hx hb dX3_layFirst_53 rfl (lv_at hl 0 rfl) ?_
            refine lv_iload_n hx hb dX3_layFirst_54 rfl (lv_at hl 3 rfl) ?_
            refine lv_iload_n hx hb dX3_layFirst_55 rfl (lv_at hl 2 rfl) ?_
            refine wk_qi (wX cI cS a na nc N L) u (As := [.int y28_l3, .int y28_l2]) (rest := []) ⟨hx, hb, hml, hown, hts⟩ (k_X3_firstMate l D cI cS _ a na nc N L u hL hN y28_l3 y28_l2) hKK hP hD hS hA 7 (ci := 3) rfl rfl (cwV 2 hts gX3_layFirst_X3_firstMate rfl rfl rfl (by decide +kernel) ⟨Nat.le_of_ble_eq_true rfl, Nat.le_of_ble_eq_true rfl⟩) rfl hl.1 rfl (Nat.le_of_ble_eq_true rfl) dX3_layFirst_56 ⟨Nat.le_of_ble_eq_true rfl, Nat.le_of_ble_eq_true rfl⟩ (fun r36512 u H locs hr36512 hP hD hS => ?_)
            refine lv_goto (tgt := 63) hx hb dX3_layFirst_59 (by decide) ?_
            exact ct63 r36512 u _ _ ls g28_l2 g36505 hr36512.1 hP hD hS (lv_sub (l' := [(0, .ref (a 7)), (1, .ref (a 35)), (2, .int y28_l2), (3, .int y28_l3)]) hl [0, 1, 2, 3] rfl)
  have lp10 : ∀ (n10 : Nat) (y10_l2 : Int32) (y10_l3 : Int32) (u : SU) (H : Heap) (locs : List Loc) (ls : Array Slot), Rg 0 4095 y10_l2 → Rg 0 12 y10_l3 → va_P D cls (wX cI cS a na nc N L u) H → va_D A (wX cI cS a na nc N L u) → va_S A s.heap H locs → lv_has ls 5 [(0, .ref (a 7)), (1, .ref (a 35)), (2, .int y10_l2), (3, .int y10_l3)] → 12 - y10_l3.toInt < (n10 : Int) → W p l e (headSpec wsX3_layFirst ({ frames := 17, cells := 0, slots := 0, locals := 680 })).room s m ([.ref (a 7), .ref (a 35)]).toArray below meth c H locs 0 0 (MQ below (QE (S := SU) D (wX cI cS a na nc N L u0) (wX cI cS a na nc N L) s.heap.size (fun _ => True)) ([.ref (a 7), .ref (a 35)]).toArray s 0 0 (va_A (wX cI cS a na nc N L u0) s.heap.size)) (F0 m 10 ls []) := by
    intro n10
    induction n10 with
    | zero =>
      intro y10_l2 y10_l3 u H locs ls g10_l2 g10_l3 hP hD hS hl hm10
      exact absurd rfl (me_z g10_l3 hm10)
    | succ n10 ih10 =>
      intro y10_l2 y10_l3 u H locs ls g10_l2 g10_l3 hP hD hS hl hm10
      refine lv_iload_n hx hb dX3_layFirst_10 rfl (lv_at hl 3 rfl) ?_
      refine lv_aload_n hx hb dX3_layFirst_11 rfl (lv_at hl 1 rfl) ?_
      refine va_alen hx hb hK hP 35 0 rfl rfl (v := 12) rfl dX3_layFirst_12 ?_
      refine lv_icmp_ge (tgt := 26) hx hb dX3_layFirst_13 (by decide) (fun c36513 => ?_) (fun c36513 => ?_)
      · have g36514 : Rg 12 12 y10_l3 := rg_ler (by decide : Rg 12 12 (12 : Int32)) g10_l3 c36513 (by decide)
        refine lv_iconst (v := 0) hx hb dX3_layFirst_26 (by decide) ?_
        refine lv_istore_n (lv' := [(3, .int 0), (0, .ref (a 7)), (1, .ref (a 35)), (2, .int y10_l2)]) hx hb dX3_layFirst_27 rfl hl (by decide) rfl (fun ls hl => ?_)
        exact lp28 13 y10_l2 (0 : Int32) u _ _ ls g10_l2 (by decide : Rg 0 12 (0 : Int32)) hP hD hS (lv_sub (l' := [(0, .ref (a 7)), (1, .ref (a 35)), (2, .int y10_l2), (3, .int 0)]) hl [1, 2, 3, 0] rfl) (me_i (by decide : Rg 0 12 (0 : Int32)) (by decide))
      · have g36515 : Rg 0 11 y10_l3 := rg_ltl g10_l3 (by decide : Rg 12 12 (12 : Int32)) (rg_nle c36513) (by decide)
        refine lv_aload_n hx hb dX3_layFirst_16 rfl (lv_at hl 1 rfl) ?_
        refine lv_iload_n hx hb dX3_layFirst_17 rfl (lv_at hl 3 rfl) ?_
        refine lv_iconst (v := (-1)) hx hb dX3_layFirst_18 (by decide) ?_
        refine ks_ast hx hb hK hP hD hS rfl (k := 35) rfl sx_35 (rg_in g36515 (by decide) (by decide)) dX3_layFirst_19 (fun u H locs hP hD hS => ?_)
        refine wk_iinc (lv' := fun r => [(3, .int r), (0, .ref (a 7)), (1, .ref (a 35)), (2, .int y10_l2)]) (e1 := 1) (f := 12) hx hb dX3_layFirst_20 hl (k := 3) rfl (by decide) g36515 (by decide) (fun _ => rfl) (fun r36516 ls hr36516 er36516 hl => ?_)
        refine lv_goto (tgt := 10) hx hb dX3_layFirst_23 (by decide) ?_
        exact ih10 y10_l2 r36516 u _ _ ls g10_l2 (show Rg 0 12 r36516 from rg_w hr36516 (by decide) (by decide)) hP hD hS (lv_sub (l' := [(0, .ref (a 7)), (1, .ref (a 35)), (2, .int y10_l2), (3, .int r36516)]) hl [1, 2, 3, 0] rfl) (me_up hm10 er36516 (by decide))
  refine lv_aload_n hx hb dX3_layFirst_0 rfl (lv_at hl 0 rfl) ?_
  refine va_get (D := D) (ci := 3) (v := .ref (a 1)) (C := RX3) (T := TX3) (N := 4) hx hb hts hin3 hown hK hP 7 rfl rfl 0 (by decide) (hts (.fieldLink RX3 23 "MissedPoints$Pairs" "net" "LMissedPoints$Net;") (by decide +kernel)) (fun _ h9 => h9) rfl dX3_layFirst_1 ?_
  refine wk_sv 1 (As := []) (rest := []) ⟨hx, hb, hml, hown, hts⟩ (k_X2_all l D cI cS a na nc N L u hL hN) hKK hP (ci := 2) rfl rfl (cwV 0 hts gX3_layFirst_X2_all rfl rfl rfl (by decide +kernel) ⟨Nat.le_of_ble_eq_true rfl, Nat.le_of_ble_eq_true rfl⟩) rfl hl.1 rfl (Nat.le_of_ble_eq_true rfl) dX3_layFirst_4 ⟨Nat.le_of_ble_eq_true rfl, Nat.le_of_ble_eq_true rfl⟩ (fun r36517 hr36517 => ?_)
  refine lv_istore_n (lv' := [(2, .int r36517), (0, .ref (a 7)), (1, .ref (a 35))]) hx hb dX3_layFirst_7 rfl hl (by decide) rfl (fun ls hl => ?_)
  refine lv_iconst (v := 0) hx hb dX3_layFirst_8 (by decide) ?_
  refine lv_istore_n (lv' := [(3, .int 0), (2, .int r36517), (0, .ref (a 7)), (1, .ref (a 35))]) hx hb dX3_layFirst_9 rfl hl (by decide) rfl (fun ls hl => ?_)
  exact lp10 13 r36517 (0 : Int32) u _ _ ls hr36517.1 (by decide : Rg 0 12 (0 : Int32)) hP hD hS (lv_sub (l' := [(0, .ref (a 7)), (1, .ref (a 35)), (2, .int r36517), (3, .int 0)]) hl [2, 3, 1, 0] rfl) (me_i (by decide : Rg 0 12 (0 : Int32)) (by decide))
set_option maxHeartbeats 4000000 in
set_option maxRecDepth 100000 in
theorem k_X4_allOf (l : Launch) (D : va_G) (cI cS : ClassId) (sz : Nat) (a : Nat → Nat) (na nc N : Nat) (L u0 : SU) (hL : TyX L) (hN : N = 0 ∨ N = 24576) (x0 : Int32) : Met l yX4_allOf wsX4_allOf ({ frames := 17, cells := 0, slots := 0, locals := 680 }) (PQ D cI cS (wX cI cS a na nc N L u0) sz [.ref (a 17), .int x0]) (QF (S := SU) D (wX cI cS a na nc N L u0) (wX cI cS a na nc N L) sz (fun r _ => Rg (-2147483648) 2147483647 r ∧ True)) 0 0 (va_A (wX cI cS a na nc N L u0) sz) := by
  refine Met.ofW (cc := cX4_allOf) (maxL := 4) (ret := (some .int)) (by decide) rfl ?_
  intro p e s m args below meth c s₁ B hml hv
  obtain ⟨rfl, hsz, hP, hKK, hD0⟩ := hv
  have hx := B.exec
  have hb := B.bytes
  have hr := B.returns
  have hts := atoms_spec (ws := wsX4_allOf) B.pre
  have hown : s.vm.findClass RX4 = some m.cls := findClass_of_methodNamed B.named
  have hlocks := B.notSynchronized
  have hK := hKK.1
  have hin4 : ∀ w ∈ wsX40, w ∈ wsX4_allOf := by decide +kernel
  subst hsz
  have hD := hD0.self (sz := s.heap.size)
  obtain ⟨A, hAe⟩ : ∃ A, A = va_A (wX cI cS a na nc N L u0) s.heap.size := ⟨_, rfl⟩
  rw [← hAe] at hD
  have hA : ∀ q : Nat, s.heap.size ≤ q → A q := fun q h => by rw [hAe]; exact Or.inr h
  have hS : va_S A s.heap s.heap [] := va_S.rf
  have hl := lv_entry ([.ref (a 17), .int x0]) (n := 4) (Nat.le_of_ble_eq_true rfl)
  rw [lg_entry_eq]
  generalize (lg_sl ([.ref (a 17), .int x0]) ++ List.replicate (4 - (lg_sl ([.ref (a 17), .int x0])).length) Slot.unset).toArray = ls at hl ⊢
  have hl : lv_has ls 4 [(0, .ref (a 17)), (1, .int x0)] := hl
  obtain ⟨u, hu9⟩ : ∃ u : SU, u = u0 := ⟨_, rfl⟩
  rw [← hu9] at hP hD
  refine lv_aload_n hx hb dX4_allOf_0 rfl (lv_at hl 0 rfl) ?_
  refine va_get (D := D) (ci := 4) (v := .ref (a 7)) (C := RX4) (T := TX4) (N := 2) hx hb hts hin4 hown hK hP 17 rfl rfl 1 (by decide) (hts (.fieldLink RX4 15 "MissedPoints$Parting" "pairs" "LMissedPoints$Pairs;") (by decide +kernel)) (fun _ h9 => h9) rfl dX4_allOf_1 ?_
  refine wk_qi (wX cI cS a na nc N L) u (As := []) (rest := []) ⟨hx, hb, hml, hown, hts⟩ (k_X3_loosePoints l D cI cS _ a na nc N L u hL hN) hKK hP hD hS hA 7 (ci := 3) rfl rfl (cwV 0 hts gX4_allOf_X3_loosePoints rfl rfl rfl (by decide +kernel) ⟨Nat.le_of_ble_eq_true rfl, Nat.le_of_ble_eq_true rfl⟩) rfl hl.1 rfl (Nat.le_of_ble_eq_true rfl) dX4_allOf_4 ⟨Nat.le_of_ble_eq_true rfl, Nat.le_of_ble_eq_true rfl⟩ (fun r36530 u H locs hr36530 hP hD hS => ?_)
  refine lv_istore_n (lv' := [(2, .int r36530), (0, .ref (a 17)), (1, .int x0)]) hx hb dX4_allOf_7 rfl hl (by decide) rfl (fun ls hl => ?_)
  refine lv_aload_n hx hb dX4_allOf_8 rfl (lv_at hl 1 rfl) ?_
  refine va_get (D := D) (ci := 4) (v := .ref (a 1)) (C := RX4) (T := TX4) (N := 2) hx hb hts hin4 hown hK hP 17 rfl rfl 0 (by decide) (hts (.fieldLink RX4 9 "MissedPoints$Parting" "net" "LMissedPoints$Net;") (by decide +kernel)) (fun _ h9 => h9) rfl dX4_allOf_9 ?_
  refine lv_iload_n hx hb dX4_allOf_12 rfl (lv_at hl 0 rfl) ?_
  refine wk_sv 1 (As := [.int r36530]) (rest := []) ⟨hx, hb, hml, hown, hts⟩ (k_X2_nearAny l D cI cS a na nc N L u hL hN r36530) hKK hP (ci := 2) rfl rfl (cwV 1 hts gX4_allOf_X2_nearAny rfl rfl rfl (by decide +kernel) ⟨Nat.le_of_ble_eq_true rfl, Nat.le_of_ble_eq_true rfl⟩) rfl hl.1 rfl (Nat.le_of_ble_eq_true rfl) dX4_allOf_13 ⟨Nat.le_of_ble_eq_true rfl, Nat.le_of_ble_eq_true rfl⟩ (fun r36531 hr36531 => ?_)
  refine lv_iload_n hx hb dX4_allOf_16 rfl (lv_at hl 0 rfl) ?_
  refine lv_iconst (v := (-1)) hx hb dX4_allOf_17 (by decide) ?_
  refine lv_ixor hx hb dX4_allOf_18 ?_
  refine wk_topP (P := fun r => r = r36530 ^^^ ((-1) : Int32)) rfl (fun r36532 qr36532 => ?_)
  refine lv_iand hx hb dX4_allOf_19 ?_
  refine wk_topP (P := fun r => r = r36531 &&& r36532) rfl (fun r36533 qr36533 => ?_)
  refine lv_istore_n (lv' := [(3, .int r36533), (2, .int r36530), (0, .ref (a 17)), (1, .int x0)]) hx hb dX4_allOf_20 rfl hl (by decide) rfl (fun ls hl => ?_)
  refine lv_iload_n hx hb dX4_allOf_21 rfl (lv_at hl 3 rfl) ?_
  refine lv_if_ne (tgt := 27) hx hb dX4_allOf_22 (by decide) (fun c36534 => ?_) (fun c36534 => ?_)
  · refine lv_iload_n hx hb dX4_allOf_27 rfl (lv_at hl 3 rfl) ?_
    refine lv_iconst (v := 1) hx hb dX4_allOf_28 (by decide) ?_
    refine lv_icmp_ne (tgt := 36) hx hb dX4_allOf_29 (by decide) (fun c36535 => ?_) (fun c36535 => ?_)
    · refine lv_aload_n hx hb dX4_allOf_36 rfl (lv_at hl 2 rfl) ?_
      refine va_get (D := D) (ci := 4) (v := .ref (a 1)) (C := RX4) (T := TX4) (N := 2) hx hb hts hin4 hown hK hP 17 rfl rfl 0 (by decide) (hts (.fieldLink RX4 9 "MissedPoints$Parting" "net" "LMissedPoints$Net;") (by decide +kernel)) (fun _ h9 => h9) rfl dX4_allOf_37 ?_
      refine wk_sv 1 (As := []) (rest := []) ⟨hx, hb, hml, hown, hts⟩ (k_X2_all l D cI cS a na nc N L u hL hN) hKK hP (ci := 2) rfl rfl (cwV 0 hts gX4_allOf_X2_all rfl rfl rfl (by decide +kernel) ⟨Nat.le_of_ble_eq_true rfl, Nat.le_of_ble_eq_true rfl⟩) rfl hl.1 rfl (Nat.le_of_ble_eq_true rfl) dX4_allOf_40 ⟨Nat.le_of_ble_eq_true rfl, Nat.le_of_ble_eq_true rfl⟩ (fun r36536 hr36536 => ?_)
      refine lv_iload_n hx hb dX4_allOf_43 rfl (lv_at hl 1 rfl) ?_
      refine lv_iload_n hx hb dX4_allOf_44 rfl (lv_at hl 0 rfl) ?_
      refine lv_ior hx hb dX4_allOf_45 ?_
      refine wk_topP (P := fun r => r = r36530 ||| r36533) rfl (fun r36537 qr36537 => ?_)
      refine lv_iconst (v := (-1)) hx hb dX4_allOf_46 (by decide) ?_
      refine lv_ixor hx hb dX4_allOf_47 ?_
      refine wk_topP (P := fun r => r = r36537 ^^^ ((-1) : Int32)) rfl (fun r36538 qr36538 => ?_)
      refine wk_iandl hx hb dX4_allOf_48 hr36536.1 (by decide) (fun r36539 hr36539 qr36539 => ?_)
      subst hAe
      exact W.iret (v := r36539) hx hb hr (fun t ht hW => ⟨⟨_, u, rfl, ⟨(rg_any r36539), trivial⟩, by rw [ht]; exact hP, hD⟩, hS.F ht⟩) hS.2.2 dX4_allOf_49
    · have g36540 : Rg 1 1 x0 := wk_eql (rg_any x0) (by decide : Rg 1 1 (1 : Int32)) c36535 (by decide)
      refine lv_iload_n hx hb dX4_allOf_32 rfl (lv_at hl 0 rfl) ?_
      refine lv_goto (tgt := 49) hx hb dX4_allOf_33 (by decide) ?_
      subst hAe
      exact W.iret (v := r36533) hx hb hr (fun t ht hW => ⟨⟨_, u, rfl, ⟨(rg_any r36533), trivial⟩, by rw [ht]; exact hP, hD⟩, hS.F ht⟩) hS.2.2 dX4_allOf_49
  · have g36541 : Rg 0 0 x0 := wk_eql (rg_any x0) (by decide : Rg 0 0 (0 : Int32)) c36534 (by decide)
    refine lv_iload_n hx hb dX4_allOf_25 rfl (lv_at hl 1 rfl) ?_
    subst hAe
    exact W.iret (v := r36530) hx hb hr (fun t ht hW => ⟨⟨_, u, rfl, ⟨(rg_any r36530), trivial⟩, by rw [ht]; exact hP, hD⟩, hS.F ht⟩) hS.2.2 dX4_allOf_26
set_option maxRecDepth 20000 in
theorem ggX4_markOf_X2_near : GoodIn wsX4_markOf wsX2_near := goodIn_r _ [60, 61, 62, 63, 64, 12, 65, 14, 72, 73, 74] rfl (by decide +kernel)
set_option maxRecDepth 20000 in
theorem gX4_markOf_X2_near : GoodIn wsX4_markOf (wsV RX4 34 RX2 yX2_near wsX2_near) := goodIn_app (goodIn_of _ (by decide +kernel)) ggX4_markOf_X2_near
set_option maxRecDepth 20000 in
theorem ggX4_markOf_X3_loosePoints : GoodIn wsX4_markOf wsX3_loosePoints := goodIn_r _ [7, 8, 9, 10, 11, 12, 13, 14, 15, 16, 17, 6, 18, 19, 20, 21, 22, 23, 24, 25, 26, 27, 28, 29, 30, 31, 32, 33, 34, 35, 36, 37, 38, 39, 40, 41, 42, 43, 44, 45, 46, 47, 48, 49, 50, 51, 52, 53, 54, 55, 56, 68, 69, 70, 71, 72, 73, 74, 75, 76] rfl (by decide +kernel)
set_option maxRecDepth 20000 in
theorem gX4_markOf_X3_loosePoints : GoodIn wsX4_markOf (wsV RX4 19 RX3 yX3_loosePoints wsX3_loosePoints) := goodIn_app (goodIn_of _ (by decide +kernel)) ggX4_markOf_X3_loosePoints
theorem dX4_markOf_0 : decode cX4_markOf 0 = .ok (.aload_n 0, 1) := by decide +kernel
theorem dX4_markOf_1 : decode cX4_markOf 1 = .ok (.getfield 15, 3) := by decide +kernel
theorem dX4_markOf_10 : decode cX4_markOf 10 = .ok (.ishr, 1) := by decide +kernel
theorem dX4_markOf_11 : decode cX4_markOf 11 = .ok (.iconst 1, 1) := by decide +kernel
theorem dX4_markOf_12 : decode cX4_markOf 12 = .ok (.iand, 1) := by decide +kernel
theorem dX4_markOf_13 : decode cX4_markOf 13 = .ok (.ifCond .eq 5, 3) := by decide +kernel
theorem dX4_markOf_16 : decode cX4_markOf 16 = .ok (.iconst 0, 1) := by decide +kernel
theorem dX4_markOf_17 : decode cX4_markOf 17 = .ok (.ireturn, 1) := by decide +kernel
theorem dX4_markOf_18 : decode cX4_markOf 18 = .ok (.aload_n 0, 1) := by decide +kernel
theorem dX4_markOf_19 : decode cX4_markOf 19 = .ok (.getfield 9, 3) := by decide +kernel
theorem dX4_markOf_22 : decode cX4_markOf 22 = .ok (.iload_n 1, 1) := by decide +kernel
theorem dX4_markOf_23 : decode cX4_markOf 23 = .ok (.invokevirtual 34, 3) := by decide +kernel
theorem dX4_markOf_26 : decode cX4_markOf 26 = .ok (.iload_n 2, 1) := by decide +kernel
theorem dX4_markOf_27 : decode cX4_markOf 27 = .ok (.iand, 1) := by decide +kernel
theorem dX4_markOf_28 : decode cX4_markOf 28 = .ok (.ifCond .eq 7, 3) := by decide +kernel
theorem dX4_markOf_31 : decode cX4_markOf 31 = .ok (.iconst 1, 1) := by decide +kernel
theorem dX4_markOf_32 : decode cX4_markOf 32 = .ok (.goto 4, 3) := by decide +kernel
theorem dX4_markOf_35 : decode cX4_markOf 35 = .ok (.iconst 2, 1) := by decide +kernel
theorem dX4_markOf_36 : decode cX4_markOf 36 = .ok (.ireturn, 1) := by decide +kernel
theorem dX4_markOf_4 : decode cX4_markOf 4 = .ok (.invokevirtual 19, 3) := by decide +kernel
theorem dX4_markOf_7 : decode cX4_markOf 7 = .ok (.istore_n 2, 1) := by decide +kernel
theorem dX4_markOf_8 : decode cX4_markOf 8 = .ok (.iload_n 2, 1) := by decide +kernel
theorem dX4_markOf_9 : decode cX4_markOf 9 = .ok (.iload_n 1, 1) := by decide +kernel
set_option maxHeartbeats 4000000 in
set_option maxRecDepth 100000 in
theorem k_X4_markOf (l : Launch) (D : va_G) (cI cS : ClassId) (sz : Nat) (a : Nat → Nat) (na nc N : Nat) (L u0 : SU) (hL : TyX L) (hN : N = 0 ∨ N = 24576) (x0 : Int32) : Met l yX4_markOf wsX4_markOf ({ frames := 17, cells := 0, slots := 0, locals := 680 }) (PQ D cI cS (wX cI cS a na nc N L u0) sz [.ref (a 17), .int x0]) (QF (S := SU) D (wX cI cS a na nc N L u0) (wX cI cS a na nc N L) sz (fun r _ => Rg 0 2 r ∧ True)) 0 0 (va_A (wX cI cS a na nc N L u0) sz) := by
  refine Met.ofW (cc := cX4_markOf) (maxL := 3) (ret := (some .int)) (by decide) rfl ?_
  intro p e s m args below meth c s₁ B hml hv
  obtain ⟨rfl, hsz, hP, hKK, hD0⟩ := hv
  have hx := B.exec
  have hb := B.bytes
  have hr := B.returns
  have hts := atoms_spec (ws := wsX4_markOf) B.pre
  have hown : s.vm.findClass RX4 = some m.cls := findClass_of_methodNamed B.named
  have hlocks := B.notSynchronized
  have hK := hKK.1
  have hin4 : ∀ w ∈ wsX40, w ∈ wsX4_markOf := by decide +kernel
  subst hsz
  have hD := hD0.self (sz := s.heap.size)
  obtain ⟨A, hAe⟩ : ∃ A, A = va_A (wX cI cS a na nc N L u0) s.heap.size := ⟨_, rfl⟩
  rw [← hAe] at hD
  have hA : ∀ q : Nat, s.heap.size ≤ q → A q := fun q h => by rw [hAe]; exact Or.inr h
  have hS : va_S A s.heap s.heap [] := va_S.rf
  have hl := lv_entry ([.ref (a 17), .int x0]) (n := 3) (Nat.le_of_ble_eq_true rfl)
  rw [lg_entry_eq]
  generalize (lg_sl ([.ref (a 17), .int x0]) ++ List.replicate (3 - (lg_sl ([.ref (a 17), .int x0])).length) Slot.unset).toArray = ls at hl ⊢
  have hl : lv_has ls 3 [(0, .ref (a 17)), (1, .int x0)] := hl
  obtain ⟨u, hu9⟩ : ∃ u : SU, u = u0 := ⟨_, rfl⟩
  rw [← hu9] at hP hD
  refine lv_aload_n hx hb dX4_markOf_0 rfl (lv_at hl 0 rfl) ?_
  refine va_get (D := D) (ci := 4) (v := .ref (a 7)) (C := RX4) (T := TX4) (N := 2) hx hb hts hin4 hown hK hP 17 rfl rfl 1 (by decide) (hts (.fieldLink RX4 15 "MissedPoints$Parting" "pairs" "LMissedPoints$Pairs;") (by decide +kernel)) (fun _ h9 => h9) rfl dX4_markOf_1 ?_
  refine wk_qi (wX cI cS a na nc N L) u (As := []) (rest := []) ⟨hx, hb, hml, hown, hts⟩ (k_X3_loosePoints l D cI cS _ a na nc N L u hL hN) hKK hP hD hS hA 7 (ci := 3) rfl rfl (cwV 0 hts gX4_markOf_X3_loosePoints rfl rfl rfl (by decide +kernel) ⟨Nat.le_of_ble_eq_true rfl, Nat.le_of_ble_eq_true rfl⟩) rfl hl.1 rfl (Nat.le_of_ble_eq_true rfl) dX4_markOf_4 ⟨Nat.le_of_ble_eq_true rfl, Nat.le_of_ble_eq_true rfl⟩ (fun r36553 u H locs hr36553 hP hD hS => ?_)
  refine lv_istore_n (lv' := [(2, .int r36553), (0, .ref (a 17)), (1, .int x0)]) hx hb dX4_markOf_7 rfl hl (by decide) rfl (fun ls hl => ?_)
  refine lv_iload_n hx hb dX4_markOf_8 rfl (lv_at hl 0 rfl) ?_
  refine lv_iload_n hx hb dX4_markOf_9 rfl (lv_at hl 2 rfl) ?_
  refine lv_ishr hx hb dX4_markOf_10 ?_
  refine wk_topP (P := fun r => r = r36553 >>> (x0 &&& 31)) rfl (fun r36554 qr36554 => ?_)
  refine lv_iconst (v := 1) hx hb dX4_markOf_11 (by decide) ?_
  refine wk_iandr hx hb dX4_markOf_12 (by decide : Rg 1 1 (1 : Int32)) (by decide) (fun r36555 hr36555 qr36555 => ?_)
  refine lv_if_eq (tgt := 18) hx hb dX4_markOf_13 (by decide) (fun c36556 => ?_) (fun c36556 => ?_)
  · have g36557 : Rg 0 0 r36555 := wk_eql hr36555 (by decide : Rg 0 0 (0 : Int32)) c36556 (by decide)
    refine lv_aload_n hx hb dX4_markOf_18 rfl (lv_at hl 1 rfl) ?_
    refine va_get (D := D) (ci := 4) (v := .ref (a 1)) (C := RX4) (T := TX4) (N := 2) hx hb hts hin4 hown hK hP 17 rfl rfl 0 (by decide) (hts (.fieldLink RX4 9 "MissedPoints$Parting" "net" "LMissedPoints$Net;") (by decide +kernel)) (fun _ h9 => h9) rfl dX4_markOf_19 ?_
    refine lv_iload_n hx hb dX4_markOf_22 rfl (lv_at hl 2 rfl) ?_
    refine wk_sv 1 (As := [.int x0]) (rest := []) ⟨hx, hb, hml, hown, hts⟩ (k_X2_near l D cI cS a na nc N L u hL hN x0) hKK hP (ci := 2) rfl rfl (cwV 1 hts gX4_markOf_X2_near rfl rfl rfl (by decide +kernel) ⟨Nat.le_of_ble_eq_true rfl, Nat.le_of_ble_eq_true rfl⟩) rfl hl.1 rfl (Nat.le_of_ble_eq_true rfl) dX4_markOf_23 ⟨Nat.le_of_ble_eq_true rfl, Nat.le_of_ble_eq_true rfl⟩ (fun r36558 hr36558 => ?_)
    refine lv_iload_n hx hb dX4_markOf_26 rfl (lv_at hl 0 rfl) ?_
    refine wk_iandr hx hb dX4_markOf_27 hr36553.1 (by decide) (fun r36559 hr36559 qr36559 => ?_)
    refine lv_if_eq (tgt := 35) hx hb dX4_markOf_28 (by decide) (fun c36560 => ?_) (fun c36560 => ?_)
    · have g36561 : Rg 0 0 r36559 := wk_eql hr36559 (by decide : Rg 0 0 (0 : Int32)) c36560 (by decide)
      refine lv_iconst (v := 2) hx hb dX4_markOf_35 (by decide) ?_
      subst hAe
      exact W.iret (v := 2) hx hb hr (fun t ht hW => ⟨⟨_, u, rfl, ⟨(by decide : Rg 0 2 (2 : Int32)), trivial⟩, by rw [ht]; exact hP, hD⟩, hS.F ht⟩) hS.2.2 dX4_markOf_36
    · have g36562 : Rg 1 4095 r36559 := rg_ne_lo (k := 0) hr36559 (by decide) c36560 (by decide)
      refine lv_iconst (v := 1) hx hb dX4_markOf_31 (by decide) ?_
      refine lv_goto (tgt := 36) hx hb dX4_markOf_32 (by decide) ?_
      subst hAe
      exact W.iret (v := 1) hx hb hr (fun t ht hW => ⟨⟨_, u, rfl, ⟨(by decide : Rg 0 2 (1 : Int32)), trivial⟩, by rw [ht]; exact hP, hD⟩, hS.F ht⟩) hS.2.2 dX4_markOf_36
  · have g36563 : Rg 1 1 r36555 := rg_ne_lo (k := 0) hr36555 (by decide) c36556 (by decide)
    refine lv_iconst (v := 0) hx hb dX4_markOf_16 (by decide) ?_
    subst hAe
    exact W.iret (v := 0) hx hb hr (fun t ht hW => ⟨⟨_, u, rfl, ⟨(by decide : Rg 0 2 (0 : Int32)), trivial⟩, by rw [ht]; exact hP, hD⟩, hS.F ht⟩) hS.2.2 dX4_markOf_17
set_option maxRecDepth 20000 in
theorem ggX4_surplusOf_X2_firstPiece : GoodIn wsX4_surplusOf wsX2_firstPiece := goodIn_r _ [65, 66, 67, 44, 68, 69, 70, 71, 46] rfl (by decide +kernel)
set_option maxRecDepth 20000 in
theorem gX4_surplusOf_X2_firstPiece : GoodIn wsX4_surplusOf (va_wsS RX4 46 yX2_firstPiece wsX2_firstPiece) := goodIn_app (goodIn_of _ (by decide +kernel)) ggX4_surplusOf_X2_firstPiece
theorem dX4_surplusOf_38 : decode cX4_surplusOf 38 = .ok (.aload_n 0, 1) := by decide +kernel
theorem dX4_surplusOf_39 : decode cX4_surplusOf 39 = .ok (.getfield 9, 3) := by decide +kernel
theorem dX4_surplusOf_42 : decode cX4_surplusOf 42 = .ok (.getfield 42, 3) := by decide +kernel
theorem dX4_surplusOf_45 : decode cX4_surplusOf 45 = .ok (.iload_n 3, 1) := by decide +kernel
theorem dX4_surplusOf_46 : decode cX4_surplusOf 46 = .ok (.invokestatic 46, 3) := by decide +kernel
theorem dX4_surplusOf_49 : decode cX4_surplusOf 49 = .ok (.istore 6, 2) := by decide +kernel
theorem dX4_surplusOf_51 : decode cX4_surplusOf 51 = .ok (.iload_n 3, 1) := by decide +kernel
theorem dX4_surplusOf_52 : decode cX4_surplusOf 52 = .ok (.iload 6, 2) := by decide +kernel
theorem dX4_surplusOf_54 : decode cX4_surplusOf 54 = .ok (.iconst (-1), 1) := by decide +kernel
theorem dX4_surplusOf_55 : decode cX4_surplusOf 55 = .ok (.ixor, 1) := by decide +kernel
theorem dX4_surplusOf_56 : decode cX4_surplusOf 56 = .ok (.iand, 1) := by decide +kernel
theorem dX4_surplusOf_57 : decode cX4_surplusOf 57 = .ok (.istore_n 3, 1) := by decide +kernel
theorem dX4_surplusOf_58 : decode cX4_surplusOf 58 = .ok (.iload 6, 2) := by decide +kernel
theorem dX4_surplusOf_60 : decode cX4_surplusOf 60 = .ok (.iload_n 2, 1) := by decide +kernel
theorem dX4_surplusOf_61 : decode cX4_surplusOf 61 = .ok (.iand, 1) := by decide +kernel
theorem dX4_surplusOf_62 : decode cX4_surplusOf 62 = .ok (.ifCond .eq 6, 3) := by decide +kernel
theorem dX4_surplusOf_65 : decode cX4_surplusOf 65 = .ok (.iinc 4 1, 3) := by decide +kernel
theorem dX4_surplusOf_68 : decode cX4_surplusOf 68 = .ok (.iinc 5 1, 3) := by decide +kernel
theorem dX4_surplusOf_71 : decode cX4_surplusOf 71 = .ok (.goto (-44), 3) := by decide +kernel
set_option maxHeartbeats 4000000 in
set_option maxRecDepth 100000 in
theorem k_X4_surplusOf (l : Launch) (D : va_G) (cI cS : ClassId) (sz : Nat) (a : Nat → Nat) (na nc N : Nat) (L u0 : SU) (hL : TyX L) (hN : N = 0 ∨ N = 24576) (x0 : Int32) : Met l yX4_surplusOf wsX4_surplusOf ({ frames := 17, cells := 0, slots := 0, locals := 680 }) (PQ D cI cS (wX cI cS a na nc N L u0) sz [.ref (a 17), .int x0]) (QF (S := SU) D (wX cI cS a na nc N L u0) (wX cI cS a na nc N L) sz (fun r _ => Rg (-2147483648) 2147483647 r ∧ True)) 0 0 (va_A (wX cI cS a na nc N L u0) sz) := by
  refine Met.ofW (cc := cX4_surplusOf) (maxL := 7) (ret := (some .int)) (by decide) rfl ?_
  intro p e s m args below meth c s₁ B hml hv
  obtain ⟨rfl, hsz, hP, hKK, hD0⟩ := hv
  have hx := B.exec
  have hb := B.bytes
  have hr := B.returns
  have hts := atoms_spec (ws := wsX4_surplusOf) B.pre
  have hown : s.vm.findClass RX4 = some m.cls := findClass_of_methodNamed B.named
  have hlocks := B.notSynchronized
  have hK := hKK.1
  have hin2 : ∀ w ∈ wsX20, w ∈ wsX4_surplusOf := by decide +kernel
  have hin4 : ∀ w ∈ wsX40, w ∈ wsX4_surplusOf := by decide +kernel
  subst hsz
  have hD := hD0.self (sz := s.heap.size)
  obtain ⟨A, hAe⟩ : ∃ A, A = va_A (wX cI cS a na nc N L u0) s.heap.size := ⟨_, rfl⟩
  rw [← hAe] at hD
  have hA : ∀ q : Nat, s.heap.size ≤ q → A q := fun q h => by rw [hAe]; exact Or.inr h
  have hS : va_S A s.heap s.heap [] := va_S.rf
  have hl := lv_entry ([.ref (a 17), .int x0]) (n := 7) (Nat.le_of_ble_eq_true rfl)
  rw [lg_entry_eq]
  generalize (lg_sl ([.ref (a 17), .int x0]) ++ List.replicate (7 - (lg_sl ([.ref (a 17), .int x0])).length) Slot.unset).toArray = ls at hl ⊢
  have hl : lv_has ls 7 [(0, .ref (a 17)), (1, .int x0)] := hl
  obtain ⟨u, hu9⟩ : ∃ u : SU, u = u0 := ⟨_, rfl⟩
  rw [← hu9] at hP hD
  have lp27 : ∀ (n27 : Nat) (y27_l2 : Int32) (y27_l3 : Int32) (y27_l4 : Int32) (y27_l5 : Int32) (u : SU) (H : Heap) (locs : List Loc) (ls : Array Slot), Rg 0 4095 y27_l3 → Rg 0 12 y27_l5 → va_P D cls (wX cI cS a na nc N L u) H → va_D A (wX cI cS a na nc N L u) → va_S A s.heap H locs → lv_has ls 7 [(0, .ref (a 17)), (2, .int y27_l2), (3, .int y27_l3), (4, .int y27_l4), (5, .int y27_l5)] → 12 - y27_l5.toInt < (n27 : Int) → W p l e (headSpec wsX4_surplusOf ({ frames := 17, cells := 0, slots := 0, locals := 680 })).room s m ([.ref (a 17), .int x0]).toArray below meth c H locs 0 0 (MQ below (QF (S := SU) D (wX cI cS a na nc N L u0) (wX cI cS a na nc N L) s.heap.size (fun r _ => Rg (-2147483648) 2147483647 r ∧ True)) ([.ref (a 17), .int x0]).toArray s 0 0 (va_A (wX cI cS a na nc N L u0) s.heap.size)) (F0 m 27 ls []) := by
    intro n27
    induction n27 with
    | zero =>
      intro y27_l2 y27_l3 y27_l4 y27_l5 u H locs ls g27_l3 g27_l5 hP hD hS hl hm27
      exact absurd rfl (me_z g27_l5 hm27)
    | succ n27 ih27 =>
      intro y27_l2 y27_l3 y27_l4 y27_l5 u H locs ls g27_l3 g27_l5 hP hD hS hl hm27
      refine lv_iload hx hb dX4_surplusOf_27 (lv_at hl 4 rfl) ?_
      refine lv_bipush (v := 12) hx hb dX4_surplusOf_29 (by decide) ?_
      refine lv_icmp_ge (tgt := 74) hx hb dX4_surplusOf_31 (by decide) (fun c36717 => ?_) (fun c36717 => ?_)
      · have g36718 : Rg 12 12 y27_l5 := rg_ler (by decide : Rg 12 12 (12 : Int32)) g27_l5 c36717 (by decide)
        refine lv_iload hx hb dX4_surplusOf_74 (lv_at hl 3 rfl) ?_
        subst hAe
        exact W.iret (v := y27_l4) hx hb hr (fun t ht hW => ⟨⟨_, u, rfl, ⟨(rg_any y27_l4), trivial⟩, by rw [ht]; exact hP, hD⟩, hS.F ht⟩) hS.2.2 dX4_surplusOf_76
      · have g36719 : Rg 0 11 y27_l5 := rg_ltl g27_l5 (by decide : Rg 12 12 (12 : Int32)) (rg_nle c36717) (by decide)
        refine lv_iload_n hx hb dX4_surplusOf_34 rfl (lv_at hl 2 rfl) ?_
        refine lv_if_eq (tgt := 74) hx hb dX4_surplusOf_35 (by decide) (fun c36720 => ?_) (fun c36720 => ?_)
        · have g36721 : Rg 0 0 y27_l3 := wk_eql g27_l3 (by decide : Rg 0 0 (0 : Int32)) c36720 (by decide)
          refine lv_iload hx hb dX4_surplusOf_74 (lv_at hl 3 rfl) ?_
          subst hAe
          exact W.iret (v := y27_l4) hx hb hr (fun t ht hW => ⟨⟨_, u, rfl, ⟨(rg_any y27_l4), trivial⟩, by rw [ht]; exact hP, hD⟩, hS.F ht⟩) hS.2.2 dX4_surplusOf_76
        · have g36722 : Rg 1 4095 y27_l3 := rg_ne_lo (k := 0) g27_l3 (by decide) c36720 (by decide)
          refine lv_aload_n hx hb dX4_surplusOf_38 rfl (lv_at hl 0 rfl) ?_
          refine va_get (D := D) (ci := 4) (v := .ref (a 1)) (C := RX4) (T := TX4) (N := 2) hx hb hts hin4 hown hK hP 17 rfl rfl 0 (by decide) (hts (.fieldLink RX4 9 "MissedPoints$Parting" "net" "LMissedPoints$Net;") (by decide +kernel)) (fun _ h9 => h9) rfl dX4_surplusOf_39 ?_
          refine va_getN (D := D) (ci := 2) (v := .ref (a 2)) (C := RX2) (T := TX2) (N := 3) hx hb hts hin2 hown hK hP 1 rfl rfl 0 (by decide) (va_Nw.use rfl hKK.2.2.2.2.2.2.2.2.2.2.2.2.2.2.1) (fun _ h9 => h9) rfl dX4_surplusOf_42 ?_
          refine lv_iload_n hx hb dX4_surplusOf_45 rfl (lv_at hl 2 rfl) ?_
          refine lz_ss (As := [.ref (a 2), .int y27_l3]) (rest := []) ⟨hx, hb, hml, hown, hts⟩ (k_X2_firstPiece l D cI cS a na nc N L u hL hN y27_l3) hKK hP (va_cwS 2 hts gX4_surplusOf_X2_firstPiece rfl rfl rfl (by decide +kernel) ⟨Nat.le_of_ble_eq_true rfl, Nat.le_of_ble_eq_true rfl⟩) rfl hl.1 rfl (Nat.le_of_ble_eq_true rfl) dX4_surplusOf_46 ⟨Nat.le_of_ble_eq_true rfl, Nat.le_of_ble_eq_true rfl⟩ (fun r36723 hr36723 => ?_)
          refine lv_istore (lv' := [(6, .int r36723), (0, .ref (a 17)), (2, .int y27_l2), (3, .int y27_l3), (4, .int y27_l4), (5, .int y27_l5)]) hx hb dX4_surplusOf_49 hl (by decide) rfl (fun ls hl => ?_)
          refine lv_iload_n hx hb dX4_surplusOf_51 rfl (lv_at hl 3 rfl) ?_
          refine lv_iload hx hb dX4_surplusOf_52 (lv_at hl 0 rfl) ?_
          refine lv_iconst (v := (-1)) hx hb dX4_surplusOf_54 (by decide) ?_
          refine lv_ixor hx hb dX4_surplusOf_55 ?_
          refine wk_topP (P := fun r => r = r36723 ^^^ ((-1) : Int32)) rfl (fun r36724 qr36724 => ?_)
          refine wk_iandl hx hb dX4_surplusOf_56 g36722 (by decide) (fun r36725 hr36725 qr36725 => ?_)
          refine lv_istore_n (lv' := [(3, .int r36725), (6, .int r36723), (0, .ref (a 17)), (2, .int y27_l2), (4, .int y27_l4), (5, .int y27_l5)]) hx hb dX4_surplusOf_57 rfl hl (by decide) rfl (fun ls hl => ?_)
          refine lv_iload hx hb dX4_surplusOf_58 (lv_at hl 1 rfl) ?_
          refine lv_iload_n hx hb dX4_surplusOf_60 rfl (lv_at hl 3 rfl) ?_
          refine lv_iand hx hb dX4_surplusOf_61 ?_
          refine wk_topP (P := fun r => r = r36723 &&& y27_l2) rfl (fun r36726 qr36726 => ?_)
          refine lv_if_eq (tgt := 68) hx hb dX4_surplusOf_62 (by decide) (fun c36727 => ?_) (fun c36727 => ?_)
          · have g36728 : Rg 0 0 r36726 := wk_eql (rg_any r36726) (by decide : Rg 0 0 (0 : Int32)) c36727 (by decide)
            refine wk_iinc (lv' := fun r => [(5, .int r), (3, .int r36725), (6, .int r36723), (0, .ref (a 17)), (2, .int y27_l2), (4, .int y27_l4)]) (e1 := 1) (f := 12) hx hb dX4_surplusOf_68 hl (k := 5) rfl (by decide) g36719 (by decide) (fun _ => rfl) (fun r36729 ls hr36729 er36729 hl => ?_)
            refine lv_goto (tgt := 27) hx hb dX4_surplusOf_71 (by decide) ?_
            exact ih27 y27_l2 r36725 y27_l4 r36729 u _ _ ls hr36725 (show Rg 0 12 r36729 from rg_w hr36729 (by decide) (by decide)) hP hD hS (lv_sub (l' := [(0, .ref (a 17)), (2, .int y27_l2), (3, .int r36725), (4, .int y27_l4), (5, .int r36729)]) hl [3, 4, 1, 5, 0] rfl) (me_up hm27 er36729 (by decide))
          · refine wk_iincA (lv' := fun r => [(4, .int r), (3, .int r36725), (6, .int r36723), (0, .ref (a 17)), (2, .int y27_l2), (5, .int y27_l5)]) hx hb dX4_surplusOf_65 hl (k := 4) rfl (by decide) (fun _ => rfl) (fun r36730 ls hl => ?_)
            refine wk_iinc (lv' := fun r => [(5, .int r), (4, .int r36730), (3, .int r36725), (6, .int r36723), (0, .ref (a 17)), (2, .int y27_l2)]) (e1 := 1) (f := 12) hx hb dX4_surplusOf_68 hl (k := 5) rfl (by decide) g36719 (by decide) (fun _ => rfl) (fun r36731 ls hr36731 er36731 hl => ?_)
            refine lv_goto (tgt := 27) hx hb dX4_surplusOf_71 (by decide) ?_
            exact ih27 y27_l2 r36725 r36730 r36731 u _ _ ls hr36725 (show Rg 0 12 r36731 from rg_w hr36731 (by decide) (by decide)) hP hD hS (lv_sub (l' := [(0, .ref (a 17)), (2, .int y27_l2), (3, .int r36725), (4, .int r36730), (5, .int r36731)]) hl [4, 5, 2, 1, 0] rfl) (me_up hm27 er36731 (by decide))
  refine lv_aload_n hx hb dX4_surplusOf_0 rfl (lv_at hl 0 rfl) ?_
  refine va_get (D := D) (ci := 4) (v := .ref (a 1)) (C := RX4) (T := TX4) (N := 2) hx hb hts hin4 hown hK hP 17 rfl rfl 0 (by decide) (hts (.fieldLink RX4 9 "MissedPoints$Parting" "net" "LMissedPoints$Net;") (by decide +kernel)) (fun _ h9 => h9) rfl dX4_surplusOf_1 ?_
  refine lv_iload_n hx hb dX4_surplusOf_4 rfl (lv_at hl 1 rfl) ?_
  refine wk_sv 1 (As := [.int x0]) (rest := []) ⟨hx, hb, hml, hown, hts⟩ (k_X2_nearAny l D cI cS a na nc N L u hL hN x0) hKK hP (ci := 2) rfl rfl (cwV 1 hts gX4_surplusOf_X2_nearAny rfl rfl rfl (by decide +kernel) ⟨Nat.le_of_ble_eq_true rfl, Nat.le_of_ble_eq_true rfl⟩) rfl hl.1 rfl (Nat.le_of_ble_eq_true rfl) dX4_surplusOf_5 ⟨Nat.le_of_ble_eq_true rfl, Nat.le_of_ble_eq_true rfl⟩ (fun r36732 hr36732 => ?_)
  refine lv_istore_n (lv' := [(2, .int r36732), (0, .ref (a 17)), (1, .int x0)]) hx hb dX4_surplusOf_8 rfl hl (by decide) rfl (fun ls hl => ?_)
  refine lv_aload_n hx hb dX4_surplusOf_9 rfl (lv_at hl 1 rfl) ?_
  refine va_get (D := D) (ci := 4) (v := .ref (a 7)) (C := RX4) (T := TX4) (N := 2) hx hb hts hin4 hown hK hP 17 rfl rfl 1 (by decide) (hts (.fieldLink RX4 15 "MissedPoints$Parting" "pairs" "LMissedPoints$Pairs;") (by decide +kernel)) (fun _ h9 => h9) rfl dX4_surplusOf_10 ?_
  refine wk_qi (wX cI cS a na nc N L) u (As := []) (rest := []) ⟨hx, hb, hml, hown, hts⟩ (k_X3_loosePoints l D cI cS _ a na nc N L u hL hN) hKK hP hD hS hA 7 (ci := 3) rfl rfl (cwV 0 hts gX4_surplusOf_X3_loosePoints rfl rfl rfl (by decide +kernel) ⟨Nat.le_of_ble_eq_true rfl, Nat.le_of_ble_eq_true rfl⟩) rfl hl.1 rfl (Nat.le_of_ble_eq_true rfl) dX4_surplusOf_13 ⟨Nat.le_of_ble_eq_true rfl, Nat.le_of_ble_eq_true rfl⟩ (fun r36733 u H locs hr36733 hP hD hS => ?_)
  refine lv_istore_n (lv' := [(3, .int r36733), (2, .int r36732), (0, .ref (a 17)), (1, .int x0)]) hx hb dX4_surplusOf_16 rfl hl (by decide) rfl (fun ls hl => ?_)
  refine lv_iload_n hx hb dX4_surplusOf_17 rfl (lv_at hl 3 rfl) ?_
  refine lz_ss (As := [.int x0]) (rest := []) ⟨hx, hb, hml, hown, hts⟩ (k_J6_bitCount_0f7a4 l D cI cS x0) hKK (hP.sub (ws' := []) [] rfl) (va_cwS 1 hts gX4_surplusOf_J6_bitCount_0f7a4 rfl rfl rfl (by decide +kernel) ⟨Nat.le_of_ble_eq_true rfl, Nat.le_of_ble_eq_true rfl⟩) rfl hl.1 rfl (Nat.le_of_ble_eq_true rfl) dX4_surplusOf_18 ⟨Nat.le_of_ble_eq_true rfl, Nat.le_of_ble_eq_true rfl⟩ (fun r36734 hr36734 => ?_)
  refine lv_ineg hx hb dX4_surplusOf_21 ?_
  refine wk_topP (P := fun r => r = -r36734) rfl (fun r36735 qr36735 => ?_)
  refine lv_istore (lv' := [(4, .int r36735), (3, .int r36733), (2, .int r36732), (0, .ref (a 17)), (1, .int x0)]) hx hb dX4_surplusOf_22 hl (by decide) rfl (fun ls hl => ?_)
  refine lv_iconst (v := 0) hx hb dX4_surplusOf_24 (by decide) ?_
  refine lv_istore (lv' := [(5, .int 0), (4, .int r36735), (3, .int r36733), (2, .int r36732), (0, .ref (a 17)), (1, .int x0)]) hx hb dX4_surplusOf_25 hl (by decide) rfl (fun ls hl => ?_)
  exact lp27 13 r36732 r36733 r36735 (0 : Int32) u _ _ ls hr36733.1 (by decide : Rg 0 12 (0 : Int32)) hP hD hS (lv_sub (l' := [(0, .ref (a 17)), (2, .int r36732), (3, .int r36733), (4, .int r36735), (5, .int 0)]) hl [4, 3, 2, 1, 0] rfl) (me_i (by decide : Rg 0 12 (0 : Int32)) (by decide))
set_option maxHeartbeats 4000000 in
set_option maxRecDepth 100000 in
theorem k_X10_oddWithout (l : Launch) (D : va_G) (cI cS : ClassId) (a : Nat → Nat) (na nc N : Nat) (L u : SU) (hL : TyX L) (hN : N = 0 ∨ N = 24576) (x0 : Int32) : Met l yX10_oddWithout wsX10_oddWithout ({ frames := 3, cells := 0, slots := 0, locals := 120 }) (PS D cI cS (wX cI cS a na nc N L u) [.ref (a 18), .int x0]) (vp_Si (fun r => Rg (-2147483648) 2147483647 r ∧ True)) 0 0 (fun _ => False) := by
  refine Met.ofW (cc := cX10_oddWithout) (maxL := 2) (ret := (some .int)) (by decide) rfl ?_
  intro p e s m args below meth c s₁ B hml hv
  obtain ⟨rfl, hP, hKK⟩ := hv
  have hx := B.exec
  have hb := B.bytes
  have hr := B.returns
  have hts := atoms_spec (ws := wsX10_oddWithout) B.pre
  have hown : s.vm.findClass RX10 = some m.cls := findClass_of_methodNamed B.named
  have hlocks := B.notSynchronized
  have hK := hKK.1
  have hin10 : ∀ w ∈ wsX100, w ∈ wsX10_oddWithout := by decide +kernel
  have hl := lv_entry ([.ref (a 18), .int x0]) (n := 2) (Nat.le_of_ble_eq_true rfl)
  rw [lg_entry_eq]
  generalize (lg_sl ([.ref (a 18), .int x0]) ++ List.replicate (2 - (lg_sl ([.ref (a 18), .int x0])).length) Slot.unset).toArray = ls at hl ⊢
  have hl : lv_has ls 2 [(0, .ref (a 18)), (1, .int x0)] := hl
  refine lv_aload_n hx hb dX10_oddWithout_0 rfl (lv_at hl 0 rfl) ?_
  refine va_get (D := D) (ci := 10) (v := .ref (a 1)) (C := RX10) (T := TX10) (N := 8) hx hb hts hin10 hown hK hP 18 rfl rfl 0 (by decide) (hts (.fieldLink RX10 19 "MissedPoints$Witness" "net" "LMissedPoints$Net;") (by decide +kernel)) (fun _ h9 => h9) rfl dX10_oddWithout_1 ?_
  refine lv_aload_n hx hb dX10_oddWithout_4 rfl (lv_at hl 0 rfl) ?_
  refine va_get (D := D) (ci := 10) (v := .ref (a 1)) (C := RX10) (T := TX10) (N := 8) hx hb hts hin10 hown hK hP 18 rfl rfl 0 (by decide) (hts (.fieldLink RX10 19 "MissedPoints$Witness" "net" "LMissedPoints$Net;") (by decide +kernel)) (fun _ h9 => h9) rfl dX10_oddWithout_5 ?_
  refine wk_sv 1 (As := []) (rest := [.ref (a 1)]) ⟨hx, hb, hml, hown, hts⟩ (k_X2_all l D cI cS a na nc N L u hL hN) hKK hP (ci := 2) rfl rfl (cwV 0 hts gX10_oddWithout_X2_all rfl rfl rfl (by decide +kernel) ⟨Nat.le_of_ble_eq_true rfl, Nat.le_of_ble_eq_true rfl⟩) rfl hl.1 rfl (Nat.le_of_ble_eq_true rfl) dX10_oddWithout_8 ⟨Nat.le_of_ble_eq_true rfl, Nat.le_of_ble_eq_true rfl⟩ (fun r36740 hr36740 => ?_)
  refine lv_iload_n hx hb dX10_oddWithout_11 rfl (lv_at hl 1 rfl) ?_
  refine lv_iconst (v := (-1)) hx hb dX10_oddWithout_12 (by decide) ?_
  refine lv_ixor hx hb dX10_oddWithout_13 ?_
  refine wk_topP (P := fun r => r = x0 ^^^ ((-1) : Int32)) rfl (fun r36741 qr36741 => ?_)
  refine wk_iandl hx hb dX10_oddWithout_14 hr36740.1 (by decide) (fun r36742 hr36742 qr36742 => ?_)
  refine wk_sv 1 (As := [.int r36742]) (rest := []) ⟨hx, hb, hml, hown, hts⟩ (k_X2_oddPieceCount l D cI cS a na nc N L u hL hN r36742) hKK hP (ci := 2) rfl rfl (cwV 1 hts gX10_oddWithout_X2_oddPieceCount rfl rfl rfl (by decide +kernel) ⟨Nat.le_of_ble_eq_true rfl, Nat.le_of_ble_eq_true rfl⟩) rfl hl.1 rfl (Nat.le_of_ble_eq_true rfl) dX10_oddWithout_15 ⟨Nat.le_of_ble_eq_true rfl, Nat.le_of_ble_eq_true rfl⟩ (fun r36743 hr36743 => ?_)
  exact W.iret (v := r36743) hx hb hr (fun t ht hW => ⟨_, rfl, ⟨hr36743.1, trivial⟩, ht⟩) (fun q hq => absurd hq List.not_mem_nil) dX10_oddWithout_18
theorem dX10_isBarrier_31 : decode cX10_isBarrier 31 = .ok (.iconst 0, 1) := by decide +kernel
set_option maxHeartbeats 4000000 in
set_option maxRecDepth 100000 in
theorem k_X10_isBarrier (l : Launch) (D : va_G) (cI cS : ClassId) (sz : Nat) (a : Nat → Nat) (na nc N : Nat) (L u0 : SU) (hL : TyX L) (hN : N = 0 ∨ N = 24576) (x0 : Int32) : Met l yX10_isBarrier wsX10_isBarrier ({ frames := 17, cells := 0, slots := 0, locals := 680 }) (PQ D cI cS (wX cI cS a na nc N L u0) sz [.ref (a 18), .int x0]) (QF (S := SU) D (wX cI cS a na nc N L u0) (wX cI cS a na nc N L) sz (fun r _ => Rg 0 1 r ∧ True)) 0 0 (va_A (wX cI cS a na nc N L u0) sz) := by
  refine Met.ofW (cc := cX10_isBarrier) (maxL := 2) (ret := (some .boolean)) (by decide) rfl ?_
  intro p e s m args below meth c s₁ B hml hv
  obtain ⟨rfl, hsz, hP, hKK, hD0⟩ := hv
  have hx := B.exec
  have hb := B.bytes
  have hr := B.returns
  have hts := atoms_spec (ws := wsX10_isBarrier) B.pre
  have hown : s.vm.findClass RX10 = some m.cls := findClass_of_methodNamed B.named
  have hlocks := B.notSynchronized
  have hK := hKK.1
  have hin10 : ∀ w ∈ wsX100, w ∈ wsX10_isBarrier := by decide +kernel
  subst hsz
  have hD := hD0.self (sz := s.heap.size)
  obtain ⟨A, hAe⟩ : ∃ A, A = va_A (wX cI cS a na nc N L u0) s.heap.size := ⟨_, rfl⟩
  rw [← hAe] at hD
  have hA : ∀ q : Nat, s.heap.size ≤ q → A q := fun q h => by rw [hAe]; exact Or.inr h
  have hS : va_S A s.heap s.heap [] := va_S.rf
  have hl := lv_entry ([.ref (a 18), .int x0]) (n := 2) (Nat.le_of_ble_eq_true rfl)
  rw [lg_entry_eq]
  generalize (lg_sl ([.ref (a 18), .int x0]) ++ List.replicate (2 - (lg_sl ([.ref (a 18), .int x0])).length) Slot.unset).toArray = ls at hl ⊢
  have hl : lv_has ls 2 [(0, .ref (a 18)), (1, .int x0)] := hl
  obtain ⟨u, hu9⟩ : ∃ u : SU, u = u0 := ⟨_, rfl⟩
  rw [← hu9] at hP hD
  refine lv_aload_n hx hb dX10_isBarrier_0 rfl (lv_at hl 0 rfl) ?_
  refine lv_iload_n hx hb dX10_isBarrier_1 rfl (lv_at hl 1 rfl) ?_
  refine wk_sv 18 (As := [.int x0]) (rest := []) ⟨hx, hb, hml, hown, hts⟩ (k_X10_oddWithout l D cI cS a na nc N L u hL hN x0) hKK hP (ci := 10) rfl rfl (cwV 1 hts gX10_isBarrier_X10_oddWithout rfl rfl rfl (by decide +kernel) ⟨Nat.le_of_ble_eq_true rfl, Nat.le_of_ble_eq_true rfl⟩) rfl hl.1 rfl (Nat.le_of_ble_eq_true rfl) dX10_isBarrier_2 ⟨Nat.le_of_ble_eq_true rfl, Nat.le_of_ble_eq_true rfl⟩ (fun r36750 hr36750 => ?_)
  refine lv_iload_n hx hb dX10_isBarrier_5 rfl (lv_at hl 1 rfl) ?_
  refine lz_ss (As := [.int x0]) (rest := [.int r36750]) ⟨hx, hb, hml, hown, hts⟩ (k_J6_bitCount_0f7a4 l D cI cS x0) hKK (hP.sub (ws' := []) [] rfl) (va_cwS 1 hts gX10_isBarrier_J6_bitCount_0f7a4 rfl rfl rfl (by decide +kernel) ⟨Nat.le_of_ble_eq_true rfl, Nat.le_of_ble_eq_true rfl⟩) rfl hl.1 rfl (Nat.le_of_ble_eq_true rfl) dX10_isBarrier_6 ⟨Nat.le_of_ble_eq_true rfl, Nat.le_of_ble_eq_true rfl⟩ (fun r36751 hr36751 => ?_)
  refine lv_isub hx hb dX10_isBarrier_9 ?_
  refine wk_topP (P := fun r => r = r36750 - r36751) rfl (fun r36752 qr36752 => ?_)
  refine lv_aload_n hx hb dX10_isBarrier_10 rfl (lv_at hl 0 rfl) ?_
  refine va_get (D := D) (ci := 10) (v := .ref (a 7)) (C := RX10) (T := TX10) (N := 8) hx hb hts hin10 hown hK hP 18 rfl rfl 1 (by decide) (hts (.fieldLink RX10 23 "MissedPoints$Witness" "pairs" "LMissedPoints$Pairs;") (by decide +kernel)) (fun _ h9 => h9) rfl dX10_isBarrier_11 ?_
  refine lv_aload_n hx hb dX10_isBarrier_14 rfl (lv_at hl 0 rfl) ?_
  refine va_get (D := D) (ci := 10) (v := .ref (a 1)) (C := RX10) (T := TX10) (N := 8) hx hb hts hin10 hown hK hP 18 rfl rfl 0 (by decide) (hts (.fieldLink RX10 19 "MissedPoints$Witness" "net" "LMissedPoints$Net;") (by decide +kernel)) (fun _ h9 => h9) rfl dX10_isBarrier_15 ?_
  refine wk_sv 1 (As := []) (rest := [.ref (a 7), .int r36752]) ⟨hx, hb, hml, hown, hts⟩ (k_X2_all l D cI cS a na nc N L u hL hN) hKK hP (ci := 2) rfl rfl (cwV 0 hts gX10_isBarrier_X2_all rfl rfl rfl (by decide +kernel) ⟨Nat.le_of_ble_eq_true rfl, Nat.le_of_ble_eq_true rfl⟩) rfl hl.1 rfl (Nat.le_of_ble_eq_true rfl) dX10_isBarrier_18 ⟨Nat.le_of_ble_eq_true rfl, Nat.le_of_ble_eq_true rfl⟩ (fun r36753 hr36753 => ?_)
  refine wk_qi (wX cI cS a na nc N L) u (As := [.int r36753]) (rest := [.int r36752]) ⟨hx, hb, hml, hown, hts⟩ (k_X3_lack l D cI cS _ a na nc N L u hL hN r36753) hKK hP hD hS hA 7 (ci := 3) rfl rfl (cwV 1 hts gX10_isBarrier_X3_lack rfl rfl rfl (by decide +kernel) ⟨Nat.le_of_ble_eq_true rfl, Nat.le_of_ble_eq_true rfl⟩) rfl hl.1 rfl (Nat.le_of_ble_eq_true rfl) dX10_isBarrier_21 ⟨Nat.le_of_ble_eq_true rfl, Nat.le_of_ble_eq_true rfl⟩ (fun r36754 u H locs hr36754 hP hD hS => ?_)
  refine lv_icmp_ne (tgt := 31) hx hb dX10_isBarrier_24 (by decide) (fun c36755 => ?_) (fun c36755 => ?_)
  · refine lv_iconst (v := 0) hx hb dX10_isBarrier_31 (by decide) ?_
    subst hAe
    exact W.zret (v := 0) hx hb hr (by decide) (fun t ht hW => ⟨⟨_, u, rfl, ⟨(by decide : Rg 0 1 (0 : Int32)), trivial⟩, by rw [ht]; exact hP, hD⟩, hS.F ht⟩) hS.2.2 dX10_isBarrier_32
  · refine lv_iconst (v := 1) hx hb dX10_isBarrier_27 (by decide) ?_
    refine lv_goto (tgt := 32) hx hb dX10_isBarrier_28 (by decide) ?_
    subst hAe
    exact W.zret (v := 1) hx hb hr (by decide) (fun t ht hW => ⟨⟨_, u, rfl, ⟨(by decide : Rg 0 1 (1 : Int32)), trivial⟩, by rw [ht]; exact hP, hD⟩, hS.F ht⟩) hS.2.2 dX10_isBarrier_32
