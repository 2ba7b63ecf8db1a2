theorem dX12_copy_101 : decode cX12_copy 101 = .ok (.ireturn, 1) := by decide +kernel
theorem dX12_copy_102 : decode cX12_copy 102 = .ok (.bipush 40, 2) := by decide +kernel
theorem dX12_copy_104 : decode cX12_copy 104 = .ok (.iload_n 1, 1) := by decide +kernel
theorem dX12_copy_105 : decode cX12_copy 105 = .ok (.imul, 1) := by decide +kernel
theorem dX12_copy_106 : decode cX12_copy 106 = .ok (.iload_n 2, 1) := by decide +kernel
theorem dX12_copy_107 : decode cX12_copy 107 = .ok (.iadd, 1) := by decide +kernel
theorem dX12_copy_108 : decode cX12_copy 108 = .ok (.bipush 40, 2) := by decide +kernel
theorem dX12_copy_110 : decode cX12_copy 110 = .ok (.iload_n 3, 1) := by decide +kernel
theorem dX12_copy_111 : decode cX12_copy 111 = .ok (.imul, 1) := by decide +kernel
theorem dX12_copy_112 : decode cX12_copy 112 = .ok (.iload 4, 2) := by decide +kernel
theorem dX12_copy_114 : decode cX12_copy 114 = .ok (.iadd, 1) := by decide +kernel
theorem dX12_copy_115 : decode cX12_copy 115 = .ok (.if_icmp .ge 7, 3) := by decide +kernel
theorem dX12_copy_118 : decode cX12_copy 118 = .ok (.iconst 1, 1) := by decide +kernel
theorem dX12_copy_119 : decode cX12_copy 119 = .ok (.goto 4, 3) := by decide +kernel
theorem dX12_copy_122 : decode cX12_copy 122 = .ok (.iconst 0, 1) := by decide +kernel
theorem dX12_copy_123 : decode cX12_copy 123 = .ok (.istore 6, 2) := by decide +kernel
theorem dX12_copy_125 : decode cX12_copy 125 = .ok (.iconst 0, 1) := by decide +kernel
theorem dX12_copy_126 : decode cX12_copy 126 = .ok (.istore 7, 2) := by decide +kernel
theorem dX12_copy_128 : decode cX12_copy 128 = .ok (.iload 7, 2) := by decide +kernel
theorem dX12_copy_130 : decode cX12_copy 130 = .ok (.iload 5, 2) := by decide +kernel
theorem dX12_copy_132 : decode cX12_copy 132 = .ok (.if_icmp .ge 57, 3) := by decide +kernel
theorem dX12_copy_135 : decode cX12_copy 135 = .ok (.iload 6, 2) := by decide +kernel
theorem dX12_copy_137 : decode cX12_copy 137 = .ok (.ifCond .eq 13, 3) := by decide +kernel
theorem dX12_copy_140 : decode cX12_copy 140 = .ok (.iload 5, 2) := by decide +kernel
theorem dX12_copy_142 : decode cX12_copy 142 = .ok (.iconst 1, 1) := by decide +kernel
theorem dX12_copy_143 : decode cX12_copy 143 = .ok (.isub, 1) := by decide +kernel
theorem dX12_copy_144 : decode cX12_copy 144 = .ok (.iload 7, 2) := by decide +kernel
theorem dX12_copy_146 : decode cX12_copy 146 = .ok (.isub, 1) := by decide +kernel
theorem dX12_copy_147 : decode cX12_copy 147 = .ok (.goto 5, 3) := by decide +kernel
theorem dX12_copy_150 : decode cX12_copy 150 = .ok (.iload 7, 2) := by decide +kernel
theorem dX12_copy_152 : decode cX12_copy 152 = .ok (.istore 8, 2) := by decide +kernel
theorem dX12_copy_154 : decode cX12_copy 154 = .ok (.aload_n 0, 1) := by decide +kernel
theorem dX12_copy_155 : decode cX12_copy 155 = .ok (.getfield 44, 3) := by decide +kernel
theorem dX12_copy_158 : decode cX12_copy 158 = .ok (.bipush 40, 2) := by decide +kernel
theorem dX12_copy_160 : decode cX12_copy 160 = .ok (.iload_n 3, 1) := by decide +kernel
theorem dX12_copy_161 : decode cX12_copy 161 = .ok (.imul, 1) := by decide +kernel
theorem dX12_copy_162 : decode cX12_copy 162 = .ok (.iload 4, 2) := by decide +kernel
theorem dX12_copy_164 : decode cX12_copy 164 = .ok (.iadd, 1) := by decide +kernel
theorem dX12_copy_165 : decode cX12_copy 165 = .ok (.iload 8, 2) := by decide +kernel
theorem dX12_copy_167 : decode cX12_copy 167 = .ok (.iadd, 1) := by decide +kernel
theorem dX12_copy_168 : decode cX12_copy 168 = .ok (.aload_n 0, 1) := by decide +kernel
theorem dX12_copy_169 : decode cX12_copy 169 = .ok (.getfield 44, 3) := by decide +kernel
theorem dX12_copy_172 : decode cX12_copy 172 = .ok (.bipush 40, 2) := by decide +kernel
theorem dX12_copy_174 : decode cX12_copy 174 = .ok (.iload_n 1, 1) := by decide +kernel
theorem dX12_copy_175 : decode cX12_copy 175 = .ok (.imul, 1) := by decide +kernel
theorem dX12_copy_176 : decode cX12_copy 176 = .ok (.iload_n 2, 1) := by decide +kernel
theorem dX12_copy_177 : decode cX12_copy 177 = .ok (.iadd, 1) := by decide +kernel
theorem dX12_copy_178 : decode cX12_copy 178 = .ok (.iload 8, 2) := by decide +kernel
theorem dX12_copy_180 : decode cX12_copy 180 = .ok (.iadd, 1) := by decide +kernel
theorem dX12_copy_181 : decode cX12_copy 181 = .ok (.iaload, 1) := by decide +kernel
theorem dX12_copy_182 : decode cX12_copy 182 = .ok (.iastore, 1) := by decide +kernel
theorem dX12_copy_183 : decode cX12_copy 183 = .ok (.iinc 7 1, 3) := by decide +kernel
theorem dX12_copy_186 : decode cX12_copy 186 = .ok (.goto (-58), 3) := by decide +kernel
theorem dX12_copy_189 : decode cX12_copy 189 = .ok (.iload 5, 2) := by decide +kernel
theorem dX12_copy_191 : decode cX12_copy 191 = .ok (.ireturn, 1) := by decide +kernel
theorem dX12_copy_27 : decode cX12_copy 27 = .ok (.aload_n 0, 1) := by decide +kernel
theorem dX12_copy_28 : decode cX12_copy 28 = .ok (.getfield 38, 3) := by decide +kernel
theorem dX12_copy_31 : decode cX12_copy 31 = .ok (.iload_n 3, 1) := by decide +kernel
theorem dX12_copy_32 : decode cX12_copy 32 = .ok (.iaload, 1) := by decide +kernel
theorem dX12_copy_33 : decode cX12_copy 33 = .ok (.iconst (-1), 1) := by decide +kernel
theorem dX12_copy_34 : decode cX12_copy 34 = .ok (.if_icmp .ne 6, 3) := by decide +kernel
theorem dX12_copy_40 : decode cX12_copy 40 = .ok (.aload_n 0, 1) := by decide +kernel
theorem dX12_copy_41 : decode cX12_copy 41 = .ok (.getfield 38, 3) := by decide +kernel
theorem dX12_copy_44 : decode cX12_copy 44 = .ok (.iload_n 1, 1) := by decide +kernel
theorem dX12_copy_45 : decode cX12_copy 45 = .ok (.iaload, 1) := by decide +kernel
theorem dX12_copy_46 : decode cX12_copy 46 = .ok (.aload_n 0, 1) := by decide +kernel
theorem dX12_copy_47 : decode cX12_copy 47 = .ok (.getfield 38, 3) := by decide +kernel
theorem dX12_copy_50 : decode cX12_copy 50 = .ok (.iload_n 3, 1) := by decide +kernel
theorem dX12_copy_51 : decode cX12_copy 51 = .ok (.iaload, 1) := by decide +kernel
theorem dX12_copy_52 : decode cX12_copy 52 = .ok (.if_icmp .eq 6, 3) := by decide +kernel
theorem dX12_copy_55 : decode cX12_copy 55 = .ok (.bipush (-13), 2) := by decide +kernel
theorem dX12_copy_57 : decode cX12_copy 57 = .ok (.ireturn, 1) := by decide +kernel
theorem dX12_copy_58 : decode cX12_copy 58 = .ok (.iload 5, 2) := by decide +kernel
theorem dX12_copy_60 : decode cX12_copy 60 = .ok (.ifCond .lt 39, 3) := by decide +kernel
theorem dX12_copy_63 : decode cX12_copy 63 = .ok (.iload_n 2, 1) := by decide +kernel
theorem dX12_copy_64 : decode cX12_copy 64 = .ok (.ifCond .lt 35, 3) := by decide +kernel
theorem dX12_copy_67 : decode cX12_copy 67 = .ok (.iload 4, 2) := by decide +kernel
theorem dX12_copy_69 : decode cX12_copy 69 = .ok (.ifCond .lt 30, 3) := by decide +kernel
theorem dX12_copy_72 : decode cX12_copy 72 = .ok (.iload_n 2, 1) := by decide +kernel
theorem dX12_copy_73 : decode cX12_copy 73 = .ok (.aload_n 0, 1) := by decide +kernel
theorem dX12_copy_74 : decode cX12_copy 74 = .ok (.getfield 41, 3) := by decide +kernel
theorem dX12_copy_77 : decode cX12_copy 77 = .ok (.iload_n 1, 1) := by decide +kernel
theorem dX12_copy_78 : decode cX12_copy 78 = .ok (.iaload, 1) := by decide +kernel
theorem dX12_copy_79 : decode cX12_copy 79 = .ok (.iload 5, 2) := by decide +kernel
theorem dX12_copy_81 : decode cX12_copy 81 = .ok (.isub, 1) := by decide +kernel
theorem dX12_copy_82 : decode cX12_copy 82 = .ok (.if_icmp .gt 17, 3) := by decide +kernel
theorem dX12_copy_85 : decode cX12_copy 85 = .ok (.iload 4, 2) := by decide +kernel
theorem dX12_copy_87 : decode cX12_copy 87 = .ok (.aload_n 0, 1) := by decide +kernel
theorem dX12_copy_88 : decode cX12_copy 88 = .ok (.getfield 41, 3) := by decide +kernel
theorem dX12_copy_91 : decode cX12_copy 91 = .ok (.iload_n 3, 1) := by decide +kernel
theorem dX12_copy_92 : decode cX12_copy 92 = .ok (.iaload, 1) := by decide +kernel
theorem dX12_copy_93 : decode cX12_copy 93 = .ok (.iload 5, 2) := by decide +kernel
theorem dX12_copy_95 : decode cX12_copy 95 = .ok (.isub, 1) := by decide +kernel
theorem dX12_copy_96 : decode cX12_copy 96 = .ok (.if_icmp .le 6, 3) := by decide +kernel
theorem dX12_copy_99 : decode cX12_copy 99 = .ok (.bipush (-12), 2) := by decide +kernel
set_option maxHeartbeats 4000000 in
set_option maxRecDepth 100000 in
theorem w_X12_copy (l : Launch) (D : va_G) (cI cS : ClassId) (sz : Nat) (b : Nat → Nat) (L v0 : SU) (hL : TyL L) (hV : TyV v0) (x0 x1 x2 x3 x4 : Int32) : Met l yX12_copy wsX12_copy ({ frames := 2, cells := 0, slots := 0, locals := 80 }) (PQ D cI cS (wM cI b L v0) sz [.ref (b 0), .int x0, .int x1, .int x2, .int x3, .int x4]) (QF (S := SU) D (wM cI b L v0) (wM cI b L) sz (fun r u => TyV u ∧ Rg (-13) 40 r ∧ ((x0.toInt < 0 ∨ 3 < x0.toInt ∨ x2.toInt < 0 ∨ 3 < x2.toInt → r.toInt = -2) ∧ (0 ≤ x0.toInt → x0.toInt ≤ 3 → 0 ≤ x2.toInt → x2.toInt ≤ 3 → ((L 9 x0.toNatClampNeg).toInt = -1 ∨ (L 9 x2.toNatClampNeg).toInt = -1) → r.toInt = -11) ∧ (0 ≤ x0.toInt → x0.toInt ≤ 3 → 0 ≤ x2.toInt → x2.toInt ≤ 3 → ¬ (L 9 x0.toNatClampNeg).toInt = -1 → ¬ (L 9 x2.toNatClampNeg).toInt = -1 → ¬ (L 9 x0.toNatClampNeg).toInt = (L 9 x2.toNatClampNeg).toInt → r.toInt = -13) ∧ (0 ≤ x0.toInt → x0.toInt ≤ 3 → 0 ≤ x2.toInt → x2.toInt ≤ 3 → ¬ (L 9 x0.toNatClampNeg).toInt = -1 → ¬ (L 9 x2.toNatClampNeg).toInt = -1 → (L 9 x0.toNatClampNeg).toInt = (L 9 x2.toNatClampNeg).toInt → (x4.toInt < 0 ∨ x1.toInt < 0 ∨ x3.toInt < 0 ∨ (L 10 x0.toNatClampNeg).toInt < x1.toInt + x4.toInt ∨ (L 10 x2.toNatClampNeg).toInt < x3.toInt + x4.toInt) → r.toInt = -12) ∧ ((0 ≤ x0.toInt ∧ x0.toInt ≤ 3 ∧ 0 ≤ x2.toInt ∧ x2.toInt ≤ 3 ∧ ¬ (L 9 x0.toNatClampNeg).toInt = -1 ∧ ¬ (L 9 x2.toNatClampNeg).toInt = -1 ∧ (L 9 x0.toNatClampNeg).toInt = (L 9 x2.toNatClampNeg).toInt ∧ 0 ≤ x4.toInt ∧ 0 ≤ x1.toInt ∧ 0 ≤ x3.toInt ∧ x1.toInt + x4.toInt ≤ (L 10 x0.toNatClampNeg).toInt ∧ x3.toInt + x4.toInt ≤ (L 10 x2.toNatClampNeg).toInt) → r.toInt = x4.toInt)))) 0 0 (va_A (wM cI b L v0) sz) := by
  refine Met.ofW (cc := cX12_copy) (maxL := 9) (ret := (some .int)) (by decide) rfl ?_
  intro p e s m args below meth c s₁ B hml hv
  obtain ⟨rfl, hsz, hP, hKK, hD0⟩ := hv
  have hx := B.exec
  have hb := B.bytes
  have hr := B.returns
  have hts := atoms_spec (ws := wsX12_copy) B.pre
  have hown : s.vm.findClass RX12 = some m.cls := findClass_of_methodNamed B.named
  have hlocks := B.notSynchronized
  have hK := hKK.1
  have hin12 : ∀ w ∈ wsX120, w ∈ wsX12_copy := by decide +kernel
  subst hsz
  have hD := hD0.self (sz := s.heap.size)
  obtain ⟨A, hAe⟩ : ∃ A, A = va_A (wM cI b L v0) s.heap.size := ⟨_, rfl⟩
  rw [← hAe] at hD
  have hA : ∀ q : Nat, s.heap.size ≤ q → A q := fun q h => by rw [hAe]; exact Or.inr h
  have hS : va_S A s.heap s.heap [] := va_S.rf
  have hl := lv_entry ([.ref (b 0), .int x0, .int x1, .int x2, .int x3, .int x4]) (n := 9) (Nat.le_of_ble_eq_true rfl)
  rw [lg_entry_eq]
  generalize (lg_sl ([.ref (b 0), .int x0, .int x1, .int x2, .int x3, .int x4]) ++ List.replicate (9 - (lg_sl ([.ref (b 0), .int x0, .int x1, .int x2, .int x3, .int x4])).length) Slot.unset).toArray = ls at hl ⊢
  have hl : lv_has ls 9 [(0, .ref (b 0)), (1, .int x0), (2, .int x1), (3, .int x2), (4, .int x3), (5, .int x4)] := hl
  obtain ⟨v, hv9⟩ : ∃ v : SU, v = v0 := ⟨_, rfl⟩
  rw [← hv9] at hP hD hV
  have lp128 : ∀ (n128 : Nat) (y128_l6 : Int32) (y128_l7 : Int32) (v : SU) (H : Heap) (locs : List Loc) (ls : Array Slot), Rg 0 3 x0 → Rg 0 40 x1 → Rg 0 3 x2 → Rg 0 40 x3 → Rg 0 40 x4 → Rg 0 1 y128_l6 → Rg 0 40 y128_l7 → (x1.toInt + x4.toInt ≤ 40 ∧ x3.toInt + x4.toInt ≤ 40) → (0 ≤ x0.toInt ∧ x0.toInt ≤ 3 ∧ 0 ≤ x2.toInt ∧ x2.toInt ≤ 3 ∧ ¬ (L 9 x0.toNatClampNeg).toInt = -1 ∧ ¬ (L 9 x2.toNatClampNeg).toInt = -1 ∧ (L 9 x0.toNatClampNeg).toInt = (L 9 x2.toNatClampNeg).toInt ∧ 0 ≤ x4.toInt ∧ 0 ≤ x1.toInt ∧ 0 ≤ x3.toInt ∧ x1.toInt + x4.toInt ≤ (L 10 x0.toNatClampNeg).toInt ∧ x3.toInt + x4.toInt ≤ (L 10 x2.toNatClampNeg).toInt) → TyV v → va_P D cls (wM cI b L v) H → va_D A (wM cI b L v) → va_S A s.heap H locs → lv_has ls 9 [(0, .ref (b 0)), (1, .int x0), (2, .int x1), (3, .int x2), (4, .int x3), (5, .int x4), (6, .int y128_l6), (7, .int y128_l7)] → 40 - y128_l7.toInt < (n128 : Int) → W p l e (headSpec wsX12_copy ({ frames := 2, cells := 0, slots := 0, locals := 80 })).room s m ([.ref (b 0), .int x0, .int x1, .int x2, .int x3, .int x4]).toArray below meth c H locs 0 0 (MQ below (QF (S := SU) D (wM cI b L v0) (wM cI b L) s.heap.size (fun r u => TyV u ∧ Rg (-13) 40 r ∧ ((x0.toInt < 0 ∨ 3 < x0.toInt ∨ x2.toInt < 0 ∨ 3 < x2.toInt → r.toInt = -2) ∧ (0 ≤ x0.toInt → x0.toInt ≤ 3 → 0 ≤ x2.toInt → x2.toInt ≤ 3 → ((L 9 x0.toNatClampNeg).toInt = -1 ∨ (L 9 x2.toNatClampNeg).toInt = -1) → r.toInt = -11) ∧ (0 ≤ x0.toInt → x0.toInt ≤ 3 → 0 ≤ x2.toInt → x2.toInt ≤ 3 → ¬ (L 9 x0.toNatClampNeg).toInt = -1 → ¬ (L 9 x2.toNatClampNeg).toInt = -1 → ¬ (L 9 x0.toNatClampNeg).toInt = (L 9 x2.toNatClampNeg).toInt → r.toInt = -13) ∧ (0 ≤ x0.toInt → x0.toInt ≤ 3 → 0 ≤ x2.toInt → x2.toInt ≤ 3 → ¬ (L 9 x0.toNatClampNeg).toInt = -1 → ¬ (L 9 x2.toNatClampNeg).toInt = -1 → (L 9 x0.toNatClampNeg).toInt = (L 9 x2.toNatClampNeg).toInt → (x4.toInt < 0 ∨ x1.toInt < 0 ∨ x3.toInt < 0 ∨ (L 10 x0.toNatClampNeg).toInt < x1.toInt + x4.toInt ∨ (L 10 x2.toNatClampNeg).toInt < x3.toInt + x4.toInt) → r.toInt = -12) ∧ ((0 ≤ x0.toInt ∧ x0.toInt ≤ 3 ∧ 0 ≤ x2.toInt ∧ x2.toInt ≤ 3 ∧ ¬ (L 9 x0.toNatClampNeg).toInt = -1 ∧ ¬ (L 9 x2.toNatClampNeg).toInt = -1 ∧ (L 9 x0.toNatClampNeg).toInt = (L 9 x2.toNatClampNeg).toInt ∧ 0 ≤ x4.toInt ∧ 0 ≤ x1.toInt ∧ 0 ≤ x3.toInt ∧ x1.toInt + x4.toInt ≤ (L 10 x0.toNatClampNeg).toInt ∧ x3.toInt + x4.toInt ≤ (L 10 x2.toNatClampNeg).toInt) → r.toInt = x4.toInt)))) ([.ref (b 0), .int x0, .int x1, .int x2, .int x3, .int x4]).toArray s 0 0 (va_A (wM cI b L v0) s.heap.size)) (F0 m 128 ls []) := by
    intro n128
    induction n128 with
    | zero =>
      intro y128_l6 y128_l7 v H locs ls g128_l1 g128_l2 g128_l3 g128_l4 g128_l5 g128_l6 g128_l7 x128_0 x128_1 hV hP hD hS hl hm128
      exact absurd rfl (me_z g128_l7 hm128)
    | succ n128 ih128 =>
      intro y128_l6 y128_l7 v H locs ls g128_l1 g128_l2 g128_l3 g128_l4 g128_l5 g128_l6 g128_l7 x128_0 x128_1 hV hP hD hS hl hm128
      have ct152 : ∀ (y152_s0 : Int32) (v : SU) (H : Heap) (locs : List Loc) (ls : Array Slot), Rg 0 3 x0 → Rg 0 40 x1 → Rg 0 3 x2 → Rg 0 40 x3 → Rg 1 40 x4 → Rg 0 1 y128_l6 → Rg 0 39 y128_l7 → Rg (-2147483648) 39 y152_s0 → (x1.toInt + x4.toInt ≤ 40 ∧ x3.toInt + x4.toInt ≤ 40) → (0 ≤ y152_s0.toInt ∧ y152_s0.toInt < x4.toInt) → (0 ≤ x0.toInt ∧ x0.toInt ≤ 3 ∧ 0 ≤ x2.toInt ∧ x2.toInt ≤ 3 ∧ ¬ (L 9 x0.toNatClampNeg).toInt = -1 ∧ ¬ (L 9 x2.toNatClampNeg).toInt = -1 ∧ (L 9 x0.toNatClampNeg).toInt = (L 9 x2.toNatClampNeg).toInt ∧ 0 ≤ x4.toInt ∧ 0 ≤ x1.toInt ∧ 0 ≤ x3.toInt ∧ x1.toInt + x4.toInt ≤ (L 10 x0.toNatClampNeg).toInt ∧ x3.toInt + x4.toInt ≤ (L 10 x2.toNatClampNeg).toInt) → TyV v → va_P D cls (wM cI b L v) H → va_D A (wM cI b L v) → va_S A s.heap H locs → lv_has ls 9 [(0, .ref (b 0)), (1, .int x0), (2, .int x1), (3, .int x2), (4, .int x3), (5, .int x4), (6, .int y128_l6), (7, .int y128_l7)] → W p l e (headSpec wsX12_copy ({ frames := 2, cells := 0, slots := 0, locals := 80 })).room s m ([.ref (b 0), .int x0, .int x1, .int x2, .int x3, .int x4]).toArray below meth c H locs 0 0 (MQ below (QF (S := SU) D (wM cI b L v0) (wM cI b L) s.heap.size (fun r u => TyV u ∧ Rg (-13) 40 r ∧ ((x0.toInt < 0 ∨ 3 < x0.toInt ∨ x2.toInt < 0 ∨ 3 < x2.toInt → r.toInt = -2) ∧ (0 ≤ x0.toInt → x0.toInt ≤ 3 → 0 ≤ x2.toInt → x2.toInt ≤ 3 → ((L 9 x0.toNatClampNeg).toInt = -1 ∨ (L 9 x2.toNatClampNeg).toInt = -1) → r.toInt = -11) ∧ (0 ≤ x0.toInt → x0.toInt ≤ 3 → 0 ≤ x2.toInt → x2.toInt ≤ 3 → ¬ (L 9 x0.toNatClampNeg).toInt = -1 → ¬ (L 9 x2.toNatClampNeg).toInt = -1 → ¬ (L 9 x0.toNatClampNeg).toInt = (L 9 x2.toNatClampNeg).toInt → r.toInt = -13) ∧ (0 ≤ x0.toInt → x0.toInt ≤ 3 → 0 ≤ x2.toInt → x2.toInt ≤ 3 → ¬ (L 9 x0.toNatClampNeg).toInt = -1 → ¬ (L 9 x2.toNatClampNeg).toInt = -1 → (L 9 x0.toNatClampNeg).toInt = (L 9 x2.toNatClampNeg).toInt → (x4.toInt < 0 ∨ x1.toInt < 0 ∨ x3.toInt < 0 ∨ (L 10 x0.toNatClampNeg).toInt < x1.toInt + x4.toInt ∨ (L 10 x2.toNatClampNeg).toInt < x3.toInt + x4.toInt) → r.toInt = -12) ∧ ((0 ≤ x0.toInt ∧ x0.toInt ≤ 3 ∧ 0 ≤ x2.toInt ∧ x2.toInt ≤ 3 ∧ ¬ (L 9 x0.toNatClampNeg).toInt = -1 ∧ ¬ (L 9 x2.toNatClampNeg).toInt = -1 ∧ (L 9 x0.toNatClampNeg).toInt = (L 9 x2.toNatClampNeg).toInt ∧ 0 ≤ x4.toInt ∧ 0 ≤ x1.toInt ∧ 0 ≤ x3.toInt ∧ x1.toInt + x4.toInt ≤ (L 10 x0.toNatClampNeg).toInt ∧ x3.toInt + x4.toInt ≤ (L 10 x2.toNatClampNeg).toInt) → r.toInt = x4.toInt)))) ([.ref (b 0), .int x0, .int x1, .int x2, .int x3, .int x4]).toArray s 0 0 (va_A (wM cI b L v0) s.heap.size)) (F0 m 152 ls [.int y152_s0]) := by
        intro y152_s0 v H locs ls g152_l1 g152_l2 g152_l3 g152_l4 g152_l5 g152_l6 g152_l7 g152_s0 x152_0 x152_1 x152_2 hV hP hD hS hl
        refine lv_istore (lv' := [(8, .int y152_s0), (0, .ref (b 0)), (1, .int x0), (2, .int x1), (3, .int x2), (4, .int x3), (5, .int x4), (6, .int y128_l6), (7, .int y128_l7)]) hx hb dX12_copy_152 hl (by decide) rfl (fun ls hl => ?_)
        refine lv_aload_n hx hb dX12_copy_154 rfl (lv_at hl 1 rfl) ?_
        refine va_get (D := D) (ci := 12) (v := .ref (b 11)) (C := RX12) (T := TX12) (N := 24) hx hb hts hin12 hown hK hP 0 rfl rfl 18 (by decide) (hts (.fieldLink RX12 44 "MissedPointsModel" "items" "[I") (by decide +kernel)) (fun _ h9 => h9) rfl dX12_copy_155 ?_
        refine lv_bipush (v := 40) hx hb dX12_copy_158 (by decide) ?_
        refine lv_iload_n hx hb dX12_copy_160 rfl (lv_at hl 4 rfl) ?_
        refine wk_imul (f := 120) hx hb dX12_copy_161 (by decide : Rg 0 40 (40 : Int32)) g152_l3 (by decide) (fun r20128 hr20128 er20128 qr20128 => ?_)
        refine lv_iload hx hb dX12_copy_162 (lv_at hl 5 rfl) ?_
        refine wk_iadd (e1 := 0) (f := 160) hx hb dX12_copy_164 hr20128 g152_l4 (by decide) (fun r20129 hr20129 er20129 qr20129 => ?_)
        refine lv_iload hx hb dX12_copy_165 (lv_at hl 0 rfl) ?_
        refine wk_iadd (e1 := (-2147483648)) (f := 199) hx hb dX12_copy_167 hr20129 g152_s0 (by decide) (fun r20130 hr20130 er20130 qr20130 => ?_)
        refine lv_aload_n hx hb dX12_copy_168 rfl (lv_at hl 1 rfl) ?_
        refine va_get (D := D) (ci := 12) (v := .ref (b 11)) (C := RX12) (T := TX12) (N := 24) hx hb hts hin12 hown hK hP 0 rfl rfl 18 (by decide) (hts (.fieldLink RX12 44 "MissedPointsModel" "items" "[I") (by decide +kernel)) (fun _ h9 => h9) rfl dX12_copy_169 ?_
        refine lv_bipush (v := 40) hx hb dX12_copy_172 (by decide) ?_
        refine lv_iload_n hx hb dX12_copy_174 rfl (lv_at hl 2 rfl) ?_
        refine wk_imul (f := 120) hx hb dX12_copy_175 (by decide : Rg 0 40 (40 : Int32)) g152_l1 (by decide) (fun r20131 hr20131 er20131 qr20131 => ?_)
        refine lv_iload_n hx hb dX12_copy_176 rfl (lv_at hl 3 rfl) ?_
        refine wk_iadd (e1 := 0) (f := 160) hx hb dX12_copy_177 hr20131 g152_l2 (by decide) (fun r20132 hr20132 er20132 qr20132 => ?_)
        refine lv_iload hx hb dX12_copy_178 (lv_at hl 0 rfl) ?_
        have g20133 : Rg 0 159 r20132 := by have z1 := er20132; have z2 := er20131; have z3 := (by decide : Rg 0 120 (40 : Int32)); have z4 := g152_l1; have z5 := g152_l2; have z6 := x152_0; have z7 := x152_1; exact ⟨by omega, by omega⟩
        refine wk_iadd (e1 := (-2147483648)) (f := 198) hx hb dX12_copy_180 g20133 g152_s0 (by decide) (fun r20134 hr20134 er20134 qr20134 => ?_)
        have g20135 : Rg 0 159 r20134 := by have z1 := er20134; have z2 := er20132; have z3 := hr20131; have z4 := g152_l2; have z5 := g152_s0; have z6 := x152_0; have z7 := x152_1; exact ⟨by omega, by omega⟩
        refine wk_aldA hx hb hK hP 11 0 rfl rfl (rg_in g20135 (by decide) (by decide)) dX12_copy_181 (fun r20136 => ?_)
        have g20137 : Rg 0 159 r20130 := by have z1 := er20130; have z2 := er20129; have z3 := hr20128; have z4 := g152_l4; have z5 := g152_s0; have z6 := x152_0; have z7 := x152_1; exact ⟨by omega, by omega⟩
        refine ms_11 hx hb hK hP hD hS hV rfl (rg_in g20137 (by decide) (by decide)) dX12_copy_182 (fun v H locs hV ev20138 hP hD hS => ?_)
        refine wk_iinc (lv' := fun r => [(7, .int r), (8, .int y152_s0), (0, .ref (b 0)), (1, .int x0), (2, .int x1), (3, .int x2), (4, .int x3), (5, .int x4), (6, .int y128_l6)]) (e1 := 1) (f := 40) hx hb dX12_copy_183 hl (k := 8) rfl (by decide) g152_l7 (by decide) (fun _ => rfl) (fun r20139 ls hr20139 er20139 hl => ?_)
        refine lv_goto (tgt := 128) hx hb dX12_copy_186 (by decide) ?_
        exact ih128 y128_l6 r20139 v _ _ ls g152_l1 g152_l2 g152_l3 g152_l4 (show Rg 0 40 x4 from rg_w g152_l5 (by decide) (by decide)) g152_l6 (show Rg 0 40 r20139 from rg_w hr20139 (by decide) (by decide)) (by exact x152_0) (show (0 ≤ x0.toInt ∧ x0.toInt ≤ 3 ∧ 0 ≤ x2.toInt ∧ x2.toInt ≤ 3 ∧ ¬ (L 9 x0.toNatClampNeg).toInt = -1 ∧ ¬ (L 9 x2.toNatClampNeg).toInt = -1 ∧ (L 9 x0.toNatClampNeg).toInt = (L 9 x2.toNatClampNeg).toInt ∧ 0 ≤ x4.toInt ∧ 0 ≤ x1.toInt ∧ 0 ≤ x3.toInt ∧ x1.toInt + x4.toInt ≤ (L 10 x0.toNatClampNeg).toInt ∧ x3.toInt + x4.toInt ≤ (L 10 x2.toNatClampNeg).toInt) from by have y90 : Rg 0 159 r20132 := g20133; have y91 : Rg 0 159 r20134 := g20135; have y92 : Rg 0 159 r20130 := g20137; have y93 : Rg 0 3 x0 := g152_l1; have y94 : Rg 0 40 x1 := g152_l2; have y95 : Rg 0 3 x2 := g152_l3; have y96 : Rg 0 40 x3 := g152_l4; have y97 : Rg 1 40 x4 := g152_l5; have y98 : Rg 0 1 y128_l6 := g152_l6; have y99 : Rg 1 40 r20139 := hr20139; have y910 : Rg (-2147483648) 39 y152_s0 := g152_s0; have y9c11 : (0 : Int32).toInt = 0 := (by decide); have y9c12 : (1 : Int32).toInt = 1 := (by decide); omega) hV hP hD hS (lv_sub (l' := [(0, .ref (b 0)), (1, .int x0), (2, .int x1), (3, .int x2), (4, .int x3), (5, .int x4), (6, .int y128_l6), (7, .int r20139)]) hl [2, 3, 4, 5, 6, 7, 8, 0] rfl) (me_up hm128 er20139 (by decide))
      refine lv_iload hx hb dX12_copy_128 (lv_at hl 7 rfl) ?_
      refine lv_iload hx hb dX12_copy_130 (lv_at hl 5 rfl) ?_
      refine lv_icmp_ge (tgt := 189) hx hb dX12_copy_132 (by decide) (fun c20140 => ?_) (fun c20140 => ?_)
      · refine lv_iload hx hb dX12_copy_189 (lv_at hl 5 rfl) ?_
        subst hAe
        exact W.iret (v := x4) hx hb hr (fun t ht hW => ⟨⟨_, v, rfl, ⟨hV, (show Rg (-13) 40 x4 from rg_w g128_l5 (by decide) (by decide)), (by have y90 : x4.toInt ≤ y128_l7.toInt := (lz_le _ _).mp c20140; have y91 : Rg 0 3 x0 := g128_l1; have y92 : Rg 0 40 x1 := g128_l2; have y93 : Rg 0 3 x2 := g128_l3; have y94 : Rg 0 40 x3 := g128_l4; have y95 : Rg 0 40 x4 := g128_l5; have y96 : Rg 0 1 y128_l6 := g128_l6; have y97 : Rg 0 40 y128_l7 := g128_l7; have y98 : Rg 0 40 x4 := g128_l5; have y99 : Rg 0 40 x4 := g128_l5; have y9c10 : (0 : Int32).toInt = 0 := (by decide); have y9c11 : (1 : Int32).toInt = 1 := (by decide); skip; omega)⟩, by rw [ht]; exact hP, hD⟩, hS.F ht⟩) hS.2.2 dX12_copy_191
      · have g20141 : Rg 1 40 x4 := rg_ltr g128_l7 g128_l5 (rg_nle c20140) (by decide)
        have g20142 : Rg 0 39 y128_l7 := rg_ltl g128_l7 g128_l5 (rg_nle c20140) (by decide)
        refine lv_iload hx hb dX12_copy_135 (lv_at hl 6 rfl) ?_
        refine lv_if_eq (tgt := 150) hx hb dX12_copy_137 (by decide) (fun c20143 => ?_) (fun c20143 => ?_)
        · have g20144 : Rg 0 0 y128_l6 := wk_eql g128_l6 (by decide : Rg 0 0 (0 : Int32)) c20143 (by decide)
          refine lv_iload hx hb dX12_copy_150 (lv_at hl 7 rfl) ?_
          exact ct152 y128_l7 v _ _ ls g128_l1 g128_l2 g128_l3 g128_l4 g20141 (show Rg 0 1 y128_l6 from rg_w g20144 (by decide) (by decide)) g20142 (show Rg (-2147483648) 39 y128_l7 from rg_w g20142 (by decide) (by decide)) (by exact x128_0) (by have z1 := (lz_lt _ _).mp (rg_nle c20140); have z2 := g128_l7; exact ⟨z2.1, z1⟩) (show (0 ≤ x0.toInt ∧ x0.toInt ≤ 3 ∧ 0 ≤ x2.toInt ∧ x2.toInt ≤ 3 ∧ ¬ (L 9 x0.toNatClampNeg).toInt = -1 ∧ ¬ (L 9 x2.toNatClampNeg).toInt = -1 ∧ (L 9 x0.toNatClampNeg).toInt = (L 9 x2.toNatClampNeg).toInt ∧ 0 ≤ x4.toInt ∧ 0 ≤ x1.toInt ∧ 0 ≤ x3.toInt ∧ x1.toInt + x4.toInt ≤ (L 10 x0.toNatClampNeg).toInt ∧ x3.toInt + x4.toInt ≤ (L 10 x2.toNatClampNeg).toInt) from by have y90 : y128_l7.toInt < x4.toInt := (lz_lt _ _).mp (rg_nle c20140); have y91 : y128_l6.toInt = (0 : Int32).toInt := congrArg Int32.toInt c20143; have y92 : Rg 1 40 x4 := g20141; have y93 : Rg 0 39 y128_l7 := g20142; have y94 : Rg 0 0 y128_l6 := g20144; have y95 : Rg 0 3 x0 := g128_l1; have y96 : Rg 0 40 x1 := g128_l2; have y97 : Rg 0 3 x2 := g128_l3; have y98 : Rg 0 40 x3 := g128_l4; have y99 : Rg 1 40 x4 := g20141; have y910 : Rg 0 0 y128_l6 := g20144; have y911 : Rg 0 39 y128_l7 := g20142; have y912 : Rg 0 39 y128_l7 := g20142; have y9c13 : (0 : Int32).toInt = 0 := (by decide); have y9c14 : (1 : Int32).toInt = 1 := (by decide); omega) hV hP hD hS (lv_sub (l' := [(0, .ref (b 0)), (1, .int x0), (2, .int x1), (3, .int x2), (4, .int x3), (5, .int x4), (6, .int y128_l6), (7, .int y128_l7)]) hl [0, 1, 2, 3, 4, 5, 6, 7] rfl)
        · have g20145 : Rg 1 1 y128_l6 := rg_ne_lo (k := 0) g128_l6 (by decide) c20143 (by decide)
          refine lv_iload hx hb dX12_copy_140 (lv_at hl 5 rfl) ?_
          refine lv_iconst (v := 1) hx hb dX12_copy_142 (by decide) ?_
          refine wk_isub (e1 := 0) (f := 39) hx hb dX12_copy_143 g20141 (by decide : Rg 1 1 (1 : Int32)) (by decide) (fun r20146 hr20146 er20146 qr20146 => ?_)
          refine lv_iload hx hb dX12_copy_144 (lv_at hl 7 rfl) ?_
          refine wk_isub (e1 := (-39)) (f := 39) hx hb dX12_copy_146 hr20146 g20142 (by decide) (fun r20147 hr20147 er20147 qr20147 => ?_)
          refine lv_goto (tgt := 152) hx hb dX12_copy_147 (by decide) ?_
          exact ct152 r20147 v _ _ ls g128_l1 g128_l2 g128_l3 g128_l4 g20141 (show Rg 0 1 y128_l6 from rg_w g20145 (by decide) (by decide)) g20142 (show Rg (-2147483648) 39 r20147 from rg_w hr20147 (by decide) (by decide)) (by exact x128_0) (by have z1 := (lz_lt _ _).mp (rg_nle c20140); have z2 := g128_l7.1; have z3 := er20147; have z4 := er20146; have z5 : (1 : Int32).toInt = 1 := (by decide); exact ⟨by omega, by omega⟩) (show (0 ≤ x0.toInt ∧ x0.toInt ≤ 3 ∧ 0 ≤ x2.toInt ∧ x2.toInt ≤ 3 ∧ ¬ (L 9 x0.toNatClampNeg).toInt = -1 ∧ ¬ (L 9 x2.toNatClampNeg).toInt = -1 ∧ (L 9 x0.toNatClampNeg).toInt = (L 9 x2.toNatClampNeg).toInt ∧ 0 ≤ x4.toInt ∧ 0 ≤ x1.toInt ∧ 0 ≤ x3.toInt ∧ x1.toInt + x4.toInt ≤ (L 10 x0.toNatClampNeg).toInt ∧ x3.toInt + x4.toInt ≤ (L 10 x2.toNatClampNeg).toInt) from by have y90 : y128_l7.toInt < x4.toInt := (lz_lt _ _).mp (rg_nle c20140); have y91 : ¬ y128_l6.toInt = (0 : Int32).toInt := fun z => c20143 (Int32.toInt_inj.mp z); have y92 : Rg 1 40 x4 := g20141; have y93 : Rg 0 39 y128_l7 := g20142; have y94 : Rg 1 1 y128_l6 := g20145; have y95 : Rg 0 3 x0 := g128_l1; have y96 : Rg 0 40 x1 := g128_l2; have y97 : Rg 0 3 x2 := g128_l3; have y98 : Rg 0 40 x3 := g128_l4; have y99 : Rg 1 40 x4 := g20141; have y910 : Rg 1 1 y128_l6 := g20145; have y911 : Rg 0 39 y128_l7 := g20142; have y912 : Rg (-39) 39 r20147 := hr20147; have y9c13 : (0 : Int32).toInt = 0 := (by decide); have y9c14 : (1 : Int32).toInt = 1 := (by decide); omega) hV hP hD hS (lv_sub (l' := [(0, .ref (b 0)), (1, .int x0), (2, .int x1), (3, .int x2), (4, .int x3), (5, .int x4), (6, .int y128_l6), (7, .int y128_l7)]) hl [0, 1, 2, 3, 4, 5, 6, 7] rfl)
  refine lv_iload_n hx hb dX12_copy_0 rfl (lv_at hl 1 rfl) ?_
  refine lz_ss (As := [.int x0]) (rest := []) ⟨hx, hb, hml, hown, hts⟩ (w_X12_isSheet l D cI cS x0) hKK (hP.sub (ws' := []) [] rfl) (va_cwS 1 hts gX12_copy_X12_isSheet rfl rfl rfl (by decide +kernel) ⟨Nat.le_of_ble_eq_true rfl, Nat.le_of_ble_eq_true rfl⟩) rfl hl.1 rfl (Nat.le_of_ble_eq_true rfl) dX12_copy_1 ⟨Nat.le_of_ble_eq_true rfl, Nat.le_of_ble_eq_true rfl⟩ (fun r20148 hr20148 => ?_)
  refine lv_if_eq (tgt := 14) hx hb dX12_copy_4 (by decide) (fun c20149 => ?_) (fun c20149 => ?_)
  · have zt20150 : (x0.toInt < 0 ∨ 3 < x0.toInt) := hr20148.2.2 c20149
    have g20151 : Rg 0 0 r20148 := wk_eql hr20148.1 (by decide : Rg 0 0 (0 : Int32)) c20149 (by decide)
    refine lv_bipush (v := (-2)) hx hb dX12_copy_14 (by decide) ?_
    subst hAe
    exact W.iret (v := (-2)) hx hb hr (fun t ht hW => ⟨⟨_, v, rfl, ⟨hV, (by decide : Rg (-13) 40 ((-2) : Int32)), (by have y90 : r20148.toInt = (0 : Int32).toInt := congrArg Int32.toInt c20149; have y91 : Rg 0 0 r20148 := g20151; have y9c2 : ((-2) : Int32).toInt = -2 := (by decide); have y9c3 : (0 : Int32).toInt = 0 := (by decide); have y9c4 : (1 : Int32).toInt = 1 := (by decide); skip; omega)⟩, by rw [ht]; exact hP, hD⟩, hS.F ht⟩) hS.2.2 dX12_copy_16
  · have g20152 : Rg 0 3 x0 := (hr20148.2.1 c20149)
    have g20153 : Rg 1 1 r20148 := rg_ne_lo (k := 0) hr20148.1 (by decide) c20149 (by decide)
    refine lv_iload_n hx hb dX12_copy_7 rfl (lv_at hl 3 rfl) ?_
    refine lz_ss (As := [.int x2]) (rest := []) ⟨hx, hb, hml, hown, hts⟩ (w_X12_isSheet l D cI cS x2) hKK (hP.sub (ws' := []) [] rfl) (va_cwS 1 hts gX12_copy_X12_isSheet rfl rfl rfl (by decide +kernel) ⟨Nat.le_of_ble_eq_true rfl, Nat.le_of_ble_eq_true rfl⟩) rfl hl.1 rfl (Nat.le_of_ble_eq_true rfl) dX12_copy_8 ⟨Nat.le_of_ble_eq_true rfl, Nat.le_of_ble_eq_true rfl⟩ (fun r20154 hr20154 => ?_)
    refine lv_if_ne (tgt := 17) hx hb dX12_copy_11 (by decide) (fun c20155 => ?_) (fun c20155 => ?_)
    · have g20156 : Rg 0 3 x2 := (hr20154.2.1 c20155)
      have g20157 : Rg 1 1 r20154 := rg_ne_lo (k := 0) hr20154.1 (by decide) c20155 (by decide)
      refine lv_aload_n hx hb dX12_copy_17 rfl (lv_at hl 0 rfl) ?_
      refine va_get (D := D) (ci := 12) (v := .ref (b 9)) (C := RX12) (T := TX12) (N := 24) hx hb hts hin12 hown hK hP 0 rfl rfl 16 (by decide) (hts (.fieldLink RX12 38 "MissedPointsModel" "sort" "[I") (by decide +kernel)) (fun _ h9 => h9) rfl dX12_copy_18 ?_
      refine lv_iload_n hx hb dX12_copy_21 rfl (lv_at hl 1 rfl) ?_
      refine va_iald hx hb hK hP 9 0 rfl rfl (rg_in g20152 (by decide) (by decide)) dX12_copy_22 ?_
      refine lz_top (y := (L 9 x0.toNatClampNeg)) rfl ?_
      refine lv_iconst (v := (-1)) hx hb dX12_copy_23 (by decide) ?_
      refine lv_icmp_eq (tgt := 37) hx hb dX12_copy_24 (by decide) (fun c20159 => ?_) (fun c20159 => ?_)
      · have g20160 : Rg (-1) (-1) (L 9 x0.toNatClampNeg) := wk_eql (hL.2.2.1 x0.toNatClampNeg) (by decide : Rg (-1) (-1) ((-1) : Int32)) c20159 (by decide)
        refine lv_bipush (v := (-11)) hx hb dX12_copy_37 (by decide) ?_
        subst hAe
        exact W.iret (v := (-11)) hx hb hr (fun t ht hW => ⟨⟨_, v, rfl, ⟨hV, (by decide : Rg (-13) 40 ((-11) : Int32)), (by have y90 : ¬ r20148.toInt = (0 : Int32).toInt := fun z => c20149 (Int32.toInt_inj.mp z); have y91 : ¬ r20154.toInt = (0 : Int32).toInt := fun z => c20155 (Int32.toInt_inj.mp z); have y92 : (L 9 x0.toNatClampNeg).toInt = ((-1) : Int32).toInt := congrArg Int32.toInt c20159; have y93 : Rg 0 3 x0 := g20152; have y94 : Rg 1 1 r20148 := g20153; have y95 : Rg 0 3 x2 := g20156; have y96 : Rg 1 1 r20154 := g20157; have y97 : Rg (-1) (-1) (L 9 x0.toNatClampNeg) := g20160; have y98 : Rg 0 3 x0 := g20152; have y99 : Rg 0 3 x2 := g20156; have y9c10 : ((-11) : Int32).toInt = -11 := (by decide); have y9c11 : ((-1) : Int32).toInt = -1 := (by decide); have y9c12 : (0 : Int32).toInt = 0 := (by decide); have y9c13 : (1 : Int32).toInt = 1 := (by decide); skip; omega)⟩, by rw [ht]; exact hP, hD⟩, hS.F ht⟩) hS.2.2 dX12_copy_39
      · have g20161 : Rg 0 1 (L 9 x0.toNatClampNeg) := rg_ne_lo (k := (-1)) (hL.2.2.1 x0.toNatClampNeg) (by decide) c20159 (by decide)
        refine lv_aload_n hx hb dX12_copy_27 rfl (lv_at hl 0 rfl) ?_
        refine va_get (D := D) (ci := 12) (v := .ref (b 9)) (C := RX12) (T := TX12) (N := 24) hx hb hts hin12 hown hK hP 0 rfl rfl 16 (by decide) (hts (.fieldLink RX12 38 "MissedPointsModel" "sort" "[I") (by decide +kernel)) (fun _ h9 => h9) rfl dX12_copy_28 ?_
        refine lv_iload_n hx hb dX12_copy_31 rfl (lv_at hl 3 rfl) ?_
        refine va_iald hx hb hK hP 9 0 rfl rfl (rg_in g20156 (by decide) (by decide)) dX12_copy_32 ?_
        refine lz_top (y := (L 9 x2.toNatClampNeg)) rfl ?_
        refine lv_iconst (v := (-1)) hx hb dX12_copy_33 (by decide) ?_
        refine lv_icmp_ne (tgt := 40) hx hb dX12_copy_34 (by decide) (fun c20163 => ?_) (fun c20163 => ?_)
        · have g20164 : Rg 0 1 (L 9 x2.toNatClampNeg) := rg_ne_lo (k := (-1)) (hL.2.2.1 x2.toNatClampNeg) (by decide) c20163 (by decide)
          refine lv_aload_n hx hb dX12_copy_40 rfl (lv_at hl 0 rfl) ?_
          refine va_get (D := D) (ci := 12) (v := .ref (b 9)) (C := RX12) (T := TX12) (N := 24) hx hb hts hin12 hown hK hP 0 rfl rfl 16 (by decide) (hts (.fieldLink RX12 38 "MissedPointsModel" "sort" "[I") (by decide +kernel)) (fun _ h9 => h9) rfl dX12_copy_41 ?_
          refine lv_iload_n hx hb dX12_copy_44 rfl (lv_at hl 1 rfl) ?_
          refine va_iald hx hb hK hP 9 0 rfl rfl (rg_in g20152 (by decide) (by decide)) dX12_copy_45 ?_
          refine lz_top (y := (L 9 x0.toNatClampNeg)) rfl ?_
          refine lv_aload_n hx hb dX12_copy_46 rfl (lv_at hl 0 rfl) ?_
          refine va_get (D := D) (ci := 12) (v := .ref (b 9)) (C := RX12) (T := TX12) (N := 24) hx hb hts hin12 hown hK hP 0 rfl rfl 16 (by decide) (hts (.fieldLink RX12 38 "MissedPointsModel" "sort" "[I") (by decide +kernel)) (fun _ h9 => h9) rfl dX12_copy_47 ?_
          refine lv_iload_n hx hb dX12_copy_50 rfl (lv_at hl 3 rfl) ?_
          refine va_iald hx hb hK hP 9 0 rfl rfl (rg_in g20156 (by decide) (by decide)) dX12_copy_51 ?_
          refine lz_top (y := (L 9 x2.toNatClampNeg)) rfl ?_
          refine lv_icmp_eq (tgt := 58) hx hb dX12_copy_52 (by decide) (fun c20167 => ?_) (fun c20167 => ?_)
          · refine lv_iload hx hb dX12_copy_58 (lv_at hl 5 rfl) ?_
            refine lv_if_lt (tgt := 99) hx hb dX12_copy_60 (by decide) (fun c20168 => ?_) (fun c20168 => ?_)
            · have g20169 : Rg (-2147483648) (-1) x4 := rg_ltl (rg_any x4) (by decide : Rg 0 0 (0 : Int32)) c20168 (by decide)
              refine lv_bipush (v := (-12)) hx hb dX12_copy_99 (by decide) ?_
              subst hAe
              exact W.iret (v := (-12)) hx hb hr (fun t ht hW => ⟨⟨_, v, rfl, ⟨hV, (by decide : Rg (-13) 40 ((-12) : Int32)), (by have y90 : ¬ r20148.toInt = (0 : Int32).toInt := fun z => c20149 (Int32.toInt_inj.mp z); have y91 : ¬ r20154.toInt = (0 : Int32).toInt := fun z => c20155 (Int32.toInt_inj.mp z); have y92 : ¬ (L 9 x0.toNatClampNeg).toInt = ((-1) : Int32).toInt := fun z => c20159 (Int32.toInt_inj.mp z); have y93 : ¬ (L 9 x2.toNatClampNeg).toInt = ((-1) : Int32).toInt := fun z => c20163 (Int32.toInt_inj.mp z); have y94 : (L 9 x0.toNatClampNeg).toInt = (L 9 x2.toNatClampNeg).toInt := congrArg Int32.toInt c20167; have y95 : x4.toInt < (0 : Int32).toInt := (lz_lt _ _).mp c20168; have y96 : Rg 0 3 x0 := g20152; have y97 : Rg 1 1 r20148 := g20153; have y98 : Rg 0 3 x2 := g20156; have y99 : Rg 1 1 r20154 := g20157; have y910 : Rg 0 1 (L 9 x0.toNatClampNeg) := g20161; have y911 : Rg 0 1 (L 9 x2.toNatClampNeg) := g20164; have y912 : Rg (-2147483648) (-1) x4 := g20169; have y913 : Rg 0 3 x0 := g20152; have y914 : Rg 0 3 x2 := g20156; have y915 : Rg (-2147483648) (-1) x4 := g20169; have y9c16 : ((-12) : Int32).toInt = -12 := (by decide); have y9c17 : ((-1) : Int32).toInt = -1 := (by decide); have y9c18 : (0 : Int32).toInt = 0 := (by decide); have y9c19 : (1 : Int32).toInt = 1 := (by decide); skip; omega)⟩, by rw [ht]; exact hP, hD⟩, hS.F ht⟩) hS.2.2 dX12_copy_101
            · have g20170 : Rg 0 2147483647 x4 := rg_ler (by decide : Rg 0 0 (0 : Int32)) (rg_any x4) (rg_nlt c20168) (by decide)
              refine lv_iload_n hx hb dX12_copy_63 rfl (lv_at hl 2 rfl) ?_
              refine lv_if_lt (tgt := 99) hx hb dX12_copy_64 (by decide) (fun c20171 => ?_) (fun c20171 => ?_)
              · have g20172 : Rg (-2147483648) (-1) x1 := rg_ltl (rg_any x1) (by decide : Rg 0 0 (0 : Int32)) c20171 (by decide)
                refine lv_bipush (v := (-12)) hx hb dX12_copy_99 (by decide) ?_
                subst hAe
                exact W.iret (v := (-12)) hx hb hr (fun t ht hW => ⟨⟨_, v, rfl, ⟨hV, (by decide : Rg (-13) 40 ((-12) : Int32)), (by have y90 : ¬ r20148.toInt = (0 : Int32).toInt := fun z => c20149 (Int32.toInt_inj.mp z); have y91 : ¬ r20154.toInt = (0 : Int32).toInt := fun z => c20155 (Int32.toInt_inj.mp z); have y92 : ¬ (L 9 x0.toNatClampNeg).toInt = ((-1) : Int32).toInt := fun z => c20159 (Int32.toInt_inj.mp z); have y93 : ¬ (L 9 x2.toNatClampNeg).toInt = ((-1) : Int32).toInt := fun z => c20163 (Int32.toInt_inj.mp z); have y94 : (L 9 x0.toNatClampNeg).toInt = (L 9 x2.toNatClampNeg).toInt := congrArg Int32.toInt c20167; have y95 : (0 : Int32).toInt ≤ x4.toInt := (lz_le _ _).mp (rg_nlt c20168); have y96 : x1.toInt < (0 : Int32).toInt := (lz_lt _ _).mp c20171; have y97 : Rg 0 3 x0 := g20152; have y98 : Rg 1 1 r20148 := g20153; have y99 : Rg 0 3 x2 := g20156; have y910 : Rg 1 1 r20154 := g20157; have y911 : Rg 0 1 (L 9 x0.toNatClampNeg) := g20161; have y912 : Rg 0 1 (L 9 x2.toNatClampNeg) := g20164; have y913 : Rg 0 2147483647 x4 := g20170; have y914 : Rg (-2147483648) (-1) x1 := g20172; have y915 : Rg 0 3 x0 := g20152; have y916 : Rg (-2147483648) (-1) x1 := g20172; have y917 : Rg 0 3 x2 := g20156; have y918 : Rg 0 2147483647 x4 := g20170; have y9c19 : ((-12) : Int32).toInt = -12 := (by decide); have y9c20 : ((-1) : Int32).toInt = -1 := (by decide); have y9c21 : (0 : Int32).toInt = 0 := (by decide); have y9c22 : (1 : Int32).toInt = 1 := (by decide); skip; omega)⟩, by rw [ht]; exact hP, hD⟩, hS.F ht⟩) hS.2.2 dX12_copy_101
              · have g20173 : Rg 0 2147483647 x1 := rg_ler (by decide : Rg 0 0 (0 : Int32)) (rg_any x1) (rg_nlt c20171) (by decide)
                refine lv_iload hx hb dX12_copy_67 (lv_at hl 4 rfl) ?_
                refine lv_if_lt (tgt := 99) hx hb dX12_copy_69 (by decide) (fun c20174 => ?_) (fun c20174 => ?_)
                · have g20175 : Rg (-2147483648) (-1) x3 := rg_ltl (rg_any x3) (by decide : Rg 0 0 (0 : Int32)) c20174 (by decide)
                  refine lv_bipush (v := (-12)) hx hb dX12_copy_99 (by decide) ?_
                  subst hAe
                  exact W.iret (v := (-12)) hx hb hr (fun t ht hW => ⟨⟨_, v, rfl, ⟨hV, (by decide : Rg (-13) 40 ((-12) : Int32)), (by have y90 : ¬ r20148.toInt = (0 : Int32).toInt := fun z => c20149 (Int32.toInt_inj.mp z); have y91 : ¬ r20154.toInt = (0 : Int32).toInt := fun z => c20155 (Int32.toInt_inj.mp z); have y92 : ¬ (L 9 x0.toNatClampNeg).toInt = ((-1) : Int32).toInt := fun z => c20159 (Int32.toInt_inj.mp z); have y93 : ¬ (L 9 x2.toNatClampNeg).toInt = ((-1) : Int32).toInt := fun z => c20163 (Int32.toInt_inj.mp z); have y94 : (L 9 x0.toNatClampNeg).toInt = (L 9 x2.toNatClampNeg).toInt := congrArg Int32.toInt c20167; have y95 : (0 : Int32).toInt ≤ x4.toInt := (lz_le _ _).mp (rg_nlt c20168); have y96 : (0 : Int32).toInt ≤ x1.toInt := (lz_le _ _).mp (rg_nlt c20171); have y97 : x3.toInt < (0 : Int32).toInt := (lz_lt _ _).mp c20174; have y98 : Rg 0 3 x0 := g20152; have y99 : Rg 1 1 r20148 := g20153; have y910 : Rg 0 3 x2 := g20156; have y911 : Rg 1 1 r20154 := g20157; have y912 : Rg 0 1 (L 9 x0.toNatClampNeg) := g20161; have y913 : Rg 0 1 (L 9 x2.toNatClampNeg) := g20164; have y914 : Rg 0 2147483647 x4 := g20170; have y915 : Rg 0 2147483647 x1 := g20173; have y916 : Rg (-2147483648) (-1) x3 := g20175; have y917 : Rg 0 3 x0 := g20152; have y918 : Rg 0 2147483647 x1 := g20173; have y919 : Rg 0 3 x2 := g20156; have y920 : Rg (-2147483648) (-1) x3 := g20175; have y921 : Rg 0 2147483647 x4 := g20170; have y9c22 : ((-12) : Int32).toInt = -12 := (by decide); have y9c23 : ((-1) : Int32).toInt = -1 := (by decide); have y9c24 : (0 : Int32).toInt = 0 := (by decide); have y9c25 : (1 : Int32).toInt = 1 := (by decide); skip; omega)⟩, by rw [ht]; exact hP, hD⟩, hS.F ht⟩) hS.2.2 dX12_copy_101
                · have g20176 : Rg 0 2147483647 x3 := rg_ler (by decide : Rg 0 0 (0 : Int32)) (rg_any x3) (rg_nlt c20174) (by decide)
                  refine lv_iload_n hx hb dX12_copy_72 rfl (lv_at hl 2 rfl) ?_
                  refine lv_aload_n hx hb dX12_copy_73 rfl (lv_at hl 0 rfl) ?_
                  refine va_get (D := D) (ci := 12) (v := .ref (b 10)) (C := RX12) (T := TX12) (N := 24) hx hb hts hin12 hown hK hP 0 rfl rfl 17 (by decide) (hts (.fieldLink RX12 41 "MissedPointsModel" "size" "[I") (by decide +kernel)) (fun _ h9 => h9) rfl dX12_copy_74 ?_
                  refine lv_iload_n hx hb dX12_copy_77 rfl (lv_at hl 1 rfl) ?_
                  refine va_iald hx hb hK hP 10 0 rfl rfl (rg_in g20152 (by decide) (by decide)) dX12_copy_78 ?_
                  refine lz_top (y := (L 10 x0.toNatClampNeg)) rfl ?_
                  refine lv_iload hx hb dX12_copy_79 (lv_at hl 5 rfl) ?_
                  refine wk_isub (e1 := (-2147483647)) (f := 40) hx hb dX12_copy_81 (hL.2.2.2.1 x0.toNatClampNeg) g20170 (by decide) (fun r20178 hr20178 er20178 qr20178 => ?_)
                  refine lv_icmp_gt (tgt := 99) hx hb dX12_copy_82 (by decide) (fun c20179 => ?_) (fun c20179 => ?_)
                  · refine lv_bipush (v := (-12)) hx hb dX12_copy_99 (by decide) ?_
                    subst hAe
                    exact W.iret (v := (-12)) hx hb hr (fun t ht hW => ⟨⟨_, v, rfl, ⟨hV, (by decide : Rg (-13) 40 ((-12) : Int32)), (by have y90 : ¬ r20148.toInt = (0 : Int32).toInt := fun z => c20149 (Int32.toInt_inj.mp z); have y91 : ¬ r20154.toInt = (0 : Int32).toInt := fun z => c20155 (Int32.toInt_inj.mp z); have y92 : ¬ (L 9 x0.toNatClampNeg).toInt = ((-1) : Int32).toInt := fun z => c20159 (Int32.toInt_inj.mp z); have y93 : ¬ (L 9 x2.toNatClampNeg).toInt = ((-1) : Int32).toInt := fun z => c20163 (Int32.toInt_inj.mp z); have y94 : (L 9 x0.toNatClampNeg).toInt = (L 9 x2.toNatClampNeg).toInt := congrArg Int32.toInt c20167; have y95 : (0 : Int32).toInt ≤ x4.toInt := (lz_le _ _).mp (rg_nlt c20168); have y96 : (0 : Int32).toInt ≤ x1.toInt := (lz_le _ _).mp (rg_nlt c20171); have y97 : (0 : Int32).toInt ≤ x3.toInt := (lz_le _ _).mp (rg_nlt c20174); have y98 : r20178.toInt < x1.toInt := (lz_lt _ _).mp c20179; have y99 : Rg 0 3 x0 := g20152; have y910 : Rg 1 1 r20148 := g20153; have y911 : Rg 0 3 x2 := g20156; have y912 : Rg 1 1 r20154 := g20157; have y913 : Rg 0 1 (L 9 x0.toNatClampNeg) := g20161; have y914 : Rg 0 1 (L 9 x2.toNatClampNeg) := g20164; have y915 : Rg 0 2147483647 x4 := g20170; have y916 : Rg 0 2147483647 x1 := g20173; have y917 : Rg 0 2147483647 x3 := g20176; have y918 : Rg 0 3 x0 := g20152; have y919 : Rg 0 2147483647 x1 := g20173; have y920 : Rg 0 3 x2 := g20156; have y921 : Rg 0 2147483647 x3 := g20176; have y922 : Rg 0 2147483647 x4 := g20170; have y9c23 : ((-12) : Int32).toInt = -12 := (by decide); have y9c24 : ((-1) : Int32).toInt = -1 := (by decide); have y9c25 : (0 : Int32).toInt = 0 := (by decide); have y9c26 : (1 : Int32).toInt = 1 := (by decide); skip; omega)⟩, by rw [ht]; exact hP, hD⟩, hS.F ht⟩) hS.2.2 dX12_copy_101
                  · have g20180 : Rg 0 40 r20178 := rg_ler g20173 hr20178 (rg_nlt c20179) (by decide)
                    have g20181 : Rg 0 40 x1 := rg_lel g20173 hr20178 (rg_nlt c20179) (by decide)
                    refine lv_iload hx hb dX12_copy_85 (lv_at hl 4 rfl) ?_
                    refine lv_aload_n hx hb dX12_copy_87 rfl (lv_at hl 0 rfl) ?_
                    refine va_get (D := D) (ci := 12) (v := .ref (b 10)) (C := RX12) (T := TX12) (N := 24) hx hb hts hin12 hown hK hP 0 rfl rfl 17 (by decide) (hts (.fieldLink RX12 41 "MissedPointsModel" "size" "[I") (by decide +kernel)) (fun _ h9 => h9) rfl dX12_copy_88 ?_
                    refine lv_iload_n hx hb dX12_copy_91 rfl (lv_at hl 3 rfl) ?_
                    refine va_iald hx hb hK hP 10 0 rfl rfl (rg_in g20156 (by decide) (by decide)) dX12_copy_92 ?_
                    refine lz_top (y := (L 10 x2.toNatClampNeg)) rfl ?_
                    refine lv_iload hx hb dX12_copy_93 (lv_at hl 5 rfl) ?_
                    refine wk_isub (e1 := (-2147483647)) (f := 40) hx hb dX12_copy_95 (hL.2.2.2.1 x2.toNatClampNeg) g20170 (by decide) (fun r20183 hr20183 er20183 qr20183 => ?_)
                    refine lv_icmp_le (tgt := 102) hx hb dX12_copy_96 (by decide) (fun c20184 => ?_) (fun c20184 => ?_)
                    · have g20185 : Rg 0 40 x3 := rg_lel g20176 hr20183 c20184 (by decide)
                      have g20186 : Rg 0 40 r20183 := rg_ler g20176 hr20183 c20184 (by decide)
                      have z20187 : x1.toInt + x4.toInt ≤ 40 := by have z1 := (lz_le _ _).mp (rg_nlt c20179); have z2 := er20178; have z3 := (hL.2.2.2.1 x0.toNatClampNeg); omega
                      have z20188 : x3.toInt + x4.toInt ≤ 40 := by have z1 := (lz_le _ _).mp c20184; have z2 := er20183; have z3 := (hL.2.2.2.1 x2.toNatClampNeg); omega
                      have g20189 : Rg 0 40 x4 := ⟨g20170.1, by have z1 := z20187; have z2 := z20188; have z3 := g20170; have z4 := g20181; have z5 := g20185; omega⟩
                      have g20190 : Rg 0 40 x1 := ⟨g20181.1, by have z1 := z20187; have z2 := z20188; have z3 := g20189; have z4 := g20181; have z5 := g20185; omega⟩
                      have g20191 : Rg 0 40 x3 := ⟨g20185.1, by have z1 := z20187; have z2 := z20188; have z3 := g20189; have z4 := g20190; have z5 := g20185; omega⟩
                      refine lv_bipush (v := 40) hx hb dX12_copy_102 (by decide) ?_
                      refine lv_iload_n hx hb dX12_copy_104 rfl (lv_at hl 1 rfl) ?_
                      refine wk_imul (f := 120) hx hb dX12_copy_105 (by decide : Rg 0 40 (40 : Int32)) g20152 (by decide) (fun r20192 hr20192 er20192 qr20192 => ?_)
                      refine lv_iload_n hx hb dX12_copy_106 rfl (lv_at hl 2 rfl) ?_
                      refine wk_iadd (e1 := 0) (f := 160) hx hb dX12_copy_107 hr20192 g20190 (by decide) (fun r20193 hr20193 er20193 qr20193 => ?_)
                      refine lv_bipush (v := 40) hx hb dX12_copy_108 (by decide) ?_
                      refine lv_iload_n hx hb dX12_copy_110 rfl (lv_at hl 3 rfl) ?_
                      refine wk_imul (f := 120) hx hb dX12_copy_111 (by decide : Rg 0 40 (40 : Int32)) g20156 (by decide) (fun r20194 hr20194 er20194 qr20194 => ?_)
                      refine lv_iload hx hb dX12_copy_112 (lv_at hl 4 rfl) ?_
                      refine wk_iadd (e1 := 0) (f := 160) hx hb dX12_copy_114 hr20194 g20191 (by decide) (fun r20195 hr20195 er20195 qr20195 => ?_)
                      refine lv_icmp_ge (tgt := 122) hx hb dX12_copy_115 (by decide) (fun c20196 => ?_) (fun c20196 => ?_)
                      · refine lv_iconst (v := 0) hx hb dX12_copy_122 (by decide) ?_
                        refine lv_istore (lv' := [(6, .int 0), (0, .ref (b 0)), (1, .int x0), (2, .int x1), (3, .int x2), (4, .int x3), (5, .int x4)]) hx hb dX12_copy_123 hl (by decide) rfl (fun ls hl => ?_)
                        refine lv_iconst (v := 0) hx hb dX12_copy_125 (by decide) ?_
                        refine lv_istore (lv' := [(7, .int 0), (6, .int 0), (0, .ref (b 0)), (1, .int x0), (2, .int x1), (3, .int x2), (4, .int x3), (5, .int x4)]) hx hb dX12_copy_126 hl (by decide) rfl (fun ls hl => ?_)
                        exact lp128 41 (0 : Int32) (0 : Int32) v _ _ ls g20152 g20190 g20156 g20191 g20189 (by decide : Rg 0 1 (0 : Int32)) (by decide : Rg 0 40 (0 : Int32)) (by exact ⟨z20187, z20188⟩) (show (0 ≤ x0.toInt ∧ x0.toInt ≤ 3 ∧ 0 ≤ x2.toInt ∧ x2.toInt ≤ 3 ∧ ¬ (L 9 x0.toNatClampNeg).toInt = -1 ∧ ¬ (L 9 x2.toNatClampNeg).toInt = -1 ∧ (L 9 x0.toNatClampNeg).toInt = (L 9 x2.toNatClampNeg).toInt ∧ 0 ≤ x4.toInt ∧ 0 ≤ x1.toInt ∧ 0 ≤ x3.toInt ∧ x1.toInt + x4.toInt ≤ (L 10 x0.toNatClampNeg).toInt ∧ x3.toInt + x4.toInt ≤ (L 10 x2.toNatClampNeg).toInt) from by have y90 : ¬ r20148.toInt = (0 : Int32).toInt := fun z => c20149 (Int32.toInt_inj.mp z); have y91 : ¬ r20154.toInt = (0 : Int32).toInt := fun z => c20155 (Int32.toInt_inj.mp z); have y92 : ¬ (L 9 x0.toNatClampNeg).toInt = ((-1) : Int32).toInt := fun z => c20159 (Int32.toInt_inj.mp z); have y93 : ¬ (L 9 x2.toNatClampNeg).toInt = ((-1) : Int32).toInt := fun z => c20163 (Int32.toInt_inj.mp z); have y94 : (L 9 x0.toNatClampNeg).toInt = (L 9 x2.toNatClampNeg).toInt := congrArg Int32.toInt c20167; have y95 : (0 : Int32).toInt ≤ x4.toInt := (lz_le _ _).mp (rg_nlt c20168); have y96 : (0 : Int32).toInt ≤ x1.toInt := (lz_le _ _).mp (rg_nlt c20171); have y97 : (0 : Int32).toInt ≤ x3.toInt := (lz_le _ _).mp (rg_nlt c20174); have y98 : x1.toInt ≤ r20178.toInt := (lz_le _ _).mp (rg_nlt c20179); have y99 : x3.toInt ≤ r20183.toInt := (lz_le _ _).mp c20184; have y910 : r20195.toInt ≤ r20193.toInt := (lz_le _ _).mp c20196; have y911 : Rg 0 3 x0 := g20152; have y912 : Rg 1 1 r20148 := g20153; have y913 : Rg 0 3 x2 := g20156; have y914 : Rg 1 1 r20154 := g20157; have y915 : Rg 0 1 (L 9 x0.toNatClampNeg) := g20161; have y916 : Rg 0 1 (L 9 x2.toNatClampNeg) := g20164; have y917 : Rg 0 40 x4 := g20189; have y918 : Rg 0 40 x1 := g20190; have y919 : Rg 0 40 x3 := g20191; have y920 : Rg 0 40 r20178 := g20180; have y921 : Rg 0 40 r20183 := g20186; have y922 : Rg 0 3 x0 := g20152; have y923 : Rg 0 40 x1 := g20190; have y924 : Rg 0 3 x2 := g20156; have y925 : Rg 0 40 x3 := g20191; have y926 : Rg 0 40 x4 := g20189; have y9c27 : ((-1) : Int32).toInt = -1 := (by decide); have y9c28 : (0 : Int32).toInt = 0 := (by decide); have y9c29 : (1 : Int32).toInt = 1 := (by decide); have y9c30 : (40 : Int32).toInt = 40 := (by decide); omega) hV hP hD hS (lv_sub (l' := [(0, .ref (b 0)), (1, .int x0), (2, .int x1), (3, .int x2), (4, .int x3), (5, .int x4), (6, .int 0), (7, .int 0)]) hl [2, 3, 4, 5, 6, 7, 1, 0] rfl) (me_i (by decide : Rg 0 40 (0 : Int32)) (by decide))
                      · have g20197 : Rg 1 160 r20195 := rg_ltr hr20193 hr20195 (rg_nle c20196) (by decide)
                        have g20198 : Rg 0 159 r20193 := rg_ltl hr20193 hr20195 (rg_nle c20196) (by decide)
                        refine lv_iconst (v := 1) hx hb dX12_copy_118 (by decide) ?_
                        refine lv_goto (tgt := 123) hx hb dX12_copy_119 (by decide) ?_
                        refine lv_istore (lv' := [(6, .int 1), (0, .ref (b 0)), (1, .int x0), (2, .int x1), (3, .int x2), (4, .int x3), (5, .int x4)]) hx hb dX12_copy_123 hl (by decide) rfl (fun ls hl => ?_)
                        refine lv_iconst (v := 0) hx hb dX12_copy_125 (by decide) ?_
                        refine lv_istore (lv' := [(7, .int 0), (6, .int 1), (0, .ref (b 0)), (1, .int x0), (2, .int x1), (3, .int x2), (4, .int x3), (5, .int x4)]) hx hb dX12_copy_126 hl (by decide) rfl (fun ls hl => ?_)
                        exact lp128 41 (1 : Int32) (0 : Int32) v _ _ ls g20152 g20190 g20156 g20191 g20189 (by decide : Rg 0 1 (1 : Int32)) (by decide : Rg 0 40 (0 : Int32)) (by exact ⟨z20187, z20188⟩) (show (0 ≤ x0.toInt ∧ x0.toInt ≤ 3 ∧ 0 ≤ x2.toInt ∧ x2.toInt ≤ 3 ∧ ¬ (L 9 x0.toNatClampNeg).toInt = -1 ∧ ¬ (L 9 x2.toNatClampNeg).toInt = -1 ∧ (L 9 x0.toNatClampNeg).toInt = (L 9 x2.toNatClampNeg).toInt ∧ 0 ≤ x4.toInt ∧ 0 ≤ x1.toInt ∧ 0 ≤ x3.toInt ∧ x1.toInt + x4.toInt ≤ (L 10 x0.toNatClampNeg).toInt ∧ x3.toInt + x4.toInt ≤ (L 10 x2.toNatClampNeg).toInt) from by have y90 : ¬ r20148.toInt = (0 : Int32).toInt := fun z => c20149 (Int32.toInt_inj.mp z); have y91 : ¬ r20154.toInt = (0 : Int32).toInt := fun z => c20155 (Int32.toInt_inj.mp z); have y92 : ¬ (L 9 x0.toNatClampNeg).toInt = ((-1) : Int32).toInt := fun z => c20159 (Int32.toInt_inj.mp z); have y93 : ¬ (L 9 x2.toNatClampNeg).toInt = ((-1) : Int32).toInt := fun z => c20163 (Int32.toInt_inj.mp z); have y94 : (L 9 x0.toNatClampNeg).toInt = (L 9 x2.toNatClampNeg).toInt := congrArg Int32.toInt c20167; have y95 : (0 : Int32).toInt ≤ x4.toInt := (lz_le _ _).mp (rg_nlt c20168); have y96 : (0 : Int32).toInt ≤ x1.toInt := (lz_le _ _).mp (rg_nlt c20171); have y97 : (0 : Int32).toInt ≤ x3.toInt := (lz_le _ _).mp (rg_nlt c20174); have y98 : x1.toInt ≤ r20178.toInt := (lz_le _ _).mp (rg_nlt c20179); have y99 : x3.toInt ≤ r20183.toInt := (lz_le _ _).mp c20184; have y910 : r20193.toInt < r20195.toInt := (lz_lt _ _).mp (rg_nle c20196); have y911 : Rg 0 3 x0 := g20152; have y912 : Rg 1 1 r20148 := g20153; have y913 : Rg 0 3 x2 := g20156; have y914 : Rg 1 1 r20154 := g20157; have y915 : Rg 0 1 (L 9 x0.toNatClampNeg) := g20161; have y916 : Rg 0 1 (L 9 x2.toNatClampNeg) := g20164; have y917 : Rg 0 40 x4 := g20189; have y918 : Rg 0 40 x1 := g20190; have y919 : Rg 0 40 x3 := g20191; have y920 : Rg 0 40 r20178 := g20180; have y921 : Rg 0 40 r20183 := g20186; have y922 : Rg 1 160 r20195 := g20197; have y923 : Rg 0 159 r20193 := g20198; have y924 : Rg 0 3 x0 := g20152; have y925 : Rg 0 40 x1 := g20190; have y926 : Rg 0 3 x2 := g20156; have y927 : Rg 0 40 x3 := g20191; have y928 : Rg 0 40 x4 := g20189; have y9c29 : ((-1) : Int32).toInt = -1 := (by decide); have y9c30 : (0 : Int32).toInt = 0 := (by decide); have y9c31 : (1 : Int32).toInt = 1 := (by decide); have y9c32 : (40 : Int32).toInt = 40 := (by decide); omega) hV hP hD hS (lv_sub (l' := [(0, .ref (b 0)), (1, .int x0), (2, .int x1), (3, .int x2), (4, .int x3), (5, .int x4), (6, .int 1), (7, .int 0)]) hl [2, 3, 4, 5, 6, 7, 1, 0] rfl) (me_i (by decide : Rg 0 40 (0 : Int32)) (by decide))
                    · refine lv_bipush (v := (-12)) hx hb dX12_copy_99 (by decide) ?_
                      subst hAe
                      exact W.iret (v := (-12)) hx hb hr (fun t ht hW => ⟨⟨_, v, rfl, ⟨hV, (by decide : Rg (-13) 40 ((-12) : Int32)), (by have y90 : ¬ r20148.toInt = (0 : Int32).toInt := fun z => c20149 (Int32.toInt_inj.mp z); have y91 : ¬ r20154.toInt = (0 : Int32).toInt := fun z => c20155 (Int32.toInt_inj.mp z); have y92 : ¬ (L 9 x0.toNatClampNeg).toInt = ((-1) : Int32).toInt := fun z => c20159 (Int32.toInt_inj.mp z); have y93 : ¬ (L 9 x2.toNatClampNeg).toInt = ((-1) : Int32).toInt := fun z => c20163 (Int32.toInt_inj.mp z); have y94 : (L 9 x0.toNatClampNeg).toInt = (L 9 x2.toNatClampNeg).toInt := congrArg Int32.toInt c20167; have y95 : (0 : Int32).toInt ≤ x4.toInt := (lz_le _ _).mp (rg_nlt c20168); have y96 : (0 : Int32).toInt ≤ x1.toInt := (lz_le _ _).mp (rg_nlt c20171); have y97 : (0 : Int32).toInt ≤ x3.toInt := (lz_le _ _).mp (rg_nlt c20174); have y98 : x1.toInt ≤ r20178.toInt := (lz_le _ _).mp (rg_nlt c20179); have y99 : r20183.toInt < x3.toInt := (lz_lt _ _).mp (rg_nle c20184); have y910 : Rg 0 3 x0 := g20152; have y911 : Rg 1 1 r20148 := g20153; have y912 : Rg 0 3 x2 := g20156; have y913 : Rg 1 1 r20154 := g20157; have y914 : Rg 0 1 (L 9 x0.toNatClampNeg) := g20161; have y915 : Rg 0 1 (L 9 x2.toNatClampNeg) := g20164; have y916 : Rg 0 2147483647 x4 := g20170; have y917 : Rg 0 40 x1 := g20181; have y918 : Rg 0 2147483647 x3 := g20176; have y919 : Rg 0 40 r20178 := g20180; have y920 : Rg 0 3 x0 := g20152; have y921 : Rg 0 40 x1 := g20181; have y922 : Rg 0 3 x2 := g20156; have y923 : Rg 0 2147483647 x3 := g20176; have y924 : Rg 0 2147483647 x4 := g20170; have y9c25 : ((-12) : Int32).toInt = -12 := (by decide); have y9c26 : ((-1) : Int32).toInt = -1 := (by decide); have y9c27 : (0 : Int32).toInt = 0 := (by decide); have y9c28 : (1 : Int32).toInt = 1 := (by decide); skip; omega)⟩, by rw [ht]; exact hP, hD⟩, hS.F ht⟩) hS.2.2 dX12_copy_101
          · refine lv_bipush (v := (-13)) hx hb dX12_copy_55 (by decide) ?_
            subst hAe
            exact W.iret (v := (-13)) hx hb hr (fun t ht hW => ⟨⟨_, v, rfl, ⟨hV, (by decide : Rg (-13) 40 ((-13) : Int32)), (by have y90 : ¬ r20148.toInt = (0 : Int32).toInt := fun z => c20149 (Int32.toInt_inj.mp z); have y91 : ¬ r20154.toInt = (0 : Int32).toInt := fun z => c20155 (Int32.toInt_inj.mp z); have y92 : ¬ (L 9 x0.toNatClampNeg).toInt = ((-1) : Int32).toInt := fun z => c20159 (Int32.toInt_inj.mp z); have y93 : ¬ (L 9 x2.toNatClampNeg).toInt = ((-1) : Int32).toInt := fun z => c20163 (Int32.toInt_inj.mp z); have y94 : ¬ (L 9 x0.toNatClampNeg).toInt = (L 9 x2.toNatClampNeg).toInt := fun z => c20167 (Int32.toInt_inj.mp z); have y95 : Rg 0 3 x0 := g20152; have y96 : Rg 1 1 r20148 := g20153; have y97 : Rg 0 3 x2 := g20156; have y98 : Rg 1 1 r20154 := g20157; have y99 : Rg 0 1 (L 9 x0.toNatClampNeg) := g20161; have y910 : Rg 0 1 (L 9 x2.toNatClampNeg) := g20164; have y911 : Rg 0 3 x0 := g20152; have y912 : Rg 0 3 x2 := g20156; have y9c13 : ((-13) : Int32).toInt = -13 := (by decide); have y9c14 : ((-1) : Int32).toInt = -1 := (by decide); have y9c15 : (0 : Int32).toInt = 0 := (by decide); have y9c16 : (1 : Int32).toInt = 1 := (by decide); skip; omega)⟩, by rw [ht]; exact hP, hD⟩, hS.F ht⟩) hS.2.2 dX12_copy_57
        · have g20199 : Rg (-1) (-1) (L 9 x2.toNatClampNeg) := wk_eql (hL.2.2.1 x2.toNatClampNeg) (by decide : Rg (-1) (-1) ((-1) : Int32)) c20163 (by decide)
          refine lv_bipush (v := (-11)) hx hb dX12_copy_37 (by decide) ?_
          subst hAe
          exact W.iret (v := (-11)) hx hb hr (fun t ht hW => ⟨⟨_, v, rfl, ⟨hV, (by decide : Rg (-13) 40 ((-11) : Int32)), (by have y90 : ¬ r20148.toInt = (0 : Int32).toInt := fun z => c20149 (Int32.toInt_inj.mp z); have y91 : ¬ r20154.toInt = (0 : Int32).toInt := fun z => c20155 (Int32.toInt_inj.mp z); have y92 : ¬ (L 9 x0.toNatClampNeg).toInt = ((-1) : Int32).toInt := fun z => c20159 (Int32.toInt_inj.mp z); have y93 : (L 9 x2.toNatClampNeg).toInt = ((-1) : Int32).toInt := congrArg Int32.toInt c20163; have y94 : Rg 0 3 x0 := g20152; have y95 : Rg 1 1 r20148 := g20153; have y96 : Rg 0 3 x2 := g20156; have y97 : Rg 1 1 r20154 := g20157; have y98 : Rg 0 1 (L 9 x0.toNatClampNeg) := g20161; have y99 : Rg (-1) (-1) (L 9 x2.toNatClampNeg) := g20199; have y910 : Rg 0 3 x0 := g20152; have y911 : Rg 0 3 x2 := g20156; have y9c12 : ((-11) : Int32).toInt = -11 := (by decide); have y9c13 : ((-1) : Int32).toInt = -1 := (by decide); have y9c14 : (0 : Int32).toInt = 0 := (by decide); have y9c15 : (1 : Int32).toInt = 1 := (by decide); skip; omega)⟩, by rw [ht]; exact hP, hD⟩, hS.F ht⟩) hS.2.2 dX12_copy_39
    · have zt20200 : (x2.toInt < 0 ∨ 3 < x2.toInt) := hr20154.2.2 c20155
      have g20201 : Rg 0 0 r20154 := wk_eql hr20154.1 (by decide : Rg 0 0 (0 : Int32)) c20155 (by decide)
      refine lv_bipush (v := (-2)) hx hb dX12_copy_14 (by decide) ?_
      subst hAe
      exact W.iret (v := (-2)) hx hb hr (fun t ht hW => ⟨⟨_, v, rfl, ⟨hV, (by decide : Rg (-13) 40 ((-2) : Int32)), (by have y90 : ¬ r20148.toInt = (0 : Int32).toInt := fun z => c20149 (Int32.toInt_inj.mp z); have y91 : r20154.toInt = (0 : Int32).toInt := congrArg Int32.toInt c20155; have y92 : Rg 0 3 x0 := g20152; have y93 : Rg 1 1 r20148 := g20153; have y94 : Rg 0 0 r20154 := g20201; have y95 : Rg 0 3 x0 := g20152; have y9c6 : ((-2) : Int32).toInt = -2 := (by decide); have y9c7 : (0 : Int32).toInt = 0 := (by decide); have y9c8 : (1 : Int32).toInt = 1 := (by decide); skip; omega)⟩, by rw [ht]; exact hP, hD⟩, hS.F ht⟩) hS.2.2 dX12_copy_16
set_option maxRecDepth 20000 in
theorem ggX12_joins_X12_has : GoodIn wsX12_joins wsX12_has := goodIn_r _ [6] rfl (by decide +kernel)
set_option maxRecDepth 20000 in
theorem gX12_joins_X12_has : GoodIn wsX12_joins (va_wsS RX12 59 yX12_has wsX12_has) := goodIn_app (goodIn_of _ (by decide +kernel)) ggX12_joins_X12_has
set_option maxRecDepth 20000 in
theorem ggX12_joins_X12_lays : GoodIn wsX12_joins wsX12_lays := goodIn_r _ [10, 2, 11, 12, 13, 14, 15, 16, 17, 18, 19, 20, 21, 22, 23, 24, 25, 26, 27, 28, 29, 30, 31, 32, 33, 34] rfl (by decide +kernel)
set_option maxRecDepth 20000 in
theorem gX12_joins_X12_lays : GoodIn wsX12_joins (wsV RX12 81 RX12 yX12_lays wsX12_lays) := goodIn_app (goodIn_of _ (by decide +kernel)) ggX12_joins_X12_lays
theorem dX12_joins_0 : decode cX12_joins 0 = .ok (.aload_n 0, 1) := by decide +kernel
theorem dX12_joins_1 : decode cX12_joins 1 = .ok (.dup, 1) := by decide +kernel
theorem dX12_joins_10 : decode cX12_joins 10 = .ok (.iaload, 1) := by decide +kernel
theorem dX12_joins_11 : decode cX12_joins 11 = .ok (.iload_n 2, 1) := by decide +kernel
theorem dX12_joins_12 : decode cX12_joins 12 = .ok (.invokestatic 59, 3) := by decide +kernel
theorem dX12_joins_15 : decode cX12_joins 15 = .ok (.ifCond .eq 7, 3) := by decide +kernel
theorem dX12_joins_18 : decode cX12_joins 18 = .ok (.iconst 0, 1) := by decide +kernel
theorem dX12_joins_19 : decode cX12_joins 19 = .ok (.goto 4, 3) := by decide +kernel
theorem dX12_joins_2 : decode cX12_joins 2 = .ok (.getfield 184, 3) := by decide +kernel
theorem dX12_joins_22 : decode cX12_joins 22 = .ok (.iconst 1, 1) := by decide +kernel
theorem dX12_joins_23 : decode cX12_joins 23 = .ok (.iadd, 1) := by decide +kernel
theorem dX12_joins_24 : decode cX12_joins 24 = .ok (.putfield 184, 3) := by decide +kernel
theorem dX12_joins_27 : decode cX12_joins 27 = .ok (.aload_n 0, 1) := by decide +kernel
theorem dX12_joins_28 : decode cX12_joins 28 = .ok (.iload_n 1, 1) := by decide +kernel
theorem dX12_joins_29 : decode cX12_joins 29 = .ok (.iload_n 2, 1) := by decide +kernel
theorem dX12_joins_30 : decode cX12_joins 30 = .ok (.iconst 1, 1) := by decide +kernel
theorem dX12_joins_31 : decode cX12_joins 31 = .ok (.invokevirtual 81, 3) := by decide +kernel
theorem dX12_joins_34 : decode cX12_joins 34 = .ok (.return_, 1) := by decide +kernel
theorem dX12_joins_5 : decode cX12_joins 5 = .ok (.aload_n 0, 1) := by decide +kernel
theorem dX12_joins_6 : decode cX12_joins 6 = .ok (.getfield 13, 3) := by decide +kernel
theorem dX12_joins_9 : decode cX12_joins 9 = .ok (.iload_n 1, 1) := by decide +kernel
set_option maxHeartbeats 4000000 in
set_option maxRecDepth 100000 in
theorem w_X12_joins (l : Launch) (D : va_G) (cI cS : ClassId) (sz : Nat) (b : Nat → Nat) (L v0 : SU) (hL : TyL L) (hV : TyV v0) (x0 x1 : Int32) (px0 : Rg 0 11 x0) (px1 : Rg 0 11 x1) : Met l yX12_joins wsX12_joins ({ frames := 1, cells := 0, slots := 0, locals := 40 }) (PQ D cI cS (wM cI b L v0) sz [.ref (b 0), .int x0, .int x1]) (QE (S := SU) D (wM cI b L v0) (wM cI b L) sz (fun u => TyV u ∧ True)) 0 0 (va_A (wM cI b L v0) sz) := by
  refine Met.ofW (cc := cX12_joins) (maxL := 3) (ret := none) (by decide) rfl ?_
  intro p e s m args below meth c s₁ B hml hv
  obtain ⟨rfl, hsz, hP, hKK, hD0⟩ := hv
  have hx := B.exec
  have hb := B.bytes
  have hr := B.returns
  have hts := atoms_spec (ws := wsX12_joins) B.pre
  have hown : s.vm.findClass RX12 = some m.cls := findClass_of_methodNamed B.named
  have hlocks := B.notSynchronized
  have hK := hKK.1
  have hin12 : ∀ w ∈ wsX120, w ∈ wsX12_joins := by decide +kernel
  subst hsz
  have hD := hD0.self (sz := s.heap.size)
  obtain ⟨A, hAe⟩ : ∃ A, A = va_A (wM cI b L v0) s.heap.size := ⟨_, rfl⟩
  rw [← hAe] at hD
  have hA : ∀ q : Nat, s.heap.size ≤ q → A q := fun q h => by rw [hAe]; exact Or.inr h
  have hS : va_S A s.heap s.heap [] := va_S.rf
  have hl := lv_entry ([.ref (b 0), .int x0, .int x1]) (n := 3) (Nat.le_of_ble_eq_true rfl)
  rw [lg_entry_eq]
  generalize (lg_sl ([.ref (b 0), .int x0, .int x1]) ++ List.replicate (3 - (lg_sl ([.ref (b 0), .int x0, .int x1])).length) Slot.unset).toArray = ls at hl ⊢
  have hl : lv_has ls 3 [(0, .ref (b 0)), (1, .int x0), (2, .int x1)] := hl
  obtain ⟨v, hv9⟩ : ∃ v : SU, v = v0 := ⟨_, rfl⟩
  rw [← hv9] at hP hD hV
  refine lv_aload_n hx hb dX12_joins_0 rfl (lv_at hl 0 rfl) ?_
  refine lv_dup hx hb dX12_joins_1 rfl ?_
  refine va_get (D := D) (ci := 12) (v := .int (v 0 15)) (C := RX12) (T := TX12) (N := 24) hx hb hts hin12 hown hK hP 0 rfl rfl 15 (by decide) (hts (.fieldLink RX12 184 "MissedPointsModel" "news" "I") (by decide +kernel)) (fun _ h9 => h9) rfl dX12_joins_2 ?_
  refine wk_topP (P := fun r => r = v 0 15) rfl (fun r20214 hr20214 => ?_)
  refine lv_aload_n hx hb dX12_joins_5 rfl (lv_at hl 0 rfl) ?_
  refine va_get (D := D) (ci := 12) (v := .ref (b 1)) (C := RX12) (T := TX12) (N := 24) hx hb hts hin12 hown hK hP 0 rfl rfl 2 (by decide) (hts (.fieldLink RX12 13 "MissedPointsModel" "near" "[I") (by decide +kernel)) (fun _ h9 => h9) rfl dX12_joins_6 ?_
  refine lv_iload_n hx hb dX12_joins_9 rfl (lv_at hl 1 rfl) ?_
  refine wk_ald hx hb hK hP 1 0 rfl rfl (rg_in px0 (by decide) (by decide)) dX12_joins_10 hV.1 (fun r20215 hr20215 => ?_)
  refine lv_iload_n hx hb dX12_joins_11 rfl (lv_at hl 2 rfl) ?_
  refine lz_ss (As := [.int r20215, .int x1]) (rest := [.int r20214, .ref (b 0)]) ⟨hx, hb, hml, hown, hts⟩ (w_X12_has l D cI cS r20215 x1) hKK (hP.sub (ws' := []) [] rfl) (va_cwS 2 hts gX12_joins_X12_has rfl rfl rfl (by decide +kernel) ⟨Nat.le_of_ble_eq_true rfl, Nat.le_of_ble_eq_true rfl⟩) rfl hl.1 rfl (Nat.le_of_ble_eq_true rfl) dX12_joins_12 ⟨Nat.le_of_ble_eq_true rfl, Nat.le_of_ble_eq_true rfl⟩ (fun r20216 hr20216 => ?_)
  refine lv_if_eq (tgt := 22) hx hb dX12_joins_15 (by decide) (fun c20217 => ?_) (fun c20217 => ?_)
  · have g20218 : Rg 0 0 r20216 := wk_eql hr20216.1 (by decide : Rg 0 0 (0 : Int32)) c20217 (by decide)
    refine lv_iconst (v := 1) hx hb dX12_joins_22 (by decide) ?_
    refine lv_iadd hx hb dX12_joins_23 ?_
    refine wk_topP (P := fun r => r = r20214 + (1 : Int32)) rfl (fun r20219 qr20219 => ?_)
    refine mp_15 hx hb hts hin12 hown hK hP hD hS hV (hts (.fieldLink RX12 184 "MissedPointsModel" "news" "I") (by decide +kernel)) dX12_joins_24 (fun v H locs hV ev20220 hP hD hS => ?_)
    refine lv_aload_n hx hb dX12_joins_27 rfl (lv_at hl 0 rfl) ?_
    refine lv_iload_n hx hb dX12_joins_28 rfl (lv_at hl 1 rfl) ?_
    refine lv_iload_n hx hb dX12_joins_29 rfl (lv_at hl 2 rfl) ?_
    refine lv_iconst (v := 1) hx hb dX12_joins_30 (by decide) ?_
    refine wk_qv (wM cI b L) v (As := [.int x0, .int x1, .int 1]) (rest := []) ⟨hx, hb, hml, hown, hts⟩ (w_X12_lays l D cI cS _ b L v hL hV x0 x1 (1 : Int32) px0 px1 (by decide : Rg 0 1 (1 : Int32))) hKK hP hD hS hA 0 (ci := 12) rfl rfl (cwV 3 hts gX12_joins_X12_lays rfl rfl rfl (by decide +kernel) ⟨Nat.le_of_ble_eq_true rfl, Nat.le_of_ble_eq_true rfl⟩) rfl hl.1 rfl (Nat.le_of_ble_eq_true rfl) dX12_joins_31 ⟨Nat.le_of_ble_eq_true rfl, Nat.le_of_ble_eq_true rfl⟩ (fun v H locs hr20221 hP hD hS => ?_)
    have hV := hr20221.1
    subst hAe
    exact W.vret hx hb hr (fun t ht hW => ⟨⟨v, rfl, ⟨hV, trivial⟩, by rw [ht]; exact hP, hD⟩, hS.F ht⟩) hS.2.2 dX12_joins_34
  · have g20222 : Rg 1 1 r20216 := rg_ne_lo (k := 0) hr20216.1 (by decide) c20217 (by decide)
    refine lv_iconst (v := 0) hx hb dX12_joins_18 (by decide) ?_
    refine lv_goto (tgt := 23) hx hb dX12_joins_19 (by decide) ?_
    refine wk_iadd (e1 := (-2147483648)) (f := 2147483647) hx hb dX12_joins_23 (rg_any r20214) (by decide : Rg 0 0 (0 : Int32)) (by decide) (fun r20223 hr20223 er20223 qr20223 => ?_)
    refine mp_15 hx hb hts hin12 hown hK hP hD hS hV (hts (.fieldLink RX12 184 "MissedPointsModel" "news" "I") (by decide +kernel)) dX12_joins_24 (fun v H locs hV ev20224 hP hD hS => ?_)
    refine lv_aload_n hx hb dX12_joins_27 rfl (lv_at hl 0 rfl) ?_
    refine lv_iload_n hx hb dX12_joins_28 rfl (lv_at hl 1 rfl) ?_
    refine lv_iload_n hx hb dX12_joins_29 rfl (lv_at hl 2 rfl) ?_
    refine lv_iconst (v := 1) hx hb dX12_joins_30 (by decide) ?_
    refine wk_qv (wM cI b L) v (As := [.int x0, .int x1, .int 1]) (rest := []) ⟨hx, hb, hml, hown, hts⟩ (w_X12_lays l D cI cS _ b L v hL hV x0 x1 (1 : Int32) px0 px1 (by decide : Rg 0 1 (1 : Int32))) hKK hP hD hS hA 0 (ci := 12) rfl rfl (cwV 3 hts gX12_joins_X12_lays rfl rfl rfl (by decide +kernel) ⟨Nat.le_of_ble_eq_true rfl, Nat.le_of_ble_eq_true rfl⟩) rfl hl.1 rfl (Nat.le_of_ble_eq_true rfl) dX12_joins_31 ⟨Nat.le_of_ble_eq_true rfl, Nat.le_of_ble_eq_true rfl⟩ (fun v H locs hr20225 hP hD hS => ?_)
    have hV := hr20225.1
    subst hAe
    exact W.vret hx hb hr (fun t ht hW => ⟨⟨v, rfl, ⟨hV, trivial⟩, by rw [ht]; exact hP, hD⟩, hS.F ht⟩) hS.2.2 dX12_joins_34
def zsN (z : Int32) : Int32 := z * (1103515245 : Int32) + (12345 : Int32)
def zin (z : Int32) : Nat → Int32
  | 0 => z
  | k + 1 => zsN (zin z k)
def zout (n : Nat) (z : Int32) : Nat → Int32
  | 0 => z
  | a + 1 => zin (zout n z a) (n - 1 - a)
theorem zo_0 {n : Nat} {z : Int32} : z = zout n z (0 : Int32).toNatClampNeg := rfl
theorem zi_0 {n : Nat} {z y a b : Int32} (h : y = zout n z a.toNatClampNeg) (ha : 0 ≤ a.toInt) (hb : b.toInt = a.toInt + 1) : y = zin (zout n z a.toNatClampNeg) (b.toNatClampNeg - a.toNatClampNeg - 1) := by
  have e1 : a.toNatClampNeg = a.toInt.toNat := rfl
  have e2 : b.toNatClampNeg = b.toInt.toNat := rfl
  rw [show b.toNatClampNeg - a.toNatClampNeg - 1 = 0 by omega]
  exact h
theorem zi_1 {n : Nat} {z y y2 a b b2 : Int32} (h : y = zin (zout n z a.toNatClampNeg) (b.toNatClampNeg - a.toNatClampNeg - 1)) (ha : 0 ≤ a.toInt) (hab : a.toInt < b.toInt) (hb : b2.toInt = b.toInt + 1) (hy : y2 = zsN y) : y2 = zin (zout n z a.toNatClampNeg) (b2.toNatClampNeg - a.toNatClampNeg - 1) := by
  have e1 : a.toNatClampNeg = a.toInt.toNat := rfl
  have e2 : b.toNatClampNeg = b.toInt.toNat := rfl
  have e3 : b2.toNatClampNeg = b2.toInt.toNat := rfl
  rw [show b2.toNatClampNeg - a.toNatClampNeg - 1 = (b.toNatClampNeg - a.toNatClampNeg - 1) + 1 by omega, hy, h]
  rfl
theorem zi_2 {z y a a2 b n : Int32} (h : y = zin (zout n.toNatClampNeg z a.toNatClampNeg) (b.toNatClampNeg - a.toNatClampNeg - 1)) (ha : 0 ≤ a.toInt) (hab : a.toInt < b.toInt) (hb : b.toInt = n.toInt) (h2 : a2.toInt = a.toInt + 1) : y = zout n.toNatClampNeg z a2.toNatClampNeg := by
  have e1 : a.toNatClampNeg = a.toInt.toNat := rfl
  have e2 : b.toNatClampNeg = b.toInt.toNat := rfl
  have e3 : a2.toNatClampNeg = a2.toInt.toNat := rfl
  have e4 : n.toNatClampNeg = n.toInt.toNat := rfl
  rw [show a2.toNatClampNeg = a.toNatClampNeg + 1 by omega, h, show b.toNatClampNeg - a.toNatClampNeg - 1 = n.toNatClampNeg - 1 - a.toNatClampNeg by omega]
  rfl
theorem zo_1 {z y a n : Int32} (h : y = zout n.toNatClampNeg z a.toNatClampNeg) (hb : a.toInt = n.toInt) : y.toInt = (zout n.toNatClampNeg z n.toNatClampNeg).toInt := by
  rw [h, Int32.toInt_inj.mp hb]
set_option maxHeartbeats 4000000 in
set_option maxRecDepth 100000 in
theorem w_X12_draw (l : Launch) (D : va_G) (cI cS : ClassId) (sz : Nat) (b : Nat → Nat) (l_m l_z l_tp l_hs l_to l_tk l_wo : Int32) (l_so l_sz l_kp : Nat → Int32) (v0 : SU) (hL : TyL (mkM l_m l_z l_tp l_hs l_to l_tk l_wo l_so l_sz l_kp)) (hV : TyV v0) : Met l yX12_draw wsX12_draw ({ frames := 0, cells := 0, slots := 0, locals := 0 }) (PQ D cI cS (wM cI b (mkM l_m l_z l_tp l_hs l_to l_tk l_wo l_so l_sz l_kp) v0) sz [.ref (b 0)]) (QF (S := Int32 × SU) D (wM cI b (mkM l_m l_z l_tp l_hs l_to l_tk l_wo l_so l_sz l_kp) v0) (fun q => wM cI b (mkM l_m q.1 l_tp l_hs l_to l_tk l_wo l_so l_sz l_kp) q.2) sz (fun r q => TyV q.2 ∧ Rg (-2147483648) 2147483647 r ∧ (q.1 = zsN l_z))) 0 0 (va_A (wM cI b (mkM l_m l_z l_tp l_hs l_to l_tk l_wo l_so l_sz l_kp) v0) sz) := by
  refine Met.ofW (cc := cX12_draw) (maxL := 1) (ret := (some .int)) (by decide) rfl ?_
  intro p e s m args below meth c s₁ B hml hv
  obtain ⟨rfl, hsz, hP, hKK, hD0⟩ := hv
  have hx := B.exec
  have hb := B.bytes
  have hr := B.returns
  have hts := atoms_spec (ws := wsX12_draw) B.pre
  have hown : s.vm.findClass RX12 = some m.cls := findClass_of_methodNamed B.named
  have hlocks := B.notSynchronized
  have hK := hKK.1
  have hin12 : ∀ w ∈ wsX120, w ∈ wsX12_draw := by decide +kernel
  subst hsz
  have hD := hD0.self (sz := s.heap.size)
  obtain ⟨A, hAe⟩ : ∃ A, A = va_A (wM cI b (mkM l_m l_z l_tp l_hs l_to l_tk l_wo l_so l_sz l_kp) v0) s.heap.size := ⟨_, rfl⟩
  rw [← hAe] at hD
  have hA : ∀ q : Nat, s.heap.size ≤ q → A q := fun q h => by rw [hAe]; exact Or.inr h
  have hS : va_S A s.heap s.heap [] := va_S.rf
  have hl := lv_entry ([.ref (b 0)]) (n := 1) (Nat.le_of_ble_eq_true rfl)
  rw [lg_entry_eq]
  generalize (lg_sl ([.ref (b 0)]) ++ List.replicate (1 - (lg_sl ([.ref (b 0)])).length) Slot.unset).toArray = ls at hl ⊢
  have hl : lv_has ls 1 [(0, .ref (b 0))] := hl
  obtain ⟨v, hv9⟩ : ∃ v : SU, v = v0 := ⟨_, rfl⟩
  rw [← hv9] at hP hD hV
  have p_m : Rg 0 12 l_m := hL.1
  have p_tp : Rg 0 120 l_tp := hL.2.1
  have p_so : Ar (-1) 1 l_so := hL.2.2.1
  have p_sz : Ar 0 40 l_sz := hL.2.2.2.1
  have p_kp : Kp l_kp := hL.2.2.2.2.1
  have p_to : Rg 0 120 l_to := hL.2.2.2.2.2
  refine lv_aload_n hx hb dX12_draw_0 rfl (lv_at hl 0 rfl) ?_
  refine lv_aload_n hx hb dX12_draw_1 rfl (lv_at hl 0 rfl) ?_
  refine va_get (D := D) (ci := 12) (v := .int l_z) (C := RX12) (T := TX12) (N := 24) hx hb hts hin12 hown hK hP 0 rfl rfl 1 (by decide) (hts (.fieldLink RX12 7 "MissedPointsModel" "z" "I") (by decide +kernel)) (fun _ h9 => h9) rfl dX12_draw_2 ?_
  refine lv_ldc hx hb hown (hts (.constant RX12 215 (1103515245)) (by decide +kernel)) dX12_draw_5 ?_
  refine lv_imul hx hb dX12_draw_7 ?_
  refine wk_topP (P := fun r => r = l_z * (1103515245 : Int32)) rfl (fun r20229 qr20229 => ?_)
  refine lv_sipush (v := 12345) hx hb dX12_draw_8 (by decide) ?_
  refine lv_iadd hx hb dX12_draw_11 ?_
  refine wk_topP (P := fun r => r = r20229 + (12345 : Int32)) rfl (fun r20230 qr20230 => ?_)
  refine va_put (D := D) (ci := 12) (v := .int r20230) (ty := .int) (C := RX12) (T := TX12) (N := 24) hx hb hts hin12 tyX12 tyX12_ok nmX12 hown hK hP hD hS 0 rfl rfl 1 (by decide) (hts (.fieldLink RX12 7 "MissedPointsModel" "z" "I") (by decide +kernel)) (fun _ h9 => h9) rfl (by decide +kernel) rfl rfl (Nat.le_of_ble_eq_true rfl) dX12_draw_12 (fun H locs hP hD hS => ?_)
  have hP : va_P D cls (wM cI b (mkM l_m r20230 l_tp l_hs l_to l_tk l_wo l_so l_sz l_kp) v) H := hP
  have hD : va_D A (wM cI b (mkM l_m r20230 l_tp l_hs l_to l_tk l_wo l_so l_sz l_kp) v) := hD
  refine lv_aload_n hx hb dX12_draw_15 rfl (lv_at hl 0 rfl) ?_
  refine va_get (D := D) (ci := 12) (v := .int r20230) (C := RX12) (T := TX12) (N := 24) hx hb hts hin12 hown hK hP 0 rfl rfl 1 (by decide) (hts (.fieldLink RX12 7 "MissedPointsModel" "z" "I") (by decide +kernel)) (fun _ h9 => h9) rfl dX12_draw_16 ?_
  refine lv_bipush (v := 16) hx hb dX12_draw_19 (by decide) ?_
  refine lv_iushr hx hb dX12_draw_21 rfl ?_
  refine wk_any (fun r20231 => ?_)
  subst hAe
  exact W.iret (v := r20231) hx hb hr (fun t ht hW => ⟨⟨_, (r20230, v), rfl, ⟨hV, (rg_any r20231), (by rw [qr20230, qr20229]; rfl)⟩, by rw [ht]; exact hP, hD⟩, hS.F ht⟩) hS.2.2 dX12_draw_22
set_option maxHeartbeats 4000000 in
set_option maxRecDepth 100000 in
theorem w_X12_deals (l : Launch) (D : va_G) (cI cS : ClassId) (sz : Nat) (b : Nat → Nat) (l_m l_z l_tp l_hs l_to l_tk l_wo : Int32) (l_so l_sz l_kp : Nat → Int32) (v0 : SU) (hL : TyL (mkM l_m l_z l_tp l_hs l_to l_tk l_wo l_so l_sz l_kp)) (hV : TyV v0) (x0 x1 : Int32) (px0 : Rg 0 12 x0) : Met l yX12_deals wsX12_deals ({ frames := 1, cells := 0, slots := 0, locals := 40 }) (PQ D cI cS (wM cI b (mkM l_m l_z l_tp l_hs l_to l_tk l_wo l_so l_sz l_kp) v0) sz [.ref (b 0), .int x0, .int x1]) (QE (S := Int32 × Int32 × SU) D (wM cI b (mkM l_m l_z l_tp l_hs l_to l_tk l_wo l_so l_sz l_kp) v0) (fun q => wM cI b (mkM q.1 q.2.1 l_tp l_hs l_to l_tk l_wo l_so l_sz l_kp) q.2.2) sz (fun q => TyV q.2.2 ∧ Rg 0 12 q.1 ∧ (q.1.toInt = x0.toInt) ∧ (q.2.1.toInt = (zout x0.toNatClampNeg l_z x0.toNatClampNeg).toInt))) 0 0 (va_A (wM cI b (mkM l_m l_z l_tp l_hs l_to l_tk l_wo l_so l_sz l_kp) v0) sz) := by
  refine Met.ofW (cc := cX12_deals) (maxL := 5) (ret := none) (by decide) rfl ?_
  intro p e s m args below meth c s₁ B hml hv
  obtain ⟨rfl, hsz, hP, hKK, hD0⟩ := hv
  have hx := B.exec
  have hb := B.bytes
  have hr := B.returns
  have hts := atoms_spec (ws := wsX12_deals) B.pre
  have hown : s.vm.findClass RX12 = some m.cls := findClass_of_methodNamed B.named
  have hlocks := B.notSynchronized
  have hK := hKK.1
  have hin12 : ∀ w ∈ wsX120, w ∈ wsX12_deals := by decide +kernel
  subst hsz
  have hD := hD0.self (sz := s.heap.size)
  obtain ⟨A, hAe⟩ : ∃ A, A = va_A (wM cI b (mkM l_m l_z l_tp l_hs l_to l_tk l_wo l_so l_sz l_kp) v0) s.heap.size := ⟨_, rfl⟩
  rw [← hAe] at hD
  have hA : ∀ q : Nat, s.heap.size ≤ q → A q := fun q h => by rw [hAe]; exact Or.inr h
  have hS : va_S A s.heap s.heap [] := va_S.rf
  have hl := lv_entry ([.ref (b 0), .int x0, .int x1]) (n := 5) (Nat.le_of_ble_eq_true rfl)
  rw [lg_entry_eq]
  generalize (lg_sl ([.ref (b 0), .int x0, .int x1]) ++ List.replicate (5 - (lg_sl ([.ref (b 0), .int x0, .int x1])).length) Slot.unset).toArray = ls at hl ⊢
  have hl : lv_has ls 5 [(0, .ref (b 0)), (1, .int x0), (2, .int x1)] := hl
  obtain ⟨v, hv9⟩ : ∃ v : SU, v = v0 := ⟨_, rfl⟩
  rw [← hv9] at hP hD hV
  have p_m : Rg 0 12 l_m := hL.1
  have p_tp : Rg 0 120 l_tp := hL.2.1
  have p_so : Ar (-1) 1 l_so := hL.2.2.1
  have p_sz : Ar 0 40 l_sz := hL.2.2.2.1
  have p_kp : Kp l_kp := hL.2.2.2.2.1
  have p_to : Rg 0 120 l_to := hL.2.2.2.2.2
  have lp27 : ∀ (n27 : Nat) (y27_l3 : Int32) (y27_kz : Int32) (v : SU) (H : Heap) (locs : List Loc) (ls : Array Slot), Rg 0 12 x0 → Rg 0 12 y27_l3 → Rg 0 12 x0 → (y27_kz = zout x0.toNatClampNeg l_z y27_l3.toNatClampNeg ∧ y27_l3.toInt ≤ x0.toInt) → TyV v → va_P D cls (wM cI b (mkM x0 y27_kz l_tp l_hs l_to l_tk l_wo l_so l_sz l_kp) v) H → va_D A (wM cI b (mkM x0 y27_kz l_tp l_hs l_to l_tk l_wo l_so l_sz l_kp) v) → va_S A s.heap H locs → lv_has ls 5 [(0, .ref (b 0)), (1, .int x0), (2, .int x1), (3, .int y27_l3)] → 12 - y27_l3.toInt < (n27 : Int) → W p l e (headSpec wsX12_deals ({ frames := 1, cells := 0, slots := 0, locals := 40 })).room s m ([.ref (b 0), .int x0, .int x1]).toArray below meth c H locs 0 0 (MQ below (QE (S := Int32 × Int32 × SU) D (wM cI b (mkM l_m l_z l_tp l_hs l_to l_tk l_wo l_so l_sz l_kp) v0) (fun q => wM cI b (mkM q.1 q.2.1 l_tp l_hs l_to l_tk l_wo l_so l_sz l_kp) q.2.2) s.heap.size (fun q => TyV q.2.2 ∧ Rg 0 12 q.1 ∧ (q.1.toInt = x0.toInt) ∧ (q.2.1.toInt = (zout x0.toNatClampNeg l_z x0.toNatClampNeg).toInt))) ([.ref (b 0), .int x0, .int x1]).toArray s 0 0 (va_A (wM cI b (mkM l_m l_z l_tp l_hs l_to l_tk l_wo l_so l_sz l_kp) v0) s.heap.size)) (F0 m 27 ls []) := by
    intro n27
    induction n27 with
    | zero =>
      intro y27_l3 y27_kz v H locs ls g27_l1 g27_l3 g27_km x27_0 hV hP hD hS hl hm27
      exact absurd rfl (me_z g27_l3 hm27)
    | succ n27 ih27 =>
      intro y27_l3 y27_kz v H locs ls g27_l1 g27_l3 g27_km x27_0 hV hP hD hS hl hm27
      have lp37 : ∀ (n37 : Nat) (y37_l4 : Int32) (y37_kz : Int32) (v : SU) (H : Heap) (locs : List Loc) (ls : Array Slot), Rg 1 12 x0 → Rg 0 11 y27_l3 → Rg 1 12 y37_l4 → Rg 1 12 x0 → (y37_kz = zin (zout x0.toNatClampNeg l_z y27_l3.toNatClampNeg) (y37_l4.toNatClampNeg - y27_l3.toNatClampNeg - 1) ∧ y27_l3.toInt < y37_l4.toInt ∧ y37_l4.toInt ≤ x0.toInt) → TyV v → va_P D cls (wM cI b (mkM x0 y37_kz l_tp l_hs l_to l_tk l_wo l_so l_sz l_kp) v) H → va_D A (wM cI b (mkM x0 y37_kz l_tp l_hs l_to l_tk l_wo l_so l_sz l_kp) v) → va_S A s.heap H locs → lv_has ls 5 [(0, .ref (b 0)), (1, .int x0), (2, .int x1), (3, .int y27_l3), (4, .int y37_l4)] → 12 - y37_l4.toInt < (n37 : Int) → W p l e (headSpec wsX12_deals ({ frames := 1, cells := 0, slots := 0, locals := 40 })).room s m ([.ref (b 0), .int x0, .int x1]).toArray below meth c H locs 0 0 (MQ below (QE (S := Int32 × Int32 × SU) D (wM cI b (mkM l_m l_z l_tp l_hs l_to l_tk l_wo l_so l_sz l_kp) v0) (fun q => wM cI b (mkM q.1 q.2.1 l_tp l_hs l_to l_tk l_wo l_so l_sz l_kp) q.2.2) s.heap.size (fun q => TyV q.2.2 ∧ Rg 0 12 q.1 ∧ (q.1.toInt = x0.toInt) ∧ (q.2.1.toInt = (zout x0.toNatClampNeg l_z x0.toNatClampNeg).toInt))) ([.ref (b 0), .int x0, .int x1]).toArray s 0 0 (va_A (wM cI b (mkM l_m l_z l_tp l_hs l_to l_tk l_wo l_so l_sz l_kp) v0) s.heap.size)) (F0 m 37 ls []) := by
        intro n37
        induction n37 with
        | zero =>
          intro y37_l4 y37_kz v H locs ls g37_l1 g37_l3 g37_l4 g37_km x37_0 hV hP hD hS hl hm37
          exact absurd rfl (me_z g37_l4 hm37)
        | succ n37 ih37 =>
          intro y37_l4 y37_kz v H locs ls g37_l1 g37_l3 g37_l4 g37_km x37_0 hV hP hD hS hl hm37
          refine lv_iload hx hb dX12_deals_37 (lv_at hl 4 rfl) ?_
          refine lv_iload_n hx hb dX12_deals_39 rfl (lv_at hl 1 rfl) ?_
          refine lv_icmp_ge (tgt := 68) hx hb dX12_deals_40 (by decide) (fun c20422 => ?_) (fun c20422 => ?_)
          · refine wk_iinc (lv' := fun r => [(3, .int r), (0, .ref (b 0)), (1, .int x0), (2, .int x1), (4, .int y37_l4)]) (e1 := 1) (f := 12) hx hb dX12_deals_68 hl (k := 3) rfl (by decide) g37_l3 (by decide) (fun _ => rfl) (fun r20423 ls hr20423 er20423 hl => ?_)
            refine lv_goto (tgt := 27) hx hb dX12_deals_71 (by decide) ?_
            exact ih27 r20423 y37_kz v _ _ ls (show Rg 0 12 x0 from rg_w g37_l1 (by decide) (by decide)) (show Rg 0 12 r20423 from rg_w hr20423 (by decide) (by decide)) (show Rg 0 12 x0 from rg_w g37_km (by decide) (by decide)) (by have y90 : x0.toInt ≤ y37_l4.toInt := (lz_le _ _).mp c20422; have y91 : Rg 1 12 x0 := g37_l1; have y92 : Rg 1 12 r20423 := hr20423; have y93 : Rg 1 12 y37_l4 := g37_l4; have y94 : Rg 1 12 x0 := g37_km; have y95 : Rg 0 120 l_tp := p_tp; have y96 : Rg 0 120 l_to := p_to; have y9c7 : (0 : Int32).toInt = 0 := (by decide); have y9c8 : (1 : Int32).toInt = 1 := (by decide); exact ⟨zi_2 (b := y37_l4) x37_0.1 g27_l3.1 (by omega) (by omega) er20423, by omega⟩) hV hP hD hS (lv_sub (l' := [(0, .ref (b 0)), (1, .int x0), (2, .int x1), (3, .int r20423)]) hl [1, 2, 3, 0] rfl) (me_up hm27 er20423 (by decide))
          · have g20424 : Rg 2 12 x0 := rg_ltr g37_l4 g37_l1 (rg_nle c20422) (by decide)
            have g20425 : Rg 1 11 y37_l4 := rg_ltl g37_l4 g37_l1 (rg_nle c20422) (by decide)
            refine lv_aload_n hx hb dX12_deals_43 rfl (lv_at hl 0 rfl) ?_
            refine wk_qi (S := Int32 × SU) (fun q => wM cI b (mkM x0 q.1 l_tp l_hs l_to l_tk l_wo l_so l_sz l_kp) q.2) (y37_kz, v) (As := []) (rest := []) ⟨hx, hb, hml, hown, hts⟩ (w_X12_draw l D cI cS _ b x0 y37_kz l_tp l_hs l_to l_tk l_wo l_so l_sz l_kp v (show TyL (mkM x0 y37_kz l_tp l_hs l_to l_tk l_wo l_so l_sz l_kp) from ⟨(show Rg 0 12 x0 from rg_w g20424 (by decide) (by decide)), p_tp, p_so, p_sz, p_kp, p_to⟩) hV) hKK hP hD hS hA 0 (ci := 12) rfl rfl (cwV 0 hts gX12_deals_X12_draw rfl rfl rfl (by decide +kernel) ⟨Nat.le_of_ble_eq_true rfl, Nat.le_of_ble_eq_true rfl⟩) rfl hl.1 rfl (Nat.le_of_ble_eq_true rfl) dX12_deals_44 ⟨Nat.le_of_ble_eq_true rfl, Nat.le_of_ble_eq_true rfl⟩ (fun r20426 q9 H locs hr20426 hP hD hS => ?_)
            obtain ⟨r20427, v⟩ := q9
            have hr20426 : TyV v ∧ Rg (-2147483648) 2147483647 r20426 ∧ (r20427 = zsN y37_kz) := hr20426
            have hV := hr20426.1
            have hP : va_P D cls (wM cI b (mkM x0 r20427 l_tp l_hs l_to l_tk l_wo l_so l_sz l_kp) v) H := hP
            have hD : va_D A (wM cI b (mkM x0 r20427 l_tp l_hs l_to l_tk l_wo l_so l_sz l_kp) v) := hD
            have kr20426_0 := hr20426.2.2
            refine lv_bipush (v := 10) hx hb dX12_deals_47 (by decide) ?_
            refine lv_irem hx hb dX12_deals_49 (by decide) ?_
            refine wk_any (fun r20428 => ?_)
            refine lv_iload_n hx hb dX12_deals_50 rfl (lv_at hl 2 rfl) ?_
            refine lv_icmp_ge (tgt := 62) hx hb dX12_deals_51 (by decide) (fun c20429 => ?_) (fun c20429 => ?_)
            · refine wk_iinc (lv' := fun r => [(4, .int r), (0, .ref (b 0)), (1, .int x0), (2, .int x1), (3, .int y27_l3)]) (e1 := 2) (f := 12) hx hb dX12_deals_62 hl (k := 4) rfl (by decide) g20425 (by decide) (fun _ => rfl) (fun r20430 ls hr20430 er20430 hl => ?_)
              refine lv_goto (tgt := 37) hx hb dX12_deals_65 (by decide) ?_
              exact ih37 r20430 r20427 v _ _ ls (show Rg 1 12 x0 from rg_w g20424 (by decide) (by decide)) g37_l3 (show Rg 1 12 r20430 from rg_w hr20430 (by decide) (by decide)) (show Rg 1 12 x0 from rg_w g20424 (by decide) (by decide)) (by have y90 : y37_l4.toInt < x0.toInt := (lz_lt _ _).mp (rg_nle c20422); have y91 : x1.toInt ≤ r20428.toInt := (lz_le _ _).mp c20429; have y92 : Rg 2 12 x0 := g20424; have y93 : Rg 1 11 y37_l4 := g20425; have y94 : Rg 2 12 x0 := g20424; have y95 : Rg 0 11 y27_l3 := g37_l3; have y96 : Rg 2 12 r20430 := hr20430; have y97 : Rg 2 12 x0 := g20424; have y98 : Rg 0 120 l_tp := p_tp; have y99 : Rg 0 120 l_to := p_to; have y9c10 : (0 : Int32).toInt = 0 := (by decide); have y9c11 : (1 : Int32).toInt = 1 := (by decide); exact ⟨zi_1 x37_0.1 g27_l3.1 (by omega) er20430 kr20426_0, by omega, by omega⟩) hV hP hD hS (lv_sub (l' := [(0, .ref (b 0)), (1, .int x0), (2, .int x1), (3, .int y27_l3), (4, .int r20430)]) hl [1, 2, 3, 4, 0] rfl) (me_up hm37 er20430 (by decide))
            · refine lv_aload_n hx hb dX12_deals_54 rfl (lv_at hl 0 rfl) ?_
              refine lv_iload_n hx hb dX12_deals_55 rfl (lv_at hl 3 rfl) ?_
              refine lv_iload hx hb dX12_deals_56 (lv_at hl 4 rfl) ?_
              refine lv_iconst (v := 1) hx hb dX12_deals_58 (by decide) ?_
              refine wk_qv (wM cI b (mkM x0 r20427 l_tp l_hs l_to l_tk l_wo l_so l_sz l_kp)) v (As := [.int y27_l3, .int y37_l4, .int 1]) (rest := []) ⟨hx, hb, hml, hown, hts⟩ (w_X12_lays l D cI cS _ b (mkM x0 r20427 l_tp l_hs l_to l_tk l_wo l_so l_sz l_kp) v (show TyL (mkM x0 r20427 l_tp l_hs l_to l_tk l_wo l_so l_sz l_kp) from ⟨(show Rg 0 12 x0 from rg_w g20424 (by decide) (by decide)), p_tp, p_so, p_sz, p_kp, p_to⟩) hV y27_l3 y37_l4 (1 : Int32) g37_l3 (show Rg 0 11 y37_l4 from rg_w g20425 (by decide) (by decide)) (by decide : Rg 0 1 (1 : Int32))) hKK hP hD hS hA 0 (ci := 12) rfl rfl (cwV 3 hts gX12_deals_X12_lays rfl rfl rfl (by decide +kernel) ⟨Nat.le_of_ble_eq_true rfl, Nat.le_of_ble_eq_true rfl⟩) rfl hl.1 rfl (Nat.le_of_ble_eq_true rfl) dX12_deals_59 ⟨Nat.le_of_ble_eq_true rfl, Nat.le_of_ble_eq_true rfl⟩ (fun v H locs hr20431 hP hD hS => ?_)
              have hV := hr20431.1
              refine wk_iinc (lv' := fun r => [(4, .int r), (0, .ref (b 0)), (1, .int x0), (2, .int x1), (3, .int y27_l3)]) (e1 := 2) (f := 12) hx hb dX12_deals_62 hl (k := 4) rfl (by decide) g20425 (by decide) (fun _ => rfl) (fun r20432 ls hr20432 er20432 hl => ?_)
              refine lv_goto (tgt := 37) hx hb dX12_deals_65 (by decide) ?_
              exact ih37 r20432 r20427 v _ _ ls (show Rg 1 12 x0 from rg_w g20424 (by decide) (by decide)) g37_l3 (show Rg 1 12 r20432 from rg_w hr20432 (by decide) (by decide)) (show Rg 1 12 x0 from rg_w g20424 (by decide) (by decide)) (by have y90 : y37_l4.toInt < x0.toInt := (lz_lt _ _).mp (rg_nle c20422); have y91 : r20428.toInt < x1.toInt := (lz_lt _ _).mp (rg_nle c20429); have y92 : Rg 2 12 x0 := g20424; have y93 : Rg 1 11 y37_l4 := g20425; have y94 : Rg 2 12 x0 := g20424; have y95 : Rg 0 11 y27_l3 := g37_l3; have y96 : Rg 2 12 r20432 := hr20432; have y97 : Rg 2 12 x0 := g20424; have y98 : Rg 0 120 l_tp := p_tp; have y99 : Rg 0 120 l_to := p_to; have y9c10 : (0 : Int32).toInt = 0 := (by decide); have y9c11 : (1 : Int32).toInt = 1 := (by decide); exact ⟨zi_1 x37_0.1 g27_l3.1 (by omega) er20432 kr20426_0, by omega, by omega⟩) hV hP hD hS (lv_sub (l' := [(0, .ref (b 0)), (1, .int x0), (2, .int x1), (3, .int y27_l3), (4, .int r20432)]) hl [1, 2, 3, 4, 0] rfl) (me_up hm37 er20432 (by decide))
      refine lv_iload_n hx hb dX12_deals_27 rfl (lv_at hl 3 rfl) ?_
      refine lv_iload_n hx hb dX12_deals_28 rfl (lv_at hl 1 rfl) ?_
      refine lv_icmp_ge (tgt := 74) hx hb dX12_deals_29 (by decide) (fun c20433 => ?_) (fun c20433 => ?_)
      · subst hAe
        exact W.vret hx hb hr (fun t ht hW => ⟨⟨(x0, y27_kz, v), rfl, ⟨hV, g27_km, (show x0.toInt = x0.toInt from by have y90 : x0.toInt ≤ y27_l3.toInt := (lz_le _ _).mp c20433; have y91 : Rg 0 12 x0 := g27_l1; have y92 : Rg 0 12 y27_l3 := g27_l3; have y93 : Rg 0 12 x0 := g27_km; have y94 : Rg 0 120 l_tp := p_tp; have y95 : Rg 0 120 l_to := p_to; have y9c6 : (0 : Int32).toInt = 0 := (by decide); have y9c7 : (1 : Int32).toInt = 1 := (by decide); omega), (zo_1 x27_0.1 (by have y90 : x0.toInt ≤ y27_l3.toInt := (lz_le _ _).mp c20433; have y91 : Rg 0 12 x0 := g27_l1; have y92 : Rg 0 12 y27_l3 := g27_l3; have y93 : Rg 0 12 x0 := g27_km; have y94 : Rg 0 120 l_tp := p_tp; have y95 : Rg 0 120 l_to := p_to; have y9c6 : (0 : Int32).toInt = 0 := (by decide); have y9c7 : (1 : Int32).toInt = 1 := (by decide); omega))⟩, by rw [ht]; exact hP, hD⟩, hS.F ht⟩) hS.2.2 dX12_deals_74
      · have g20434 : Rg 1 12 x0 := rg_ltr g27_l3 g27_l1 (rg_nle c20433) (by decide)
        have g20435 : Rg 0 11 y27_l3 := rg_ltl g27_l3 g27_l1 (rg_nle c20433) (by decide)
        refine lv_iload_n hx hb dX12_deals_32 rfl (lv_at hl 3 rfl) ?_
        refine lv_iconst (v := 1) hx hb dX12_deals_33 (by decide) ?_
        refine wk_iadd (e1 := 1) (f := 12) hx hb dX12_deals_34 g20435 (by decide : Rg 1 1 (1 : Int32)) (by decide) (fun r20436 hr20436 er20436 qr20436 => ?_)
        refine lv_istore (lv' := [(4, .int r20436), (0, .ref (b 0)), (1, .int x0), (2, .int x1), (3, .int y27_l3)]) hx hb dX12_deals_35 hl (by decide) rfl (fun ls hl => ?_)
        exact lp37 12 r20436 y27_kz v _ _ ls g20434 g20435 hr20436 g20434 (by have y90 : y27_l3.toInt < x0.toInt := (lz_lt _ _).mp (rg_nle c20433); have y91 : Rg 1 12 x0 := g20434; have y92 : Rg 0 11 y27_l3 := g20435; have y93 : Rg 1 12 x0 := g20434; have y94 : Rg 0 11 y27_l3 := g20435; have y95 : Rg 1 12 r20436 := hr20436; have y96 : Rg 1 12 x0 := g20434; have y97 : Rg 0 120 l_tp := p_tp; have y98 : Rg 0 120 l_to := p_to; have y9c9 : (0 : Int32).toInt = 0 := (by decide); have y9c10 : (1 : Int32).toInt = 1 := (by decide); exact ⟨zi_0 x27_0.1 g27_l3.1 er20436, by omega, by omega⟩) hV hP hD hS (lv_sub (l' := [(0, .ref (b 0)), (1, .int x0), (2, .int x1), (3, .int y27_l3), (4, .int r20436)]) hl [1, 2, 3, 4, 0] rfl) (me_i hr20436 (by decide))
  have lp7 : ∀ (n7 : Nat) (y7_l3 : Int32) (v : SU) (H : Heap) (locs : List Loc) (ls : Array Slot), Rg 0 12 x0 → Rg 0 12 y7_l3 → Rg 0 12 x0 → TyV v → va_P D cls (wM cI b (mkM x0 l_z l_tp l_hs l_to l_tk l_wo l_so l_sz l_kp) v) H → va_D A (wM cI b (mkM x0 l_z l_tp l_hs l_to l_tk l_wo l_so l_sz l_kp) v) → va_S A s.heap H locs → lv_has ls 5 [(0, .ref (b 0)), (1, .int x0), (2, .int x1), (3, .int y7_l3)] → 12 - y7_l3.toInt < (n7 : Int) → W p l e (headSpec wsX12_deals ({ frames := 1, cells := 0, slots := 0, locals := 40 })).room s m ([.ref (b 0), .int x0, .int x1]).toArray below meth c H locs 0 0 (MQ below (QE (S := Int32 × Int32 × SU) D (wM cI b (mkM l_m l_z l_tp l_hs l_to l_tk l_wo l_so l_sz l_kp) v0) (fun q => wM cI b (mkM q.1 q.2.1 l_tp l_hs l_to l_tk l_wo l_so l_sz l_kp) q.2.2) s.heap.size (fun q => TyV q.2.2 ∧ Rg 0 12 q.1 ∧ (q.1.toInt = x0.toInt) ∧ (q.2.1.toInt = (zout x0.toNatClampNeg l_z x0.toNatClampNeg).toInt))) ([.ref (b 0), .int x0, .int x1]).toArray s 0 0 (va_A (wM cI b (mkM l_m l_z l_tp l_hs l_to l_tk l_wo l_so l_sz l_kp) v0) s.heap.size)) (F0 m 7 ls []) := by
    intro n7
    induction n7 with
    | zero =>
      intro y7_l3 v H locs ls g7_l1 g7_l3 g7_km hV hP hD hS hl hm7
      exact absurd rfl (me_z g7_l3 hm7)
    | succ n7 ih7 =>
      intro y7_l3 v H locs ls g7_l1 g7_l3 g7_km hV hP hD hS hl hm7
      refine lv_iload_n hx hb dX12_deals_7 rfl (lv_at hl 3 rfl) ?_
      refine lv_iload_n hx hb dX12_deals_8 rfl (lv_at hl 1 rfl) ?_
      refine lv_icmp_ge (tgt := 25) hx hb dX12_deals_9 (by decide) (fun c20437 => ?_) (fun c20437 => ?_)
      · refine lv_iconst (v := 0) hx hb dX12_deals_25 (by decide) ?_
        refine lv_istore_n (lv' := [(3, .int 0), (0, .ref (b 0)), (1, .int x0), (2, .int x1)]) hx hb dX12_deals_26 rfl hl (by decide) rfl (fun ls hl => ?_)
        exact lp27 13 (0 : Int32) l_z v _ _ ls g7_l1 (by decide : Rg 0 12 (0 : Int32)) g7_km (by have y90 : x0.toInt ≤ y7_l3.toInt := (lz_le _ _).mp c20437; have y91 : Rg 0 12 x0 := g7_l1; have y92 : Rg 0 12 x0 := g7_km; have y93 : Rg 0 120 l_tp := p_tp; have y94 : Rg 0 120 l_to := p_to; have y9c5 : (0 : Int32).toInt = 0 := (by decide); have y9c6 : (1 : Int32).toInt = 1 := (by decide); exact ⟨zo_0, by omega⟩) hV hP hD hS (lv_sub (l' := [(0, .ref (b 0)), (1, .int x0), (2, .int x1), (3, .int 0)]) hl [1, 2, 3, 0] rfl) (me_i (by decide : Rg 0 12 (0 : Int32)) (by decide))
      · have g20438 : Rg 1 12 x0 := rg_ltr g7_l3 g7_l1 (rg_nle c20437) (by decide)
        have g20439 : Rg 0 11 y7_l3 := rg_ltl g7_l3 g7_l1 (rg_nle c20437) (by decide)
        refine lv_aload_n hx hb dX12_deals_12 rfl (lv_at hl 0 rfl) ?_
        refine va_get (D := D) (ci := 12) (v := .ref (b 1)) (C := RX12) (T := TX12) (N := 24) hx hb hts hin12 hown hK hP 0 rfl rfl 2 (by decide) (hts (.fieldLink RX12 13 "MissedPointsModel" "near" "[I") (by decide +kernel)) (fun _ h9 => h9) rfl dX12_deals_13 ?_
        refine lv_iload_n hx hb dX12_deals_16 rfl (lv_at hl 3 rfl) ?_
        refine lv_iconst (v := 0) hx hb dX12_deals_17 (by decide) ?_
        refine ms_1 hx hb hK hP hD hS hV rfl (rg_in g20439 (by decide) (by decide)) (by decide : Rg 0 4095 (0 : Int32)) dX12_deals_18 (fun v H locs hV ev20440 hP hD hS => ?_)
        refine wk_iinc (lv' := fun r => [(3, .int r), (0, .ref (b 0)), (1, .int x0), (2, .int x1)]) (e1 := 1) (f := 12) hx hb dX12_deals_19 hl (k := 3) rfl (by decide) g20439 (by decide) (fun _ => rfl) (fun r20441 ls hr20441 er20441 hl => ?_)
        refine lv_goto (tgt := 7) hx hb dX12_deals_22 (by decide) ?_
        exact ih7 r20441 v _ _ ls (show Rg 0 12 x0 from rg_w g20438 (by decide) (by decide)) (show Rg 0 12 r20441 from rg_w hr20441 (by decide) (by decide)) (show Rg 0 12 x0 from rg_w g20438 (by decide) (by decide)) hV hP hD hS (lv_sub (l' := [(0, .ref (b 0)), (1, .int x0), (2, .int x1), (3, .int r20441)]) hl [1, 2, 3, 0] rfl) (me_up hm7 er20441 (by decide))
  refine lv_aload_n hx hb dX12_deals_0 rfl (lv_at hl 0 rfl) ?_
  refine lv_iload_n hx hb dX12_deals_1 rfl (lv_at hl 1 rfl) ?_
  refine va_put (D := D) (ci := 12) (v := .int x0) (ty := .int) (C := RX12) (T := TX12) (N := 24) hx hb hts hin12 tyX12 tyX12_ok nmX12 hown hK hP hD hS 0 rfl rfl 0 (by decide) (hts (.fieldLink RX12 63 "MissedPointsModel" "many" "I") (by decide +kernel)) (fun _ h9 => h9) rfl (by decide +kernel) rfl rfl (Nat.le_of_ble_eq_true rfl) dX12_deals_2 (fun H locs hP hD hS => ?_)
  have hP : va_P D cls (wM cI b (mkM x0 l_z l_tp l_hs l_to l_tk l_wo l_so l_sz l_kp) v) H := hP
  have hD : va_D A (wM cI b (mkM x0 l_z l_tp l_hs l_to l_tk l_wo l_so l_sz l_kp) v) := hD
  refine lv_iconst (v := 0) hx hb dX12_deals_5 (by decide) ?_
  refine lv_istore_n (lv' := [(3, .int 0), (0, .ref (b 0)), (1, .int x0), (2, .int x1)]) hx hb dX12_deals_6 rfl hl (by decide) rfl (fun ls hl => ?_)
  exact lp7 13 (0 : Int32) v _ _ ls px0 (by decide : Rg 0 12 (0 : Int32)) px0 hV hP hD hS (lv_sub (l' := [(0, .ref (b 0)), (1, .int x0), (2, .int x1), (3, .int 0)]) hl [1, 2, 3, 0] rfl) (me_i (by decide : Rg 0 12 (0 : Int32)) (by decide))
set_option maxHeartbeats 4000000 in
set_option maxRecDepth 100000 in
theorem w_X12_deal (l : Launch) (D : va_G) (cI cS : ClassId) (sz : Nat) (b : Nat → Nat) (l_m l_z l_tp l_hs l_to l_tk l_wo : Int32) (l_so l_sz l_kp : Nat → Int32) (v0 : SU) (hL : TyL (mkM l_m l_z l_tp l_hs l_to l_tk l_wo l_so l_sz l_kp)) (hV : TyV v0) (x0 x1 : Int32) : Met l yX12_deal wsX12_deal ({ frames := 2, cells := 0, slots := 0, locals := 80 }) (PQ D cI cS (wM cI b (mkM l_m l_z l_tp l_hs l_to l_tk l_wo l_so l_sz l_kp) v0) sz [.ref (b 0), .int x0, .int x1]) (QF (S := Int32 × Int32 × SU) D (wM cI b (mkM l_m l_z l_tp l_hs l_to l_tk l_wo l_so l_sz l_kp) v0) (fun q => wM cI b (mkM q.1 q.2.1 l_tp l_hs l_to l_tk l_wo l_so l_sz l_kp) q.2.2) sz (fun r q => TyV q.2.2 ∧ Rg (-2147483648) 2147483647 r ∧ Rg 0 12 q.1 ∧ ((x0.toInt < 0 ∨ 12 < x0.toInt ∨ x1.toInt < 0 ∨ 10 < x1.toInt → q.2.1.toInt = l_z.toInt) ∧ (0 ≤ x0.toInt → x0.toInt ≤ 12 → 0 ≤ x1.toInt → x1.toInt ≤ 10 → q.2.1.toInt = (zout x0.toNatClampNeg l_z x0.toNatClampNeg).toInt)) ∧ ((x0.toInt < 0 ∨ 12 < x0.toInt ∨ x1.toInt < 0 ∨ 10 < x1.toInt → r.toInt = -2 ∧ q.1.toInt = l_m.toInt) ∧ (0 ≤ x0.toInt → x0.toInt ≤ 12 → 0 ≤ x1.toInt → x1.toInt ≤ 10 → q.1.toInt = x0.toInt)))) 0 0 (va_A (wM cI b (mkM l_m l_z l_tp l_hs l_to l_tk l_wo l_so l_sz l_kp) v0) sz) := by
  refine Met.ofW (cc := cX12_deal) (maxL := 3) (ret := (some .int)) (by decide) rfl ?_
  intro p e s m args below meth c s₁ B hml hv
  obtain ⟨rfl, hsz, hP, hKK, hD0⟩ := hv
  have hx := B.exec
  have hb := B.bytes
  have hr := B.returns
  have hts := atoms_spec (ws := wsX12_deal) B.pre
  have hown : s.vm.findClass RX12 = some m.cls := findClass_of_methodNamed B.named
  have hlocks := B.notSynchronized
  have hK := hKK.1
  subst hsz
  have hD := hD0.self (sz := s.heap.size)
  obtain ⟨A, hAe⟩ : ∃ A, A = va_A (wM cI b (mkM l_m l_z l_tp l_hs l_to l_tk l_wo l_so l_sz l_kp) v0) s.heap.size := ⟨_, rfl⟩
  rw [← hAe] at hD
  have hA : ∀ q : Nat, s.heap.size ≤ q → A q := fun q h => by rw [hAe]; exact Or.inr h
  have hS : va_S A s.heap s.heap [] := va_S.rf
  have hl := lv_entry ([.ref (b 0), .int x0, .int x1]) (n := 3) (Nat.le_of_ble_eq_true rfl)
  rw [lg_entry_eq]
  generalize (lg_sl ([.ref (b 0), .int x0, .int x1]) ++ List.replicate (3 - (lg_sl ([.ref (b 0), .int x0, .int x1])).length) Slot.unset).toArray = ls at hl ⊢
  have hl : lv_has ls 3 [(0, .ref (b 0)), (1, .int x0), (2, .int x1)] := hl
  obtain ⟨v, hv9⟩ : ∃ v : SU, v = v0 := ⟨_, rfl⟩
  rw [← hv9] at hP hD hV
  have p_m : Rg 0 12 l_m := hL.1
  have p_tp : Rg 0 120 l_tp := hL.2.1
  have p_so : Ar (-1) 1 l_so := hL.2.2.1
  have p_sz : Ar 0 40 l_sz := hL.2.2.2.1
  have p_kp : Kp l_kp := hL.2.2.2.2.1
  have p_to : Rg 0 120 l_to := hL.2.2.2.2.2
  refine lv_iload_n hx hb dX12_deal_0 rfl (lv_at hl 1 rfl) ?_
  refine lv_iconst (v := 0) hx hb dX12_deal_1 (by decide) ?_
  refine lv_bipush (v := 12) hx hb dX12_deal_2 (by decide) ?_
  refine lz_ss (As := [.int x0, .int 0, .int 12]) (rest := []) ⟨hx, hb, hml, hown, hts⟩ (w_X12_in l D cI cS x0 (0 : Int32) (12 : Int32)) hKK (hP.sub (ws' := []) [] rfl) (va_cwS 3 hts gX12_deal_X12_in rfl rfl rfl (by decide +kernel) ⟨Nat.le_of_ble_eq_true rfl, Nat.le_of_ble_eq_true rfl⟩) rfl hl.1 rfl (Nat.le_of_ble_eq_true rfl) dX12_deal_4 ⟨Nat.le_of_ble_eq_true rfl, Nat.le_of_ble_eq_true rfl⟩ (fun r20460 hr20460 => ?_)
  refine lv_if_eq (tgt := 20) hx hb dX12_deal_7 (by decide) (fun c20461 => ?_) (fun c20461 => ?_)
  · have zt20462 : (x0.toInt < (0 : Int32).toInt ∨ (12 : Int32).toInt < x0.toInt) := hr20460.2.1 c20461
    have g20463 : Rg 0 0 r20460 := wk_eql hr20460.1 (by decide : Rg 0 0 (0 : Int32)) c20461 (by decide)
    refine lv_bipush (v := (-2)) hx hb dX12_deal_20 (by decide) ?_
    subst hAe
    exact W.iret (v := (-2)) hx hb hr (fun t ht hW => ⟨⟨_, (l_m, l_z, v), rfl, ⟨hV, (by decide : Rg (-2147483648) 2147483647 ((-2) : Int32)), p_m, (show (x0.toInt < 0 ∨ 12 < x0.toInt ∨ x1.toInt < 0 ∨ 10 < x1.toInt → l_z.toInt = l_z.toInt) ∧ (0 ≤ x0.toInt → x0.toInt ≤ 12 → 0 ≤ x1.toInt → x1.toInt ≤ 10 → l_z.toInt = (zout x0.toNatClampNeg l_z x0.toNatClampNeg).toInt) from by have y90 : r20460.toInt = (0 : Int32).toInt := congrArg Int32.toInt c20461; have y91 : Rg 0 0 r20460 := g20463; have y92 : Rg 0 12 l_m := p_m; have y93 : Rg 0 120 l_tp := p_tp; have y94 : Rg 0 120 l_to := p_to; have y9c5 : ((-2) : Int32).toInt = -2 := (by decide); have y9c6 : (0 : Int32).toInt = 0 := (by decide); have y9c7 : (1 : Int32).toInt = 1 := (by decide); have y9c8 : (12 : Int32).toInt = 12 := (by decide); omega), (show (x0.toInt < 0 ∨ 12 < x0.toInt ∨ x1.toInt < 0 ∨ 10 < x1.toInt → ((-2) : Int32).toInt = -2 ∧ l_m.toInt = l_m.toInt) ∧ (0 ≤ x0.toInt → x0.toInt ≤ 12 → 0 ≤ x1.toInt → x1.toInt ≤ 10 → l_m.toInt = x0.toInt) from by have y90 : r20460.toInt = (0 : Int32).toInt := congrArg Int32.toInt c20461; have y91 : Rg 0 0 r20460 := g20463; have y92 : Rg 0 12 l_m := p_m; have y93 : Rg 0 120 l_tp := p_tp; have y94 : Rg 0 120 l_to := p_to; have y9c5 : ((-2) : Int32).toInt = -2 := (by decide); have y9c6 : (0 : Int32).toInt = 0 := (by decide); have y9c7 : (1 : Int32).toInt = 1 := (by decide); have y9c8 : (12 : Int32).toInt = 12 := (by decide); omega)⟩, by rw [ht]; exact hP, hD⟩, hS.F ht⟩) hS.2.2 dX12_deal_22
  · have zn20464 : (0 : Int32).toInt ≤ x0.toInt ∧ x0.toInt ≤ (12 : Int32).toInt := (hr20460.2.2 c20461)
    have g20465 : Rg 0 12 x0 := wk_in3 (rg_any x0) (by decide : Rg 0 0 (0 : Int32)) (by decide : Rg 12 12 (12 : Int32)) (hr20460.2.2 c20461) (by decide)
    have g20466 : Rg 1 1 r20460 := rg_ne_lo (k := 0) hr20460.1 (by decide) c20461 (by decide)
    refine lv_iload_n hx hb dX12_deal_10 rfl (lv_at hl 2 rfl) ?_
    refine lv_iconst (v := 0) hx hb dX12_deal_11 (by decide) ?_
    refine lv_bipush (v := 10) hx hb dX12_deal_12 (by decide) ?_
    refine lz_ss (As := [.int x1, .int 0, .int 10]) (rest := []) ⟨hx, hb, hml, hown, hts⟩ (w_X12_in l D cI cS x1 (0 : Int32) (10 : Int32)) hKK (hP.sub (ws' := []) [] rfl) (va_cwS 3 hts gX12_deal_X12_in rfl rfl rfl (by decide +kernel) ⟨Nat.le_of_ble_eq_true rfl, Nat.le_of_ble_eq_true rfl⟩) rfl hl.1 rfl (Nat.le_of_ble_eq_true rfl) dX12_deal_14 ⟨Nat.le_of_ble_eq_true rfl, Nat.le_of_ble_eq_true rfl⟩ (fun r20467 hr20467 => ?_)
    refine lv_if_ne (tgt := 23) hx hb dX12_deal_17 (by decide) (fun c20468 => ?_) (fun c20468 => ?_)
    · have zn20469 : (0 : Int32).toInt ≤ x1.toInt ∧ x1.toInt ≤ (10 : Int32).toInt := (hr20467.2.2 c20468)
      have g20470 : Rg 0 10 x1 := wk_in3 (rg_any x1) (by decide : Rg 0 0 (0 : Int32)) (by decide : Rg 10 10 (10 : Int32)) (hr20467.2.2 c20468) (by decide)
      have g20471 : Rg 1 1 r20467 := rg_ne_lo (k := 0) hr20467.1 (by decide) c20468 (by decide)
      refine lv_aload_n hx hb dX12_deal_23 rfl (lv_at hl 0 rfl) ?_
      refine lv_iload_n hx hb dX12_deal_24 rfl (lv_at hl 1 rfl) ?_
      refine lv_iload_n hx hb dX12_deal_25 rfl (lv_at hl 2 rfl) ?_
      refine wk_qv (S := Int32 × Int32 × SU) (fun q => wM cI b (mkM q.1 q.2.1 l_tp l_hs l_to l_tk l_wo l_so l_sz l_kp) q.2.2) (l_m, l_z, v) (As := [.int x0, .int x1]) (rest := []) ⟨hx, hb, hml, hown, hts⟩ (w_X12_deals l D cI cS _ b l_m l_z l_tp l_hs l_to l_tk l_wo l_so l_sz l_kp v (show TyL (mkM l_m l_z l_tp l_hs l_to l_tk l_wo l_so l_sz l_kp) from ⟨p_m, p_tp, p_so, p_sz, p_kp, p_to⟩) hV x0 x1 g20465) hKK hP hD hS hA 0 (ci := 12) rfl rfl (cwV 2 hts gX12_deal_X12_deals rfl rfl rfl (by decide +kernel) ⟨Nat.le_of_ble_eq_true rfl, Nat.le_of_ble_eq_true rfl⟩) rfl hl.1 rfl (Nat.le_of_ble_eq_true rfl) dX12_deal_26 ⟨Nat.le_of_ble_eq_true rfl, Nat.le_of_ble_eq_true rfl⟩ (fun q9 H locs hr20472 hP hD hS => ?_)
      obtain ⟨r20473, r20474, v⟩ := q9
      have hr20472 : TyV v ∧ Rg 0 12 r20473 ∧ (r20473.toInt = x0.toInt) ∧ (r20474.toInt = (zout x0.toNatClampNeg l_z x0.toNatClampNeg).toInt) := hr20472
      have hV := hr20472.1
      have hP : va_P D cls (wM cI b (mkM r20473 r20474 l_tp l_hs l_to l_tk l_wo l_so l_sz l_kp) v) H := hP
      have hD : va_D A (wM cI b (mkM r20473 r20474 l_tp l_hs l_to l_tk l_wo l_so l_sz l_kp) v) := hD
      have kr20472_0 := hr20472.2.2.1
      have kr20472_1 := hr20472.2.2.2
      refine lv_aload_n hx hb dX12_deal_29 rfl (lv_at hl 0 rfl) ?_
      refine wk_sv 0 (As := []) (rest := []) ⟨hx, hb, hml, hown, hts⟩ (w_X12_lines l D cI cS b (mkM r20473 r20474 l_tp l_hs l_to l_tk l_wo l_so l_sz l_kp) v (show TyL (mkM r20473 r20474 l_tp l_hs l_to l_tk l_wo l_so l_sz l_kp) from ⟨hr20472.2.1, p_tp, p_so, p_sz, p_kp, p_to⟩) hV) hKK hP (ci := 12) rfl rfl (cwV 0 hts gX12_deal_X12_lines rfl rfl rfl (by decide +kernel) ⟨Nat.le_of_ble_eq_true rfl, Nat.le_of_ble_eq_true rfl⟩) rfl hl.1 rfl (Nat.le_of_ble_eq_true rfl) dX12_deal_30 ⟨Nat.le_of_ble_eq_true rfl, Nat.le_of_ble_eq_true rfl⟩ (fun r20475 hr20475 => ?_)
      subst hAe
      exact W.iret (v := r20475) hx hb hr (fun t ht hW => ⟨⟨_, (r20473, r20474, v), rfl, ⟨hV, hr20475.1, hr20472.2.1, (show (x0.toInt < 0 ∨ 12 < x0.toInt ∨ x1.toInt < 0 ∨ 10 < x1.toInt → r20474.toInt = l_z.toInt) ∧ (0 ≤ x0.toInt → x0.toInt ≤ 12 → 0 ≤ x1.toInt → x1.toInt ≤ 10 → r20474.toInt = (zout x0.toNatClampNeg l_z x0.toNatClampNeg).toInt) from by have y90 : ¬ r20460.toInt = (0 : Int32).toInt := fun z => c20461 (Int32.toInt_inj.mp z); have y91 : ¬ r20467.toInt = (0 : Int32).toInt := fun z => c20468 (Int32.toInt_inj.mp z); have y92 : Rg 0 12 x0 := g20465; have y93 : Rg 1 1 r20460 := g20466; have y94 : Rg 0 10 x1 := g20470; have y95 : Rg 1 1 r20467 := g20471; have y96 : Rg 0 12 x0 := g20465; have y97 : Rg 0 10 x1 := g20470; have y98 : Rg (-2147483648) 2147483647 r20475 := hr20475.1; have y99 : Rg 0 12 r20473 := hr20472.2.1; have y910 : Rg 0 120 l_tp := p_tp; have y911 : Rg 0 120 l_to := p_to; have y912 : Rg (-2147483648) 2147483647 r20475 := hr20475.1; have y9c13 : (0 : Int32).toInt = 0 := (by decide); have y9c14 : (1 : Int32).toInt = 1 := (by decide); have y9c15 : (10 : Int32).toInt = 10 := (by decide); have y9c16 : (12 : Int32).toInt = 12 := (by decide); omega), (show (x0.toInt < 0 ∨ 12 < x0.toInt ∨ x1.toInt < 0 ∨ 10 < x1.toInt → r20475.toInt = -2 ∧ r20473.toInt = l_m.toInt) ∧ (0 ≤ x0.toInt → x0.toInt ≤ 12 → 0 ≤ x1.toInt → x1.toInt ≤ 10 → r20473.toInt = x0.toInt) from by have y90 : ¬ r20460.toInt = (0 : Int32).toInt := fun z => c20461 (Int32.toInt_inj.mp z); have y91 : ¬ r20467.toInt = (0 : Int32).toInt := fun z => c20468 (Int32.toInt_inj.mp z); have y92 : Rg 0 12 x0 := g20465; have y93 : Rg 1 1 r20460 := g20466; have y94 : Rg 0 10 x1 := g20470; have y95 : Rg 1 1 r20467 := g20471; have y96 : Rg 0 12 x0 := g20465; have y97 : Rg 0 10 x1 := g20470; have y98 : Rg (-2147483648) 2147483647 r20475 := hr20475.1; have y99 : Rg 0 12 r20473 := hr20472.2.1; have y910 : Rg 0 120 l_tp := p_tp; have y911 : Rg 0 120 l_to := p_to; have y912 : Rg (-2147483648) 2147483647 r20475 := hr20475.1; have y9c13 : (0 : Int32).toInt = 0 := (by decide); have y9c14 : (1 : Int32).toInt = 1 := (by decide); have y9c15 : (10 : Int32).toInt = 10 := (by decide); have y9c16 : (12 : Int32).toInt = 12 := (by decide); omega)⟩, by rw [ht]; exact hP, hD⟩, hS.F ht⟩) hS.2.2 dX12_deal_33
    · have zt20476 : (x1.toInt < (0 : Int32).toInt ∨ (10 : Int32).toInt < x1.toInt) := hr20467.2.1 c20468
      have g20477 : Rg 0 0 r20467 := wk_eql hr20467.1 (by decide : Rg 0 0 (0 : Int32)) c20468 (by decide)
      refine lv_bipush (v := (-2)) hx hb dX12_deal_20 (by decide) ?_
      subst hAe
      exact W.iret (v := (-2)) hx hb hr (fun t ht hW => ⟨⟨_, (l_m, l_z, v), rfl, ⟨hV, (by decide : Rg (-2147483648) 2147483647 ((-2) : Int32)), p_m, (show (x0.toInt < 0 ∨ 12 < x0.toInt ∨ x1.toInt < 0 ∨ 10 < x1.toInt → l_z.toInt = l_z.toInt) ∧ (0 ≤ x0.toInt → x0.toInt ≤ 12 → 0 ≤ x1.toInt → x1.toInt ≤ 10 → l_z.toInt = (zout x0.toNatClampNeg l_z x0.toNatClampNeg).toInt) from by have y90 : ¬ r20460.toInt = (0 : Int32).toInt := fun z => c20461 (Int32.toInt_inj.mp z); have y91 : r20467.toInt = (0 : Int32).toInt := congrArg Int32.toInt c20468; have y92 : Rg 0 12 x0 := g20465; have y93 : Rg 1 1 r20460 := g20466; have y94 : Rg 0 0 r20467 := g20477; have y95 : Rg 0 12 x0 := g20465; have y96 : Rg 0 12 l_m := p_m; have y97 : Rg 0 120 l_tp := p_tp; have y98 : Rg 0 120 l_to := p_to; have y9c9 : ((-2) : Int32).toInt = -2 := (by decide); have y9c10 : (0 : Int32).toInt = 0 := (by decide); have y9c11 : (1 : Int32).toInt = 1 := (by decide); have y9c12 : (10 : Int32).toInt = 10 := (by decide); have y9c13 : (12 : Int32).toInt = 12 := (by decide); omega), (show (x0.toInt < 0 ∨ 12 < x0.toInt ∨ x1.toInt < 0 ∨ 10 < x1.toInt → ((-2) : Int32).toInt = -2 ∧ l_m.toInt = l_m.toInt) ∧ (0 ≤ x0.toInt → x0.toInt ≤ 12 → 0 ≤ x1.toInt → x1.toInt ≤ 10 → l_m.toInt = x0.toInt) from by have y90 : ¬ r20460.toInt = (0 : Int32).toInt := fun z => c20461 (Int32.toInt_inj.mp z); have y91 : r20467.toInt = (0 : Int32).toInt := congrArg Int32.toInt c20468; have y92 : Rg 0 12 x0 := g20465; have y93 : Rg 1 1 r20460 := g20466; have y94 : Rg 0 0 r20467 := g20477; have y95 : Rg 0 12 x0 := g20465; have y96 : Rg 0 12 l_m := p_m; have y97 : Rg 0 120 l_tp := p_tp; have y98 : Rg 0 120 l_to := p_to; have y9c9 : ((-2) : Int32).toInt = -2 := (by decide); have y9c10 : (0 : Int32).toInt = 0 := (by decide); have y9c11 : (1 : Int32).toInt = 1 := (by decide); have y9c12 : (10 : Int32).toInt = 10 := (by decide); have y9c13 : (12 : Int32).toInt = 12 := (by decide); omega)⟩, by rw [ht]; exact hP, hD⟩, hS.F ht⟩) hS.2.2 dX12_deal_22
theorem dX12_points_24 : decode cX12_points 24 = .ok (.bipush (-4), 2) := by decide +kernel
theorem dX12_points_26 : decode cX12_points 26 = .ok (.ireturn, 1) := by decide +kernel
set_option maxHeartbeats 4000000 in
set_option maxRecDepth 100000 in
theorem w_X12_points (l : Launch) (D : va_G) (cI cS : ClassId) (sz : Nat) (b : Nat → Nat) (l_m l_z l_tp l_hs l_to l_tk l_wo : Int32) (l_so l_sz l_kp : Nat → Int32) (v0 : SU) (hL : TyL (mkM l_m l_z l_tp l_hs l_to l_tk l_wo l_so l_sz l_kp)) (hV : TyV v0) (x0 : Int32) : Met l yX12_points wsX12_points ({ frames := 1, cells := 0, slots := 0, locals := 40 }) (PQ D cI cS (wM cI b (mkM l_m l_z l_tp l_hs l_to l_tk l_wo l_so l_sz l_kp) v0) sz [.ref (b 0), .int x0]) (QF (S := Int32 × SU) D (wM cI b (mkM l_m l_z l_tp l_hs l_to l_tk l_wo l_so l_sz l_kp) v0) (fun q => wM cI b (mkM q.1 l_z l_tp l_hs l_to l_tk l_wo l_so l_sz l_kp) q.2) sz (fun r q => TyV q.2 ∧ Rg (-4) 12 r ∧ Rg 0 12 q.1 ∧ ((x0.toInt < 1 ∨ 12 < x0.toInt → r.toInt = -2 ∧ q.1.toInt = l_m.toInt) ∧ (1 ≤ x0.toInt → x0.toInt ≤ 12 → 12 < l_m.toInt + x0.toInt → r.toInt = -4 ∧ q.1.toInt = l_m.toInt) ∧ (1 ≤ x0.toInt → x0.toInt ≤ 12 → l_m.toInt + x0.toInt ≤ 12 → r.toInt = l_m.toInt + x0.toInt ∧ q.1.toInt = l_m.toInt + x0.toInt)))) 0 0 (va_A (wM cI b (mkM l_m l_z l_tp l_hs l_to l_tk l_wo l_so l_sz l_kp) v0) sz) := by
  refine Met.ofW (cc := cX12_points) (maxL := 3) (ret := (some .int)) (by decide) rfl ?_
  intro p e s m args below meth c s₁ B hml hv
  obtain ⟨rfl, hsz, hP, hKK, hD0⟩ := hv
  have hx := B.exec
  have hb := B.bytes
  have hr := B.returns
  have hts := atoms_spec (ws := wsX12_points) B.pre
  have hown : s.vm.findClass RX12 = some m.cls := findClass_of_methodNamed B.named
  have hlocks := B.notSynchronized
  have hK := hKK.1
  have hin12 : ∀ w ∈ wsX120, w ∈ wsX12_points := by decide +kernel
  subst hsz
  have hD := hD0.self (sz := s.heap.size)
  obtain ⟨A, hAe⟩ : ∃ A, A = va_A (wM cI b (mkM l_m l_z l_tp l_hs l_to l_tk l_wo l_so l_sz l_kp) v0) s.heap.size := ⟨_, rfl⟩
  rw [← hAe] at hD
  have hA : ∀ q : Nat, s.heap.size ≤ q → A q := fun q h => by rw [hAe]; exact Or.inr h
  have hS : va_S A s.heap s.heap [] := va_S.rf
  have hl := lv_entry ([.ref (b 0), .int x0]) (n := 3) (Nat.le_of_ble_eq_true rfl)
  rw [lg_entry_eq]
  generalize (lg_sl ([.ref (b 0), .int x0]) ++ List.replicate (3 - (lg_sl ([.ref (b 0), .int x0])).length) Slot.unset).toArray = ls at hl ⊢
  have hl : lv_has ls 3 [(0, .ref (b 0)), (1, .int x0)] := hl
  obtain ⟨v, hv9⟩ : ∃ v : SU, v = v0 := ⟨_, rfl⟩
  rw [← hv9] at hP hD hV
  have p_m : Rg 0 12 l_m := hL.1
  have p_tp : Rg 0 120 l_tp := hL.2.1
  have p_so : Ar (-1) 1 l_so := hL.2.2.1
  have p_sz : Ar 0 40 l_sz := hL.2.2.2.1
  have p_kp : Kp l_kp := hL.2.2.2.2.1
  have p_to : Rg 0 120 l_to := hL.2.2.2.2.2
  have lp29 : ∀ (n29 : Nat) (y29_l2 : Int32) (y29_km : Int32) (v : SU) (H : Heap) (locs : List Loc) (ls : Array Slot), Rg 1 12 x0 → Rg 0 12 y29_l2 → Rg 0 12 y29_km → (y29_km.toInt = l_m.toInt + y29_l2.toInt ∧ y29_l2.toInt ≤ x0.toInt ∧ l_m.toInt + x0.toInt ≤ 12) → TyV v → va_P D cls (wM cI b (mkM y29_km l_z l_tp l_hs l_to l_tk l_wo l_so l_sz l_kp) v) H → va_D A (wM cI b (mkM y29_km l_z l_tp l_hs l_to l_tk l_wo l_so l_sz l_kp) v) → va_S A s.heap H locs → lv_has ls 3 [(0, .ref (b 0)), (1, .int x0), (2, .int y29_l2)] → 12 - y29_l2.toInt < (n29 : Int) → W p l e (headSpec wsX12_points ({ frames := 1, cells := 0, slots := 0, locals := 40 })).room s m ([.ref (b 0), .int x0]).toArray below meth c H locs 0 0 (MQ below (QF (S := Int32 × SU) D (wM cI b (mkM l_m l_z l_tp l_hs l_to l_tk l_wo l_so l_sz l_kp) v0) (fun q => wM cI b (mkM q.1 l_z l_tp l_hs l_to l_tk l_wo l_so l_sz l_kp) q.2) s.heap.size (fun r q => TyV q.2 ∧ Rg (-4) 12 r ∧ Rg 0 12 q.1 ∧ ((x0.toInt < 1 ∨ 12 < x0.toInt → r.toInt = -2 ∧ q.1.toInt = l_m.toInt) ∧ (1 ≤ x0.toInt → x0.toInt ≤ 12 → 12 < l_m.toInt + x0.toInt → r.toInt = -4 ∧ q.1.toInt = l_m.toInt) ∧ (1 ≤ x0.toInt → x0.toInt ≤ 12 → l_m.toInt + x0.toInt ≤ 12 → r.toInt = l_m.toInt + x0.toInt ∧ q.1.toInt = l_m.toInt + x0.toInt)))) ([.ref (b 0), .int x0]).toArray s 0 0 (va_A (wM cI b (mkM l_m l_z l_tp l_hs l_to l_tk l_wo l_so l_sz l_kp) v0) s.heap.size)) (F0 m 29 ls []) := by
    intro n29
    induction n29 with
    | zero =>
      intro y29_l2 y29_km v H locs ls g29_l1 g29_l2 g29_km x29_0 hV hP hD hS hl hm29
      exact absurd rfl (me_z g29_l2 hm29)
    | succ n29 ih29 =>
      intro y29_l2 y29_km v H locs ls g29_l1 g29_l2 g29_km x29_0 hV hP hD hS hl hm29
      refine lv_iload_n hx hb dX12_points_29 rfl (lv_at hl 2 rfl) ?_
      refine lv_iload_n hx hb dX12_points_30 rfl (lv_at hl 1 rfl) ?_
      refine lv_icmp_ge (tgt := 60) hx hb dX12_points_31 (by decide) (fun c20638 => ?_) (fun c20638 => ?_)
      · have g20639 : Rg 1 12 y29_l2 := rg_ler g29_l1 g29_l2 c20638 (by decide)
        refine lv_aload_n hx hb dX12_points_60 rfl (lv_at hl 0 rfl) ?_
        refine va_get (D := D) (ci := 12) (v := .int y29_km) (C := RX12) (T := TX12) (N := 24) hx hb hts hin12 hown hK hP 0 rfl rfl 0 (by decide) (hts (.fieldLink RX12 63 "MissedPointsModel" "many" "I") (by decide +kernel)) (fun _ h9 => h9) rfl dX12_points_61 ?_
        subst hAe
        exact W.iret (v := y29_km) hx hb hr (fun t ht hW => ⟨⟨_, (y29_km, v), rfl, ⟨hV, (show Rg (-4) 12 y29_km from rg_w g29_km (by decide) (by decide)), g29_km, (show (x0.toInt < 1 ∨ 12 < x0.toInt → y29_km.toInt = -2 ∧ y29_km.toInt = l_m.toInt) ∧ (1 ≤ x0.toInt → x0.toInt ≤ 12 → 12 < l_m.toInt + x0.toInt → y29_km.toInt = -4 ∧ y29_km.toInt = l_m.toInt) ∧ (1 ≤ x0.toInt → x0.toInt ≤ 12 → l_m.toInt + x0.toInt ≤ 12 → y29_km.toInt = l_m.toInt + x0.toInt ∧ y29_km.toInt = l_m.toInt + x0.toInt) from by have y90 : x0.toInt ≤ y29_l2.toInt := (lz_le _ _).mp c20638; have y91 : Rg 1 12 y29_l2 := g20639; have y92 : Rg 1 12 x0 := g29_l1; have y93 : Rg 1 12 y29_l2 := g20639; have y94 : Rg 0 12 y29_km := g29_km; have y95 : Rg 0 12 y29_km := g29_km; have y96 : Rg 0 120 l_tp := p_tp; have y97 : Rg 0 120 l_to := p_to; have y98 : Rg 0 12 y29_km := g29_km; have y9c9 : (0 : Int32).toInt = 0 := (by decide); have y9c10 : (1 : Int32).toInt = 1 := (by decide); omega)⟩, by rw [ht]; exact hP, hD⟩, hS.F ht⟩) hS.2.2 dX12_points_64
      · have g20640 : Rg 0 11 y29_l2 := rg_ltl g29_l2 g29_l1 (rg_nle c20638) (by decide)
        have g20641 : Rg 0 11 y29_km := by have y90 : y29_l2.toInt < x0.toInt := (lz_lt _ _).mp (rg_nle c20638); have y91 : Rg 0 11 y29_l2 := g20640; have y92 : Rg 1 12 x0 := g29_l1; have y93 : Rg 0 11 y29_l2 := g20640; have y94 : Rg 0 12 y29_km := g29_km; have y95 : Rg 0 120 l_tp := p_tp; have y96 : Rg 0 120 l_to := p_to; have y97 : Rg 0 12 y29_km := g29_km; have y9c8 : (0 : Int32).toInt = 0 := (by decide); have y9c9 : (1 : Int32).toInt = 1 := (by decide); exact ⟨by omega, by omega⟩
        refine lv_aload_n hx hb dX12_points_34 rfl (lv_at hl 0 rfl) ?_
        refine va_get (D := D) (ci := 12) (v := .ref (b 1)) (C := RX12) (T := TX12) (N := 24) hx hb hts hin12 hown hK hP 0 rfl rfl 2 (by decide) (hts (.fieldLink RX12 13 "MissedPointsModel" "near" "[I") (by decide +kernel)) (fun _ h9 => h9) rfl dX12_points_35 ?_
        refine lv_aload_n hx hb dX12_points_38 rfl (lv_at hl 0 rfl) ?_
        refine va_get (D := D) (ci := 12) (v := .int y29_km) (C := RX12) (T := TX12) (N := 24) hx hb hts hin12 hown hK hP 0 rfl rfl 0 (by decide) (hts (.fieldLink RX12 63 "MissedPointsModel" "many" "I") (by decide +kernel)) (fun _ h9 => h9) rfl dX12_points_39 ?_
        refine lv_iconst (v := 0) hx hb dX12_points_42 (by decide) ?_
        refine ms_1 hx hb hK hP hD hS hV rfl (rg_in g20641 (by decide) (by decide)) (by decide : Rg 0 4095 (0 : Int32)) dX12_points_43 (fun v H locs hV ev20642 hP hD hS => ?_)
        refine lv_aload_n hx hb dX12_points_44 rfl (lv_at hl 0 rfl) ?_
        refine lv_dup hx hb dX12_points_45 rfl ?_
        refine va_get (D := D) (ci := 12) (v := .int y29_km) (C := RX12) (T := TX12) (N := 24) hx hb hts hin12 hown hK hP 0 rfl rfl 0 (by decide) (hts (.fieldLink RX12 63 "MissedPointsModel" "many" "I") (by decide +kernel)) (fun _ h9 => h9) rfl dX12_points_46 ?_
        refine lv_iconst (v := 1) hx hb dX12_points_49 (by decide) ?_
        refine wk_iadd (e1 := 1) (f := 12) hx hb dX12_points_50 g20641 (by decide : Rg 1 1 (1 : Int32)) (by decide) (fun r20643 hr20643 er20643 qr20643 => ?_)
        refine va_put (D := D) (ci := 12) (v := .int r20643) (ty := .int) (C := RX12) (T := TX12) (N := 24) hx hb hts hin12 tyX12 tyX12_ok nmX12 hown hK hP hD hS 0 rfl rfl 0 (by decide) (hts (.fieldLink RX12 63 "MissedPointsModel" "many" "I") (by decide +kernel)) (fun _ h9 => h9) rfl (by decide +kernel) rfl rfl (Nat.le_of_ble_eq_true rfl) dX12_points_51 (fun H locs hP hD hS => ?_)
        have hP : va_P D cls (wM cI b (mkM r20643 l_z l_tp l_hs l_to l_tk l_wo l_so l_sz l_kp) v) H := hP
        have hD : va_D A (wM cI b (mkM r20643 l_z l_tp l_hs l_to l_tk l_wo l_so l_sz l_kp) v) := hD
        refine wk_iinc (lv' := fun r => [(2, .int r), (0, .ref (b 0)), (1, .int x0)]) (e1 := 1) (f := 12) hx hb dX12_points_54 hl (k := 2) rfl (by decide) g20640 (by decide) (fun _ => rfl) (fun r20644 ls hr20644 er20644 hl => ?_)
        refine lv_goto (tgt := 29) hx hb dX12_points_57 (by decide) ?_
        exact ih29 r20644 r20643 v _ _ ls g29_l1 (show Rg 0 12 r20644 from rg_w hr20644 (by decide) (by decide)) (show Rg 0 12 r20643 from rg_w hr20643 (by decide) (by decide)) (show (r20643.toInt = l_m.toInt + r20644.toInt ∧ r20644.toInt ≤ x0.toInt ∧ l_m.toInt + x0.toInt ≤ 12) from by have y90 : y29_l2.toInt < x0.toInt := (lz_lt _ _).mp (rg_nle c20638); have y91 : Rg 0 11 y29_l2 := g20640; have y92 : Rg 0 11 y29_km := g20641; have y93 : Rg 1 12 x0 := g29_l1; have y94 : Rg 1 12 r20644 := hr20644; have y95 : Rg 1 12 r20643 := hr20643; have y96 : Rg 0 120 l_tp := p_tp; have y97 : Rg 0 120 l_to := p_to; have y9c8 : (0 : Int32).toInt = 0 := (by decide); have y9c9 : (1 : Int32).toInt = 1 := (by decide); omega) hV hP hD hS (lv_sub (l' := [(0, .ref (b 0)), (1, .int x0), (2, .int r20644)]) hl [1, 2, 0] rfl) (me_up hm29 er20644 (by decide))
  refine lv_iload_n hx hb dX12_points_0 rfl (lv_at hl 1 rfl) ?_
  refine lv_iconst (v := 1) hx hb dX12_points_1 (by decide) ?_
  refine lv_bipush (v := 12) hx hb dX12_points_2 (by decide) ?_
  refine lz_ss (As := [.int x0, .int 1, .int 12]) (rest := []) ⟨hx, hb, hml, hown, hts⟩ (w_X12_in l D cI cS x0 (1 : Int32) (12 : Int32)) hKK (hP.sub (ws' := []) [] rfl) (va_cwS 3 hts gX12_points_X12_in rfl rfl rfl (by decide +kernel) ⟨Nat.le_of_ble_eq_true rfl, Nat.le_of_ble_eq_true rfl⟩) rfl hl.1 rfl (Nat.le_of_ble_eq_true rfl) dX12_points_4 ⟨Nat.le_of_ble_eq_true rfl, Nat.le_of_ble_eq_true rfl⟩ (fun r20645 hr20645 => ?_)
  refine lv_if_ne (tgt := 13) hx hb dX12_points_7 (by decide) (fun c20646 => ?_) (fun c20646 => ?_)
  · have zn20647 : (1 : Int32).toInt ≤ x0.toInt ∧ x0.toInt ≤ (12 : Int32).toInt := (hr20645.2.2 c20646)
    have g20648 : Rg 1 12 x0 := wk_in3 (rg_any x0) (by decide : Rg 1 1 (1 : Int32)) (by decide : Rg 12 12 (12 : Int32)) (hr20645.2.2 c20646) (by decide)
    have g20649 : Rg 1 1 r20645 := rg_ne_lo (k := 0) hr20645.1 (by decide) c20646 (by decide)
    refine lv_aload_n hx hb dX12_points_13 rfl (lv_at hl 0 rfl) ?_
    refine va_get (D := D) (ci := 12) (v := .int l_m) (C := RX12) (T := TX12) (N := 24) hx hb hts hin12 hown hK hP 0 rfl rfl 0 (by decide) (hts (.fieldLink RX12 63 "MissedPointsModel" "many" "I") (by decide +kernel)) (fun _ h9 => h9) rfl dX12_points_14 ?_
    refine lv_iload_n hx hb dX12_points_17 rfl (lv_at hl 1 rfl) ?_
    refine wk_iadd (e1 := 1) (f := 24) hx hb dX12_points_18 p_m g20648 (by decide) (fun r20650 hr20650 er20650 qr20650 => ?_)
    refine lv_bipush (v := 12) hx hb dX12_points_19 (by decide) ?_
    refine lv_icmp_le (tgt := 27) hx hb dX12_points_21 (by decide) (fun c20651 => ?_) (fun c20651 => ?_)
    · have g20652 : Rg 1 12 r20650 := rg_lel hr20650 (by decide : Rg 12 12 (12 : Int32)) c20651 (by decide)
      refine lv_iconst (v := 0) hx hb dX12_points_27 (by decide) ?_
      refine lv_istore_n (lv' := [(2, .int 0), (0, .ref (b 0)), (1, .int x0)]) hx hb dX12_points_28 rfl hl (by decide) rfl (fun ls hl => ?_)
      exact lp29 13 (0 : Int32) l_m v _ _ ls g20648 (by decide : Rg 0 12 (0 : Int32)) p_m (show (l_m.toInt = l_m.toInt + (0 : Int32).toInt ∧ (0 : Int32).toInt ≤ x0.toInt ∧ l_m.toInt + x0.toInt ≤ 12) from by have y90 : ¬ r20645.toInt = (0 : Int32).toInt := fun z => c20646 (Int32.toInt_inj.mp z); have y91 : r20650.toInt ≤ (12 : Int32).toInt := (lz_le _ _).mp c20651; have y92 : Rg 1 12 x0 := g20648; have y93 : Rg 1 1 r20645 := g20649; have y94 : Rg 1 12 r20650 := g20652; have y95 : Rg 1 12 x0 := g20648; have y96 : Rg 0 12 l_m := p_m; have y97 : Rg 0 120 l_tp := p_tp; have y98 : Rg 0 120 l_to := p_to; have y9c9 : (0 : Int32).toInt = 0 := (by decide); have y9c10 : (1 : Int32).toInt = 1 := (by decide); have y9c11 : (12 : Int32).toInt = 12 := (by decide); omega) hV hP hD hS (lv_sub (l' := [(0, .ref (b 0)), (1, .int x0), (2, .int 0)]) hl [1, 2, 0] rfl) (me_i (by decide : Rg 0 12 (0 : Int32)) (by decide))
    · have g20653 : Rg 13 24 r20650 := rg_ltr (by decide : Rg 12 12 (12 : Int32)) hr20650 (rg_nle c20651) (by decide)
      refine lv_bipush (v := (-4)) hx hb dX12_points_24 (by decide) ?_
      subst hAe
      exact W.iret (v := (-4)) hx hb hr (fun t ht hW => ⟨⟨_, (l_m, v), rfl, ⟨hV, (by decide : Rg (-4) 12 ((-4) : Int32)), p_m, (show (x0.toInt < 1 ∨ 12 < x0.toInt → ((-4) : Int32).toInt = -2 ∧ l_m.toInt = l_m.toInt) ∧ (1 ≤ x0.toInt → x0.toInt ≤ 12 → 12 < l_m.toInt + x0.toInt → ((-4) : Int32).toInt = -4 ∧ l_m.toInt = l_m.toInt) ∧ (1 ≤ x0.toInt → x0.toInt ≤ 12 → l_m.toInt + x0.toInt ≤ 12 → ((-4) : Int32).toInt = l_m.toInt + x0.toInt ∧ l_m.toInt = l_m.toInt + x0.toInt) from by have y90 : ¬ r20645.toInt = (0 : Int32).toInt := fun z => c20646 (Int32.toInt_inj.mp z); have y91 : (12 : Int32).toInt < r20650.toInt := (lz_lt _ _).mp (rg_nle c20651); have y92 : Rg 1 12 x0 := g20648; have y93 : Rg 1 1 r20645 := g20649; have y94 : Rg 13 24 r20650 := g20653; have y95 : Rg 1 12 x0 := g20648; have y96 : Rg 0 12 l_m := p_m; have y97 : Rg 0 120 l_tp := p_tp; have y98 : Rg 0 120 l_to := p_to; have y9c9 : ((-4) : Int32).toInt = -4 := (by decide); have y9c10 : (0 : Int32).toInt = 0 := (by decide); have y9c11 : (1 : Int32).toInt = 1 := (by decide); have y9c12 : (12 : Int32).toInt = 12 := (by decide); omega)⟩, by rw [ht]; exact hP, hD⟩, hS.F ht⟩) hS.2.2 dX12_points_26
  · have zt20654 : (x0.toInt < (1 : Int32).toInt ∨ (12 : Int32).toInt < x0.toInt) := hr20645.2.1 c20646
    have g20655 : Rg 0 0 r20645 := wk_eql hr20645.1 (by decide : Rg 0 0 (0 : Int32)) c20646 (by decide)
    refine lv_bipush (v := (-2)) hx hb dX12_points_10 (by decide) ?_
    subst hAe
    exact W.iret (v := (-2)) hx hb hr (fun t ht hW => ⟨⟨_, (l_m, v), rfl, ⟨hV, (by decide : Rg (-4) 12 ((-2) : Int32)), p_m, (show (x0.toInt < 1 ∨ 12 < x0.toInt → ((-2) : Int32).toInt = -2 ∧ l_m.toInt = l_m.toInt) ∧ (1 ≤ x0.toInt → x0.toInt ≤ 12 → 12 < l_m.toInt + x0.toInt → ((-2) : Int32).toInt = -4 ∧ l_m.toInt = l_m.toInt) ∧ (1 ≤ x0.toInt → x0.toInt ≤ 12 → l_m.toInt + x0.toInt ≤ 12 → ((-2) : Int32).toInt = l_m.toInt + x0.toInt ∧ l_m.toInt = l_m.toInt + x0.toInt) from by have y90 : r20645.toInt = (0 : Int32).toInt := congrArg Int32.toInt c20646; have y91 : Rg 0 0 r20645 := g20655; have y92 : Rg 0 12 l_m := p_m; have y93 : Rg 0 120 l_tp := p_tp; have y94 : Rg 0 120 l_to := p_to; have y9c5 : ((-2) : Int32).toInt = -2 := (by decide); have y9c6 : (0 : Int32).toInt = 0 := (by decide); have y9c7 : (1 : Int32).toInt = 1 := (by decide); have y9c8 : (12 : Int32).toInt = 12 := (by decide); omega)⟩, by rw [ht]; exact hP, hD⟩, hS.F ht⟩) hS.2.2 dX12_points_12
theorem dX12_feed_23 : decode cX12_feed 23 = .ok (.bipush (-4), 2) := by decide +kernel
theorem dX12_feed_25 : decode cX12_feed 25 = .ok (.ireturn, 1) := by decide +kernel
set_option maxHeartbeats 4000000 in
set_option maxRecDepth 100000 in
theorem w_X12_feed (l : Launch) (D : va_G) (cI cS : ClassId) (sz : Nat) (b : Nat → Nat) (l_m l_z l_tp l_hs l_to l_tk l_wo : Int32) (l_so l_sz l_kp : Nat → Int32) (v0 : SU) (hL : TyL (mkM l_m l_z l_tp l_hs l_to l_tk l_wo l_so l_sz l_kp)) (hV : TyV v0) (x0 x1 : Int32) : Met l yX12_feed wsX12_feed ({ frames := 1, cells := 0, slots := 0, locals := 40 }) (PQ D cI cS (wM cI b (mkM l_m l_z l_tp l_hs l_to l_tk l_wo l_so l_sz l_kp) v0) sz [.ref (b 0), .int x0, .int x1]) (QF (S := Int32 × SU) D (wM cI b (mkM l_m l_z l_tp l_hs l_to l_tk l_wo l_so l_sz l_kp) v0) (fun q => wM cI b (mkM l_m l_z q.1 l_hs l_to l_tk l_wo l_so l_sz l_kp) q.2) sz (fun r q => TyV q.2 ∧ Rg (-4) 120 r ∧ Rg 0 120 q.1 ∧ ((x1.toInt < 1 ∨ 4 < x1.toInt → r.toInt = -2 ∧ q.1.toInt = l_tp.toInt) ∧ (1 ≤ x1.toInt → x1.toInt ≤ 4 → 120 < l_tp.toInt + x1.toInt → r.toInt = -4 ∧ q.1.toInt = l_tp.toInt) ∧ (1 ≤ x1.toInt → x1.toInt ≤ 4 → l_tp.toInt + x1.toInt ≤ 120 → r.toInt = l_tp.toInt + x1.toInt ∧ q.1.toInt = l_tp.toInt + x1.toInt)))) 0 0 (va_A (wM cI b (mkM l_m l_z l_tp l_hs l_to l_tk l_wo l_so l_sz l_kp) v0) sz) := by
  refine Met.ofW (cc := cX12_feed) (maxL := 4) (ret := (some .int)) (by decide) rfl ?_
  intro p e s m args below meth c s₁ B hml hv
  obtain ⟨rfl, hsz, hP, hKK, hD0⟩ := hv
  have hx := B.exec
  have hb := B.bytes
  have hr := B.returns
  have hts := atoms_spec (ws := wsX12_feed) B.pre
  have hown : s.vm.findClass RX12 = some m.cls := findClass_of_methodNamed B.named
  have hlocks := B.notSynchronized
  have hK := hKK.1
  have hin12 : ∀ w ∈ wsX120, w ∈ wsX12_feed := by decide +kernel
  subst hsz
  have hD := hD0.self (sz := s.heap.size)
  obtain ⟨A, hAe⟩ : ∃ A, A = va_A (wM cI b (mkM l_m l_z l_tp l_hs l_to l_tk l_wo l_so l_sz l_kp) v0) s.heap.size := ⟨_, rfl⟩
  rw [← hAe] at hD
  have hA : ∀ q : Nat, s.heap.size ≤ q → A q := fun q h => by rw [hAe]; exact Or.inr h
  have hS : va_S A s.heap s.heap [] := va_S.rf
  have hl := lv_entry ([.ref (b 0), .int x0, .int x1]) (n := 4) (Nat.le_of_ble_eq_true rfl)
  rw [lg_entry_eq]
  generalize (lg_sl ([.ref (b 0), .int x0, .int x1]) ++ List.replicate (4 - (lg_sl ([.ref (b 0), .int x0, .int x1])).length) Slot.unset).toArray = ls at hl ⊢
  have hl : lv_has ls 4 [(0, .ref (b 0)), (1, .int x0), (2, .int x1)] := hl
  obtain ⟨v, hv9⟩ : ∃ v : SU, v = v0 := ⟨_, rfl⟩
  rw [← hv9] at hP hD hV
  have p_m : Rg 0 12 l_m := hL.1
  have p_tp : Rg 0 120 l_tp := hL.2.1
  have p_so : Ar (-1) 1 l_so := hL.2.2.1
  have p_sz : Ar 0 40 l_sz := hL.2.2.2.1
  have p_kp : Kp l_kp := hL.2.2.2.2.1
  have p_to : Rg 0 120 l_to := hL.2.2.2.2.2
  have lp30 : ∀ (n30 : Nat) (y30_l3 : Int32) (y30_ktp : Int32) (v : SU) (H : Heap) (locs : List Loc) (ls : Array Slot), Rg (-1) 3 y30_l3 → Rg 0 120 y30_ktp → (y30_ktp.toInt + y30_l3.toInt + 1 = l_tp.toInt + x1.toInt ∧ l_tp.toInt + x1.toInt ≤ 120 ∧ 1 ≤ x1.toInt ∧ x1.toInt ≤ 4) → TyV v → va_P D cls (wM cI b (mkM l_m l_z y30_ktp l_hs l_to l_tk l_wo l_so l_sz l_kp) v) H → va_D A (wM cI b (mkM l_m l_z y30_ktp l_hs l_to l_tk l_wo l_so l_sz l_kp) v) → va_S A s.heap H locs → lv_has ls 4 [(0, .ref (b 0)), (1, .int x0), (3, .int y30_l3)] → y30_l3.toInt - (-1) < (n30 : Int) → W p l e (headSpec wsX12_feed ({ frames := 1, cells := 0, slots := 0, locals := 40 })).room s m ([.ref (b 0), .int x0, .int x1]).toArray below meth c H locs 0 0 (MQ below (QF (S := Int32 × SU) D (wM cI b (mkM l_m l_z l_tp l_hs l_to l_tk l_wo l_so l_sz l_kp) v0) (fun q => wM cI b (mkM l_m l_z q.1 l_hs l_to l_tk l_wo l_so l_sz l_kp) q.2) s.heap.size (fun r q => TyV q.2 ∧ Rg (-4) 120 r ∧ Rg 0 120 q.1 ∧ ((x1.toInt < 1 ∨ 4 < x1.toInt → r.toInt = -2 ∧ q.1.toInt = l_tp.toInt) ∧ (1 ≤ x1.toInt → x1.toInt ≤ 4 → 120 < l_tp.toInt + x1.toInt → r.toInt = -4 ∧ q.1.toInt = l_tp.toInt) ∧ (1 ≤ x1.toInt → x1.toInt ≤ 4 → l_tp.toInt + x1.toInt ≤ 120 → r.toInt = l_tp.toInt + x1.toInt ∧ q.1.toInt = l_tp.toInt + x1.toInt)))) ([.ref (b 0), .int x0, .int x1]).toArray s 0 0 (va_A (wM cI b (mkM l_m l_z l_tp l_hs l_to l_tk l_wo l_so l_sz l_kp) v0) s.heap.size)) (F0 m 30 ls []) := by
    intro n30
    induction n30 with
    | zero =>
      intro y30_l3 y30_ktp v H locs ls g30_l3 g30_ktp x30_0 hV hP hD hS hl hm30
      exact absurd rfl (me_y g30_l3 hm30)
    | succ n30 ih30 =>
      intro y30_l3 y30_ktp v H locs ls g30_l3 g30_ktp x30_0 hV hP hD hS hl hm30
      refine lv_iload_n hx hb dX12_feed_30 rfl (lv_at hl 2 rfl) ?_
      refine lv_if_lt (tgt := 69) hx hb dX12_feed_31 (by decide) (fun c20698 => ?_) (fun c20698 => ?_)
      · have g20699 : Rg (-1) (-1) y30_l3 := rg_ltl g30_l3 (by decide : Rg 0 0 (0 : Int32)) c20698 (by decide)
        refine lv_aload_n hx hb dX12_feed_69 rfl (lv_at hl 0 rfl) ?_
        refine va_get (D := D) (ci := 12) (v := .int y30_ktp) (C := RX12) (T := TX12) (N := 24) hx hb hts hin12 hown hK hP 0 rfl rfl 10 (by decide) (hts (.fieldLink RX12 101 "MissedPointsModel" "taped" "I") (by decide +kernel)) (fun _ h9 => h9) rfl dX12_feed_70 ?_
        subst hAe
        exact W.iret (v := y30_ktp) hx hb hr (fun t ht hW => ⟨⟨_, (y30_ktp, v), rfl, ⟨hV, (show Rg (-4) 120 y30_ktp from rg_w g30_ktp (by decide) (by decide)), g30_ktp, (show (x1.toInt < 1 ∨ 4 < x1.toInt → y30_ktp.toInt = -2 ∧ y30_ktp.toInt = l_tp.toInt) ∧ (1 ≤ x1.toInt → x1.toInt ≤ 4 → 120 < l_tp.toInt + x1.toInt → y30_ktp.toInt = -4 ∧ y30_ktp.toInt = l_tp.toInt) ∧ (1 ≤ x1.toInt → x1.toInt ≤ 4 → l_tp.toInt + x1.toInt ≤ 120 → y30_ktp.toInt = l_tp.toInt + x1.toInt ∧ y30_ktp.toInt = l_tp.toInt + x1.toInt) from by have y90 : y30_l3.toInt < (0 : Int32).toInt := (lz_lt _ _).mp c20698; have y91 : Rg (-1) (-1) y30_l3 := g20699; have y92 : Rg (-1) (-1) y30_l3 := g20699; have y93 : Rg 0 120 y30_ktp := g30_ktp; have y94 : Rg 0 12 l_m := p_m; have y95 : Rg 0 120 y30_ktp := g30_ktp; have y96 : Rg 0 120 l_to := p_to; have y97 : Rg 0 120 y30_ktp := g30_ktp; have y9c8 : (0 : Int32).toInt = 0 := (by decide); have y9c9 : (1 : Int32).toInt = 1 := (by decide); omega)⟩, by rw [ht]; exact hP, hD⟩, hS.F ht⟩) hS.2.2 dX12_feed_73
      · have g20700 : Rg 0 3 y30_l3 := rg_ler (by decide : Rg 0 0 (0 : Int32)) g30_l3 (rg_nlt c20698) (by decide)
        have g20701 : Rg 0 119 y30_ktp := by have y90 : (0 : Int32).toInt ≤ y30_l3.toInt := (lz_le _ _).mp (rg_nlt c20698); have y91 : Rg 0 3 y30_l3 := g20700; have y92 : Rg 0 3 y30_l3 := g20700; have y93 : Rg 0 12 l_m := p_m; have y94 : Rg 0 120 y30_ktp := g30_ktp; have y95 : Rg 0 120 l_to := p_to; have y96 : Rg 0 120 y30_ktp := g30_ktp; have y9c7 : (0 : Int32).toInt = 0 := (by decide); have y9c8 : (1 : Int32).toInt = 1 := (by decide); exact ⟨by omega, by omega⟩
        refine lv_aload_n hx hb dX12_feed_34 rfl (lv_at hl 0 rfl) ?_
        refine va_get (D := D) (ci := 12) (v := .ref (b 8)) (C := RX12) (T := TX12) (N := 24) hx hb hts hin12 hown hK hP 0 rfl rfl 9 (by decide) (hts (.fieldLink RX12 35 "MissedPointsModel" "tape" "[I") (by decide +kernel)) (fun _ h9 => h9) rfl dX12_feed_35 ?_
        refine lv_aload_n hx hb dX12_feed_38 rfl (lv_at hl 0 rfl) ?_
        refine va_get (D := D) (ci := 12) (v := .int y30_ktp) (C := RX12) (T := TX12) (N := 24) hx hb hts hin12 hown hK hP 0 rfl rfl 10 (by decide) (hts (.fieldLink RX12 101 "MissedPointsModel" "taped" "I") (by decide +kernel)) (fun _ h9 => h9) rfl dX12_feed_39 ?_
        refine lv_iload_n hx hb dX12_feed_42 rfl (lv_at hl 1 rfl) ?_
        refine lv_bipush (v := 8) hx hb dX12_feed_43 (by decide) ?_
        refine lv_iload_n hx hb dX12_feed_45 rfl (lv_at hl 2 rfl) ?_
        refine wk_imul (f := 24) hx hb dX12_feed_46 (by decide : Rg 0 8 (8 : Int32)) g20700 (by decide) (fun r20702 hr20702 er20702 qr20702 => ?_)
        refine lv_ishr hx hb dX12_feed_47 ?_
        refine wk_topP (P := fun r => r = x0 >>> (r20702 &&& 31)) rfl (fun r20703 qr20703 => ?_)
        refine lv_sipush (v := 255) hx hb dX12_feed_48 (by decide) ?_
        refine wk_iandr hx hb dX12_feed_51 (by decide : Rg 255 255 (255 : Int32)) (by decide) (fun r20704 hr20704 qr20704 => ?_)
        refine ms_8 hx hb hK hP hD hS hV rfl (rg_in g20701 (by decide) (by decide)) dX12_feed_52 (fun v H locs hV ev20705 hP hD hS => ?_)
        refine lv_aload_n hx hb dX12_feed_53 rfl (lv_at hl 0 rfl) ?_
        refine lv_dup hx hb dX12_feed_54 rfl ?_
        refine va_get (D := D) (ci := 12) (v := .int y30_ktp) (C := RX12) (T := TX12) (N := 24) hx hb hts hin12 hown hK hP 0 rfl rfl 10 (by decide) (hts (.fieldLink RX12 101 "MissedPointsModel" "taped" "I") (by decide +kernel)) (fun _ h9 => h9) rfl dX12_feed_55 ?_
        refine lv_iconst (v := 1) hx hb dX12_feed_58 (by decide) ?_
        refine wk_iadd (e1 := 1) (f := 120) hx hb dX12_feed_59 g20701 (by decide : Rg 1 1 (1 : Int32)) (by decide) (fun r20706 hr20706 er20706 qr20706 => ?_)
        refine va_put (D := D) (ci := 12) (v := .int r20706) (ty := .int) (C := RX12) (T := TX12) (N := 24) hx hb hts hin12 tyX12 tyX12_ok nmX12 hown hK hP hD hS 0 rfl rfl 10 (by decide) (hts (.fieldLink RX12 101 "MissedPointsModel" "taped" "I") (by decide +kernel)) (fun _ h9 => h9) rfl (by decide +kernel) rfl rfl (Nat.le_of_ble_eq_true rfl) dX12_feed_60 (fun H locs hP hD hS => ?_)
        have hP : va_P D cls (wM cI b (mkM l_m l_z r20706 l_hs l_to l_tk l_wo l_so l_sz l_kp) v) H := hP
        have hD : va_D A (wM cI b (mkM l_m l_z r20706 l_hs l_to l_tk l_wo l_so l_sz l_kp) v) := hD
        refine wk_iinc (lv' := fun r => [(3, .int r), (0, .ref (b 0)), (1, .int x0)]) (e1 := (-1)) (f := 2) hx hb dX12_feed_63 hl (k := 2) rfl (by decide) g20700 (by decide) (fun _ => rfl) (fun r20707 ls hr20707 er20707 hl => ?_)
        refine lv_goto (tgt := 30) hx hb dX12_feed_66 (by decide) ?_
        exact ih30 r20707 r20706 v _ _ ls (show Rg (-1) 3 r20707 from rg_w hr20707 (by decide) (by decide)) (show Rg 0 120 r20706 from rg_w hr20706 (by decide) (by decide)) (show (r20706.toInt + r20707.toInt + 1 = l_tp.toInt + x1.toInt ∧ l_tp.toInt + x1.toInt ≤ 120 ∧ 1 ≤ x1.toInt ∧ x1.toInt ≤ 4) from by have y90 : (0 : Int32).toInt ≤ y30_l3.toInt := (lz_le _ _).mp (rg_nlt c20698); have y91 : Rg 0 3 y30_l3 := g20700; have y92 : Rg 0 119 y30_ktp := g20701; have y93 : Rg (-1) 2 r20707 := hr20707; have y94 : Rg 0 12 l_m := p_m; have y95 : Rg 1 120 r20706 := hr20706; have y96 : Rg 0 120 l_to := p_to; have y9c7 : (0 : Int32).toInt = 0 := (by decide); have y9c8 : (1 : Int32).toInt = 1 := (by decide); omega) hV hP hD hS (lv_sub (l' := [(0, .ref (b 0)), (1, .int x0), (3, .int r20707)]) hl [1, 2, 0] rfl) (me_dn hm30 er20707 (by decide))
  refine lv_iload_n hx hb dX12_feed_0 rfl (lv_at hl 2 rfl) ?_
  refine lv_iconst (v := 1) hx hb dX12_feed_1 (by decide) ?_
  refine lv_iconst (v := 4) hx hb dX12_feed_2 (by decide) ?_
  refine lz_ss (As := [.int x1, .int 1, .int 4]) (rest := []) ⟨hx, hb, hml, hown, hts⟩ (w_X12_in l D cI cS x1 (1 : Int32) (4 : Int32)) hKK (hP.sub (ws' := []) [] rfl) (va_cwS 3 hts gX12_feed_X12_in rfl rfl rfl (by decide +kernel) ⟨Nat.le_of_ble_eq_true rfl, Nat.le_of_ble_eq_true rfl⟩) rfl hl.1 rfl (Nat.le_of_ble_eq_true rfl) dX12_feed_3 ⟨Nat.le_of_ble_eq_true rfl, Nat.le_of_ble_eq_true rfl⟩ (fun r20708 hr20708 => ?_)
  refine lv_if_ne (tgt := 12) hx hb dX12_feed_6 (by decide) (fun c20709 => ?_) (fun c20709 => ?_)
  · have zn20710 : (1 : Int32).toInt ≤ x1.toInt ∧ x1.toInt ≤ (4 : Int32).toInt := (hr20708.2.2 c20709)
    have g20711 : Rg 1 4 x1 := wk_in3 (rg_any x1) (by decide : Rg 1 1 (1 : Int32)) (by decide : Rg 4 4 (4 : Int32)) (hr20708.2.2 c20709) (by decide)
    have g20712 : Rg 1 1 r20708 := rg_ne_lo (k := 0) hr20708.1 (by decide) c20709 (by decide)
    refine lv_aload_n hx hb dX12_feed_12 rfl (lv_at hl 0 rfl) ?_
    refine va_get (D := D) (ci := 12) (v := .int l_tp) (C := RX12) (T := TX12) (N := 24) hx hb hts hin12 hown hK hP 0 rfl rfl 10 (by decide) (hts (.fieldLink RX12 101 "MissedPointsModel" "taped" "I") (by decide +kernel)) (fun _ h9 => h9) rfl dX12_feed_13 ?_
    refine lv_iload_n hx hb dX12_feed_16 rfl (lv_at hl 2 rfl) ?_
    refine wk_iadd (e1 := 1) (f := 124) hx hb dX12_feed_17 p_tp g20711 (by decide) (fun r20713 hr20713 er20713 qr20713 => ?_)
    refine lv_bipush (v := 120) hx hb dX12_feed_18 (by decide) ?_
    refine lv_icmp_le (tgt := 26) hx hb dX12_feed_20 (by decide) (fun c20714 => ?_) (fun c20714 => ?_)
    · have g20715 : Rg 1 120 r20713 := rg_lel hr20713 (by decide : Rg 120 120 (120 : Int32)) c20714 (by decide)
      refine lv_iload_n hx hb dX12_feed_26 rfl (lv_at hl 2 rfl) ?_
      refine lv_iconst (v := 1) hx hb dX12_feed_27 (by decide) ?_
      refine wk_isub (e1 := 0) (f := 3) hx hb dX12_feed_28 g20711 (by decide : Rg 1 1 (1 : Int32)) (by decide) (fun r20716 hr20716 er20716 qr20716 => ?_)
      refine lv_istore_n (lv' := [(3, .int r20716), (0, .ref (b 0)), (1, .int x0), (2, .int x1)]) hx hb dX12_feed_29 rfl hl (by decide) rfl (fun ls hl => ?_)
      exact lp30 5 r20716 l_tp v _ _ ls (show Rg (-1) 3 r20716 from rg_w hr20716 (by decide) (by decide)) p_tp (show (l_tp.toInt + r20716.toInt + 1 = l_tp.toInt + x1.toInt ∧ l_tp.toInt + x1.toInt ≤ 120 ∧ 1 ≤ x1.toInt ∧ x1.toInt ≤ 4) from by have y90 : ¬ r20708.toInt = (0 : Int32).toInt := fun z => c20709 (Int32.toInt_inj.mp z); have y91 : r20713.toInt ≤ (120 : Int32).toInt := (lz_le _ _).mp c20714; have y92 : Rg 1 4 x1 := g20711; have y93 : Rg 1 1 r20708 := g20712; have y94 : Rg 1 120 r20713 := g20715; have y95 : Rg 1 4 x1 := g20711; have y96 : Rg 0 3 r20716 := hr20716; have y97 : Rg 0 12 l_m := p_m; have y98 : Rg 0 120 l_tp := p_tp; have y99 : Rg 0 120 l_to := p_to; have y9c10 : (0 : Int32).toInt = 0 := (by decide); have y9c11 : (1 : Int32).toInt = 1 := (by decide); have y9c12 : (4 : Int32).toInt = 4 := (by decide); have y9c13 : (120 : Int32).toInt = 120 := (by decide); omega) hV hP hD hS (lv_sub (l' := [(0, .ref (b 0)), (1, .int x0), (3, .int r20716)]) hl [1, 2, 0] rfl) (me_j (show Rg (-1) 3 r20716 from rg_w hr20716 (by decide) (by decide)) (by decide))
    · have g20717 : Rg 121 124 r20713 := rg_ltr (by decide : Rg 120 120 (120 : Int32)) hr20713 (rg_nle c20714) (by decide)
      refine lv_bipush (v := (-4)) hx hb dX12_feed_23 (by decide) ?_
      subst hAe
      exact W.iret (v := (-4)) hx hb hr (fun t ht hW => ⟨⟨_, (l_tp, v), rfl, ⟨hV, (by decide : Rg (-4) 120 ((-4) : Int32)), p_tp, (show (x1.toInt < 1 ∨ 4 < x1.toInt → ((-4) : Int32).toInt = -2 ∧ l_tp.toInt = l_tp.toInt) ∧ (1 ≤ x1.toInt → x1.toInt ≤ 4 → 120 < l_tp.toInt + x1.toInt → ((-4) : Int32).toInt = -4 ∧ l_tp.toInt = l_tp.toInt) ∧ (1 ≤ x1.toInt → x1.toInt ≤ 4 → l_tp.toInt + x1.toInt ≤ 120 → ((-4) : Int32).toInt = l_tp.toInt + x1.toInt ∧ l_tp.toInt = l_tp.toInt + x1.toInt) from by have y90 : ¬ r20708.toInt = (0 : Int32).toInt := fun z => c20709 (Int32.toInt_inj.mp z); have y91 : (120 : Int32).toInt < r20713.toInt := (lz_lt _ _).mp (rg_nle c20714); have y92 : Rg 1 4 x1 := g20711; have y93 : Rg 1 1 r20708 := g20712; have y94 : Rg 121 124 r20713 := g20717; have y95 : Rg 1 4 x1 := g20711; have y96 : Rg 0 12 l_m := p_m; have y97 : Rg 0 120 l_tp := p_tp; have y98 : Rg 0 120 l_to := p_to; have y9c9 : ((-4) : Int32).toInt = -4 := (by decide); have y9c10 : (0 : Int32).toInt = 0 := (by decide); have y9c11 : (1 : Int32).toInt = 1 := (by decide); have y9c12 : (4 : Int32).toInt = 4 := (by decide); have y9c13 : (120 : Int32).toInt = 120 := (by decide); omega)⟩, by rw [ht]; exact hP, hD⟩, hS.F ht⟩) hS.2.2 dX12_feed_25
  · have zt20718 : (x1.toInt < (1 : Int32).toInt ∨ (4 : Int32).toInt < x1.toInt) := hr20708.2.1 c20709
    have g20719 : Rg 0 0 r20708 := wk_eql hr20708.1 (by decide : Rg 0 0 (0 : Int32)) c20709 (by decide)
    refine lv_bipush (v := (-2)) hx hb dX12_feed_9 (by decide) ?_
    subst hAe
    exact W.iret (v := (-2)) hx hb hr (fun t ht hW => ⟨⟨_, (l_tp, v), rfl, ⟨hV, (by decide : Rg (-4) 120 ((-2) : Int32)), p_tp, (show (x1.toInt < 1 ∨ 4 < x1.toInt → ((-2) : Int32).toInt = -2 ∧ l_tp.toInt = l_tp.toInt) ∧ (1 ≤ x1.toInt → x1.toInt ≤ 4 → 120 < l_tp.toInt + x1.toInt → ((-2) : Int32).toInt = -4 ∧ l_tp.toInt = l_tp.toInt) ∧ (1 ≤ x1.toInt → x1.toInt ≤ 4 → l_tp.toInt + x1.toInt ≤ 120 → ((-2) : Int32).toInt = l_tp.toInt + x1.toInt ∧ l_tp.toInt = l_tp.toInt + x1.toInt) from by have y90 : r20708.toInt = (0 : Int32).toInt := congrArg Int32.toInt c20709; have y91 : Rg 0 0 r20708 := g20719; have y92 : Rg 0 12 l_m := p_m; have y93 : Rg 0 120 l_tp := p_tp; have y94 : Rg 0 120 l_to := p_to; have y9c5 : ((-2) : Int32).toInt = -2 := (by decide); have y9c6 : (0 : Int32).toInt = 0 := (by decide); have y9c7 : (1 : Int32).toInt = 1 := (by decide); have y9c8 : (4 : Int32).toInt = 4 := (by decide); omega)⟩, by rw [ht]; exact hP, hD⟩, hS.F ht⟩) hS.2.2 dX12_feed_11
set_option maxHeartbeats 4000000 in
set_option maxRecDepth 100000 in
theorem w_X12_wipe (l : Launch) (D : va_G) (cI cS : ClassId) (sz : Nat) (b : Nat → Nat) (l_m l_z l_tp l_hs l_to l_tk l_wo : Int32) (l_so l_sz l_kp : Nat → Int32) (v0 : SU) (hL : TyL (mkM l_m l_z l_tp l_hs l_to l_tk l_wo l_so l_sz l_kp)) (hV : TyV v0) : Met l yX12_wipe wsX12_wipe ({ frames := 0, cells := 0, slots := 0, locals := 0 }) (PQ D cI cS (wM cI b (mkM l_m l_z l_tp l_hs l_to l_tk l_wo l_so l_sz l_kp) v0) sz [.ref (b 0)]) (QF (S := Int32 × SU) D (wM cI b (mkM l_m l_z l_tp l_hs l_to l_tk l_wo l_so l_sz l_kp) v0) (fun q => wM cI b (mkM l_m l_z q.1 l_hs l_to l_tk l_wo l_so l_sz l_kp) q.2) sz (fun r q => TyV q.2 ∧ Rg 0 120 r ∧ Rg 0 0 q.1 ∧ (r.toInt = l_tp.toInt ∧ q.1.toInt = 0))) 0 0 (va_A (wM cI b (mkM l_m l_z l_tp l_hs l_to l_tk l_wo l_so l_sz l_kp) v0) sz) := by
  refine Met.ofW (cc := cX12_wipe) (maxL := 2) (ret := (some .int)) (by decide) rfl ?_
  intro p e s m args below meth c s₁ B hml hv
  obtain ⟨rfl, hsz, hP, hKK, hD0⟩ := hv
  have hx := B.exec
  have hb := B.bytes
  have hr := B.returns
  have hts := atoms_spec (ws := wsX12_wipe) B.pre
  have hown : s.vm.findClass RX12 = some m.cls := findClass_of_methodNamed B.named
  have hlocks := B.notSynchronized
  have hK := hKK.1
  have hin12 : ∀ w ∈ wsX120, w ∈ wsX12_wipe := by decide +kernel
  subst hsz
  have hD := hD0.self (sz := s.heap.size)
  obtain ⟨A, hAe⟩ : ∃ A, A = va_A (wM cI b (mkM l_m l_z l_tp l_hs l_to l_tk l_wo l_so l_sz l_kp) v0) s.heap.size := ⟨_, rfl⟩
  rw [← hAe] at hD
  have hA : ∀ q : Nat, s.heap.size ≤ q → A q := fun q h => by rw [hAe]; exact Or.inr h
  have hS : va_S A s.heap s.heap [] := va_S.rf
  have hl := lv_entry ([.ref (b 0)]) (n := 2) (Nat.le_of_ble_eq_true rfl)
  rw [lg_entry_eq]
  generalize (lg_sl ([.ref (b 0)]) ++ List.replicate (2 - (lg_sl ([.ref (b 0)])).length) Slot.unset).toArray = ls at hl ⊢
  have hl : lv_has ls 2 [(0, .ref (b 0))] := hl
  obtain ⟨v, hv9⟩ : ∃ v : SU, v = v0 := ⟨_, rfl⟩
  rw [← hv9] at hP hD hV
  have p_m : Rg 0 12 l_m := hL.1
  have p_tp : Rg 0 120 l_tp := hL.2.1
  have p_so : Ar (-1) 1 l_so := hL.2.2.1
  have p_sz : Ar 0 40 l_sz := hL.2.2.2.1
  have p_kp : Kp l_kp := hL.2.2.2.2.1
  have p_to : Rg 0 120 l_to := hL.2.2.2.2.2
  refine lv_aload_n hx hb dX12_wipe_0 rfl (lv_at hl 0 rfl) ?_
  refine va_get (D := D) (ci := 12) (v := .int l_tp) (C := RX12) (T := TX12) (N := 24) hx hb hts hin12 hown hK hP 0 rfl rfl 10 (by decide) (hts (.fieldLink RX12 101 "MissedPointsModel" "taped" "I") (by decide +kernel)) (fun _ h9 => h9) rfl dX12_wipe_1 ?_
  refine lv_istore_n (lv' := [(1, .int l_tp), (0, .ref (b 0))]) hx hb dX12_wipe_4 rfl hl (by decide) rfl (fun ls hl => ?_)
  refine lv_aload_n hx hb dX12_wipe_5 rfl (lv_at hl 1 rfl) ?_
  refine lv_iconst (v := 0) hx hb dX12_wipe_6 (by decide) ?_
  refine va_put (D := D) (ci := 12) (v := .int 0) (ty := .int) (C := RX12) (T := TX12) (N := 24) hx hb hts hin12 tyX12 tyX12_ok nmX12 hown hK hP hD hS 0 rfl rfl 10 (by decide) (hts (.fieldLink RX12 101 "MissedPointsModel" "taped" "I") (by decide +kernel)) (fun _ h9 => h9) rfl (by decide +kernel) rfl rfl (Nat.le_of_ble_eq_true rfl) dX12_wipe_7 (fun H locs hP hD hS => ?_)
  have hP : va_P D cls (wM cI b (mkM l_m l_z (0 : Int32) l_hs l_to l_tk l_wo l_so l_sz l_kp) v) H := hP
  have hD : va_D A (wM cI b (mkM l_m l_z (0 : Int32) l_hs l_to l_tk l_wo l_so l_sz l_kp) v) := hD
  refine lv_iload_n hx hb dX12_wipe_10 rfl (lv_at hl 0 rfl) ?_
  subst hAe
  exact W.iret (v := l_tp) hx hb hr (fun t ht hW => ⟨⟨_, ((0 : Int32), v), rfl, ⟨hV, p_tp, (by decide : Rg 0 0 (0 : Int32)), (show l_tp.toInt = l_tp.toInt ∧ (0 : Int32).toInt = 0 from by have y90 : Rg 0 120 l_tp := p_tp; have y91 : Rg 0 120 l_tp := p_tp; have y92 : Rg 0 12 l_m := p_m; have y93 : Rg 0 120 l_to := p_to; have y94 : Rg 0 120 l_tp := p_tp; have y9c5 : (0 : Int32).toInt = 0 := (by decide); have y9c6 : (1 : Int32).toInt = 1 := (by decide); omega)⟩, by rw [ht]; exact hP, hD⟩, hS.F ht⟩) hS.2.2 dX12_wipe_11
set_option maxHeartbeats 4000000 in
set_option maxRecDepth 100000 in
theorem w_X12_seed (l : Launch) (D : va_G) (cI cS : ClassId) (sz : Nat) (b : Nat → Nat) (l_m l_z l_tp l_hs l_to l_tk l_wo : Int32) (l_so l_sz l_kp : Nat → Int32) (v0 : SU) (hL : TyL (mkM l_m l_z l_tp l_hs l_to l_tk l_wo l_so l_sz l_kp)) (hV : TyV v0) (x0 : Int32) : Met l yX12_seed wsX12_seed ({ frames := 0, cells := 0, slots := 0, locals := 0 }) (PQ D cI cS (wM cI b (mkM l_m l_z l_tp l_hs l_to l_tk l_wo l_so l_sz l_kp) v0) sz [.ref (b 0), .int x0]) (QF (S := Int32 × SU) D (wM cI b (mkM l_m l_z l_tp l_hs l_to l_tk l_wo l_so l_sz l_kp) v0) (fun q => wM cI b (mkM l_m q.1 l_tp l_hs l_to l_tk l_wo l_so l_sz l_kp) q.2) sz (fun r q => TyV q.2 ∧ Rg (-2147483648) 2147483647 r ∧ (r.toInt = l_z.toInt ∧ q.1.toInt = x0.toInt))) 0 0 (va_A (wM cI b (mkM l_m l_z l_tp l_hs l_to l_tk l_wo l_so l_sz l_kp) v0) sz) := by
  refine Met.ofW (cc := cX12_seed) (maxL := 3) (ret := (some .int)) (by decide) rfl ?_
  intro p e s m args below meth c s₁ B hml hv
  obtain ⟨rfl, hsz, hP, hKK, hD0⟩ := hv
  have hx := B.exec
  have hb := B.bytes
  have hr := B.returns
  have hts := atoms_spec (ws := wsX12_seed) B.pre
  have hown : s.vm.findClass RX12 = some m.cls := findClass_of_methodNamed B.named
  have hlocks := B.notSynchronized
  have hK := hKK.1
  have hin12 : ∀ w ∈ wsX120, w ∈ wsX12_seed := by decide +kernel
  subst hsz
  have hD := hD0.self (sz := s.heap.size)
  obtain ⟨A, hAe⟩ : ∃ A, A = va_A (wM cI b (mkM l_m l_z l_tp l_hs l_to l_tk l_wo l_so l_sz l_kp) v0) s.heap.size := ⟨_, rfl⟩
  rw [← hAe] at hD
  have hA : ∀ q : Nat, s.heap.size ≤ q → A q := fun q h => by rw [hAe]; exact Or.inr h
  have hS : va_S A s.heap s.heap [] := va_S.rf
  have hl := lv_entry ([.ref (b 0), .int x0]) (n := 3) (Nat.le_of_ble_eq_true rfl)
  rw [lg_entry_eq]
  generalize (lg_sl ([.ref (b 0), .int x0]) ++ List.replicate (3 - (lg_sl ([.ref (b 0), .int x0])).length) Slot.unset).toArray = ls at hl ⊢
  have hl : lv_has ls 3 [(0, .ref (b 0)), (1, .int x0)] := hl
  obtain ⟨v, hv9⟩ : ∃ v : SU, v = v0 := ⟨_, rfl⟩
  rw [← hv9] at hP hD hV
  have p_m : Rg 0 12 l_m := hL.1
  have p_tp : Rg 0 120 l_tp := hL.2.1
  have p_so : Ar (-1) 1 l_so := hL.2.2.1
  have p_sz : Ar 0 40 l_sz := hL.2.2.2.1
  have p_kp : Kp l_kp := hL.2.2.2.2.1
  have p_to : Rg 0 120 l_to := hL.2.2.2.2.2
  refine lv_aload_n hx hb dX12_seed_0 rfl (lv_at hl 0 rfl) ?_
  refine va_get (D := D) (ci := 12) (v := .int l_z) (C := RX12) (T := TX12) (N := 24) hx hb hts hin12 hown hK hP 0 rfl rfl 1 (by decide) (hts (.fieldLink RX12 7 "MissedPointsModel" "z" "I") (by decide +kernel)) (fun _ h9 => h9) rfl dX12_seed_1 ?_
  refine lv_istore_n (lv' := [(2, .int l_z), (0, .ref (b 0)), (1, .int x0)]) hx hb dX12_seed_4 rfl hl (by decide) rfl (fun ls hl => ?_)
  refine lv_aload_n hx hb dX12_seed_5 rfl (lv_at hl 1 rfl) ?_
  refine lv_iload_n hx hb dX12_seed_6 rfl (lv_at hl 2 rfl) ?_
  refine va_put (D := D) (ci := 12) (v := .int x0) (ty := .int) (C := RX12) (T := TX12) (N := 24) hx hb hts hin12 tyX12 tyX12_ok nmX12 hown hK hP hD hS 0 rfl rfl 1 (by decide) (hts (.fieldLink RX12 7 "MissedPointsModel" "z" "I") (by decide +kernel)) (fun _ h9 => h9) rfl (by decide +kernel) rfl rfl (Nat.le_of_ble_eq_true rfl) dX12_seed_7 (fun H locs hP hD hS => ?_)
  have hP : va_P D cls (wM cI b (mkM l_m x0 l_tp l_hs l_to l_tk l_wo l_so l_sz l_kp) v) H := hP
  have hD : va_D A (wM cI b (mkM l_m x0 l_tp l_hs l_to l_tk l_wo l_so l_sz l_kp) v) := hD
  refine lv_iload_n hx hb dX12_seed_10 rfl (lv_at hl 0 rfl) ?_
  subst hAe
  exact W.iret (v := l_z) hx hb hr (fun t ht hW => ⟨⟨_, (x0, v), rfl, ⟨hV, (rg_any l_z), (show l_z.toInt = l_z.toInt ∧ x0.toInt = x0.toInt from by have y90 : Rg 0 12 l_m := p_m; have y91 : Rg 0 120 l_tp := p_tp; have y92 : Rg 0 120 l_to := p_to; have y9c3 : (0 : Int32).toInt = 0 := (by decide); have y9c4 : (1 : Int32).toInt = 1 := (by decide); omega)⟩, by rw [ht]; exact hP, hD⟩, hS.F ht⟩) hS.2.2 dX12_seed_11
set_option maxHeartbeats 4000000 in
set_option maxRecDepth 100000 in
theorem w_X12_keeps_0 (l : Launch) (D : va_G) (cI cS : ClassId) (sz : Nat) (b : Nat → Nat) (l_m l_z l_tp l_hs l_to l_tk l_wo : Int32) (l_so l_sz l_kp : Nat → Int32) (v0 : SU) (hL : TyL (mkM l_m l_z l_tp l_hs l_to l_tk l_wo l_so l_sz l_kp)) (hV : TyV v0) : Met l yX12_keeps wsX12_keeps ({ frames := 0, cells := 0, slots := 0, locals := 0 }) (PQ D cI cS (wM cI b (mkM l_m l_z l_tp l_hs l_to l_tk l_wo l_so l_sz l_kp) v0) sz [.ref (b 0), .int 0]) (QE (S := (Nat → Int32) × SU) D (wM cI b (mkM l_m l_z l_tp l_hs l_to l_tk l_wo l_so l_sz l_kp) v0) (fun q => wM cI b (mkM l_m l_z l_tp l_hs l_to l_tk l_wo l_so l_sz q.1) q.2) sz (fun q => TyV q.2 ∧ Kp q.1 ∧ ((q.1 0).toInt = l_m.toInt ∧ (q.1 1).toInt = l_z.toInt ∧ (q.1 14).toInt = (l_kp 14).toInt ∧ (q.1 15).toInt = (l_kp 15).toInt))) 0 0 (va_A (wM cI b (mkM l_m l_z l_tp l_hs l_to l_tk l_wo l_so l_sz l_kp) v0) sz) := by
  refine Met.ofW (cc := cX12_keeps) (maxL := 4) (ret := none) (by decide) rfl ?_
  intro p e s m args below meth c s₁ B hml hv
  obtain ⟨rfl, hsz, hP, hKK, hD0⟩ := hv
  have hx := B.exec
  have hb := B.bytes
  have hr := B.returns
  have hts := atoms_spec (ws := wsX12_keeps) B.pre
  have hown : s.vm.findClass RX12 = some m.cls := findClass_of_methodNamed B.named
  have hlocks := B.notSynchronized
  have hK := hKK.1
  have hin12 : ∀ w ∈ wsX120, w ∈ wsX12_keeps := by decide +kernel
  subst hsz
  have hD := hD0.self (sz := s.heap.size)
  obtain ⟨A, hAe⟩ : ∃ A, A = va_A (wM cI b (mkM l_m l_z l_tp l_hs l_to l_tk l_wo l_so l_sz l_kp) v0) s.heap.size := ⟨_, rfl⟩
  rw [← hAe] at hD
  have hA : ∀ q : Nat, s.heap.size ≤ q → A q := fun q h => by rw [hAe]; exact Or.inr h
  have hS : va_S A s.heap s.heap [] := va_S.rf
  have hl := lv_entry ([.ref (b 0), .int 0]) (n := 4) (Nat.le_of_ble_eq_true rfl)
  rw [lg_entry_eq]
  generalize (lg_sl ([.ref (b 0), .int 0]) ++ List.replicate (4 - (lg_sl ([.ref (b 0), .int 0])).length) Slot.unset).toArray = ls at hl ⊢
  have hl : lv_has ls 4 [(0, .ref (b 0)), (1, .int 0)] := hl
  obtain ⟨v, hv9⟩ : ∃ v : SU, v = v0 := ⟨_, rfl⟩
  rw [← hv9] at hP hD hV
  have p_m : Rg 0 12 l_m := hL.1
  have p_tp : Rg 0 120 l_tp := hL.2.1
  have p_so : Ar (-1) 1 l_so := hL.2.2.1
  have p_sz : Ar 0 40 l_sz := hL.2.2.2.1
  have p_kp : Kp l_kp := hL.2.2.2.2.1
  have p_to : Rg 0 120 l_to := hL.2.2.2.2.2
  have lp29 : ∀ (n29 : Nat) (y29_l3 : Int32) (y29_kkp : Nat → Int32) (v : SU) (H : Heap) (locs : List Loc) (ls : Array Slot), Rg 0 12 y29_l3 → Kp y29_kkp → ((y29_kkp 0).toInt = l_m.toInt ∧ (y29_kkp 1).toInt = l_z.toInt ∧ (y29_kkp 14).toInt = (l_kp 14).toInt ∧ (y29_kkp 15).toInt = (l_kp 15).toInt) → TyV v → va_P D cls (wM cI b (mkM l_m l_z l_tp l_hs l_to l_tk l_wo l_so l_sz y29_kkp) v) H → va_D A (wM cI b (mkM l_m l_z l_tp l_hs l_to l_tk l_wo l_so l_sz y29_kkp) v) → va_S A s.heap H locs → lv_has ls 4 [(0, .ref (b 0)), (2, .int 0), (3, .int y29_l3)] → 12 - y29_l3.toInt < (n29 : Int) → W p l e (headSpec wsX12_keeps ({ frames := 0, cells := 0, slots := 0, locals := 0 })).room s m ([.ref (b 0), .int 0]).toArray below meth c H locs 0 0 (MQ below (QE (S := (Nat → Int32) × SU) D (wM cI b (mkM l_m l_z l_tp l_hs l_to l_tk l_wo l_so l_sz l_kp) v0) (fun q => wM cI b (mkM l_m l_z l_tp l_hs l_to l_tk l_wo l_so l_sz q.1) q.2) s.heap.size (fun q => TyV q.2 ∧ Kp q.1 ∧ ((q.1 0).toInt = l_m.toInt ∧ (q.1 1).toInt = l_z.toInt ∧ (q.1 14).toInt = (l_kp 14).toInt ∧ (q.1 15).toInt = (l_kp 15).toInt))) ([.ref (b 0), .int 0]).toArray s 0 0 (va_A (wM cI b (mkM l_m l_z l_tp l_hs l_to l_tk l_wo l_so l_sz l_kp) v0) s.heap.size)) (F0 m 29 ls []) := by
    intro n29
    induction n29 with
    | zero =>
      intro y29_l3 y29_kkp v H locs ls g29_l3 g29_kkp x29_0 hV hP hD hS hl hm29
      exact absurd rfl (me_z g29_l3 hm29)
    | succ n29 ih29 =>
      intro y29_l3 y29_kkp v H locs ls g29_l3 g29_kkp x29_0 hV hP hD hS hl hm29
      refine lv_iload_n hx hb dX12_keeps_29 rfl (lv_at hl 2 rfl) ?_
      refine lv_bipush (v := 12) hx hb dX12_keeps_30 (by decide) ?_
      refine lv_icmp_ge (tgt := 57) hx hb dX12_keeps_32 (by decide) (fun c20757 => ?_) (fun c20757 => ?_)
      · have g20758 : Rg 12 12 y29_l3 := rg_ler (by decide : Rg 12 12 (12 : Int32)) g29_l3 c20757 (by decide)
        subst hAe
        exact W.vret hx hb hr (fun t ht hW => ⟨⟨(y29_kkp, v), rfl, ⟨hV, g29_kkp, x29_0⟩, by rw [ht]; exact hP, hD⟩, hS.F ht⟩) hS.2.2 dX12_keeps_57
      · have g20759 : Rg 0 11 y29_l3 := rg_ltl g29_l3 (by decide : Rg 12 12 (12 : Int32)) (rg_nle c20757) (by decide)
        refine lv_aload_n hx hb dX12_keeps_35 rfl (lv_at hl 0 rfl) ?_
        refine va_get (D := D) (ci := 12) (v := .ref (b 15)) (C := RX12) (T := TX12) (N := 24) hx hb hts hin12 hown hK hP 0 rfl rfl 22 (by decide) (hts (.fieldLink RX12 56 "MissedPointsModel" "kept" "[I") (by decide +kernel)) (fun _ h9 => h9) rfl dX12_keeps_36 ?_
        refine lv_iload_n hx hb dX12_keeps_39 rfl (lv_at hl 1 rfl) ?_
        refine lv_iconst (v := 2) hx hb dX12_keeps_40 (by decide) ?_
        refine lv_iadd hx hb dX12_keeps_41 ?_
        refine lz_top (y := 2) (by decide) ?_
        refine lv_iload_n hx hb dX12_keeps_42 rfl (lv_at hl 2 rfl) ?_
        refine wk_iadd (e1 := 2) (f := 13) hx hb dX12_keeps_43 (by decide : Rg 2 2 (2 : Int32)) g20759 (by decide) (fun r20760 hr20760 er20760 qr20760 => ?_)
        refine lv_aload_n hx hb dX12_keeps_44 rfl (lv_at hl 0 rfl) ?_
        refine va_get (D := D) (ci := 12) (v := .ref (b 1)) (C := RX12) (T := TX12) (N := 24) hx hb hts hin12 hown hK hP 0 rfl rfl 2 (by decide) (hts (.fieldLink RX12 13 "MissedPointsModel" "near" "[I") (by decide +kernel)) (fun _ h9 => h9) rfl dX12_keeps_45 ?_
        refine lv_iload_n hx hb dX12_keeps_48 rfl (lv_at hl 2 rfl) ?_
        refine wk_ald hx hb hK hP 1 0 rfl rfl (rg_in g20759 (by decide) (by decide)) dX12_keeps_49 hV.1 (fun r20761 hr20761 => ?_)
        refine va_iast hx hb hK hP hD hS 15 0 rfl rfl (rg_in hr20760 (by decide) (by decide)) dX12_keeps_50 (fun H locs hP hD hS => ?_)
        have hP : va_P D cls (wM cI b (mkM l_m l_z l_tp l_hs l_to l_tk l_wo l_so l_sz (upd y29_kkp r20760.toNatClampNeg r20761)) v) H := hP
        have hD : va_D A (wM cI b (mkM l_m l_z l_tp l_hs l_to l_tk l_wo l_so l_sz (upd y29_kkp r20760.toNatClampNeg r20761)) v) := hD
        refine wk_iinc (lv' := fun r => [(3, .int r), (0, .ref (b 0)), (2, .int 0)]) (e1 := 1) (f := 12) hx hb dX12_keeps_51 hl (k := 2) rfl (by decide) g20759 (by decide) (fun _ => rfl) (fun r20762 ls hr20762 er20762 hl => ?_)
        refine lv_goto (tgt := 29) hx hb dX12_keeps_54 (by decide) ?_
        exact ih29 r20762 (upd y29_kkp r20760.toNatClampNeg r20761) v _ _ ls (show Rg 0 12 r20762 from rg_w hr20762 (by decide) (by decide)) (kp_a g29_kkp (wk_nat hr20760 (by decide)) hr20761) (by exact ⟨by rw [upd_ne (by have z9 := wk_nat (c := 2) (d := 14) hr20760 (by decide); omega)]; exact x29_0.1, by rw [upd_ne (by have z9 := wk_nat (c := 2) (d := 14) hr20760 (by decide); omega)]; exact x29_0.2.1, by rw [upd_ne (by have z9 := wk_nat (c := 2) (d := 14) hr20760 (by decide); omega)]; exact x29_0.2.2.1, by rw [upd_ne (by have z9 := wk_nat (c := 2) (d := 14) hr20760 (by decide); omega)]; exact x29_0.2.2.2⟩) hV hP hD hS (lv_sub (l' := [(0, .ref (b 0)), (2, .int 0), (3, .int r20762)]) hl [1, 2, 0] rfl) (me_up hm29 er20762 (by decide))
  refine lv_iload_n hx hb dX12_keeps_0 rfl (lv_at hl 1 rfl) ?_
  refine lv_bipush (v := 14) hx hb dX12_keeps_1 (by decide) ?_
  refine lv_imul hx hb dX12_keeps_3 ?_
  refine lz_top (y := 0) (by decide) ?_
  refine lv_istore_n (lv' := [(2, .int 0), (0, .ref (b 0)), (1, .int 0)]) hx hb dX12_keeps_4 rfl hl (by decide) rfl (fun ls hl => ?_)
  refine lv_aload_n hx hb dX12_keeps_5 rfl (lv_at hl 1 rfl) ?_
  refine va_get (D := D) (ci := 12) (v := .ref (b 15)) (C := RX12) (T := TX12) (N := 24) hx hb hts hin12 hown hK hP 0 rfl rfl 22 (by decide) (hts (.fieldLink RX12 56 "MissedPointsModel" "kept" "[I") (by decide +kernel)) (fun _ h9 => h9) rfl dX12_keeps_6 ?_
  refine lv_iload_n hx hb dX12_keeps_9 rfl (lv_at hl 0 rfl) ?_
  refine lv_aload_n hx hb dX12_keeps_10 rfl (lv_at hl 1 rfl) ?_
  refine va_get (D := D) (ci := 12) (v := .int l_m) (C := RX12) (T := TX12) (N := 24) hx hb hts hin12 hown hK hP 0 rfl rfl 0 (by decide) (hts (.fieldLink RX12 63 "MissedPointsModel" "many" "I") (by decide +kernel)) (fun _ h9 => h9) rfl dX12_keeps_11 ?_
  refine va_iast hx hb hK hP hD hS 15 0 rfl rfl (rg_in (by decide : Rg 0 0 (0 : Int32)) (by decide) (by decide)) dX12_keeps_14 (fun H locs hP hD hS => ?_)
  have hP : va_P D cls (wM cI b (mkM l_m l_z l_tp l_hs l_to l_tk l_wo l_so l_sz (upd l_kp 0 l_m)) v) H := hP
  have hD : va_D A (wM cI b (mkM l_m l_z l_tp l_hs l_to l_tk l_wo l_so l_sz (upd l_kp 0 l_m)) v) := hD
  refine lv_aload_n hx hb dX12_keeps_15 rfl (lv_at hl 1 rfl) ?_
  refine va_get (D := D) (ci := 12) (v := .ref (b 15)) (C := RX12) (T := TX12) (N := 24) hx hb hts hin12 hown hK hP 0 rfl rfl 22 (by decide) (hts (.fieldLink RX12 56 "MissedPointsModel" "kept" "[I") (by decide +kernel)) (fun _ h9 => h9) rfl dX12_keeps_16 ?_
  refine lv_iload_n hx hb dX12_keeps_19 rfl (lv_at hl 0 rfl) ?_
  refine lv_iconst (v := 1) hx hb dX12_keeps_20 (by decide) ?_
  refine lv_iadd hx hb dX12_keeps_21 ?_
  refine lz_top (y := 1) (by decide) ?_
  refine lv_aload_n hx hb dX12_keeps_22 rfl (lv_at hl 1 rfl) ?_
  refine va_get (D := D) (ci := 12) (v := .int l_z) (C := RX12) (T := TX12) (N := 24) hx hb hts hin12 hown hK hP 0 rfl rfl 1 (by decide) (hts (.fieldLink RX12 7 "MissedPointsModel" "z" "I") (by decide +kernel)) (fun _ h9 => h9) rfl dX12_keeps_23 ?_
  refine va_iast hx hb hK hP hD hS 15 0 rfl rfl (rg_in (by decide : Rg 1 1 (1 : Int32)) (by decide) (by decide)) dX12_keeps_26 (fun H locs hP hD hS => ?_)
  have hP : va_P D cls (wM cI b (mkM l_m l_z l_tp l_hs l_to l_tk l_wo l_so l_sz ((upd (upd l_kp 0 l_m) 1 l_z))) v) H := hP
  have hD : va_D A (wM cI b (mkM l_m l_z l_tp l_hs l_to l_tk l_wo l_so l_sz ((upd (upd l_kp 0 l_m) 1 l_z))) v) := hD
  refine lv_iconst (v := 0) hx hb dX12_keeps_27 (by decide) ?_
  refine lv_istore_n (lv' := [(3, .int 0), (2, .int 0), (0, .ref (b 0)), (1, .int 0)]) hx hb dX12_keeps_28 rfl hl (by decide) rfl (fun ls hl => ?_)
  exact lp29 13 (0 : Int32) ((upd (upd l_kp 0 l_m) 1 l_z)) v _ _ ls (by decide : Rg 0 12 (0 : Int32)) (kp_1 (kp_0 p_kp p_m)) (by exact ⟨rfl, rfl, rfl, rfl⟩) hV hP hD hS (lv_sub (l' := [(0, .ref (b 0)), (2, .int 0), (3, .int 0)]) hl [2, 1, 0] rfl) (me_i (by decide : Rg 0 12 (0 : Int32)) (by decide))
set_option maxHeartbeats 4000000 in
set_option maxRecDepth 100000 in
theorem w_X12_putsBack_0 (l : Launch) (D : va_G) (cI cS : ClassId) (sz : Nat) (b : Nat → Nat) (l_m l_z l_tp l_hs l_to l_tk l_wo : Int32) (l_so l_sz l_kp : Nat → Int32) (v0 : SU) (hL : TyL (mkM l_m l_z l_tp l_hs l_to l_tk l_wo l_so l_sz l_kp)) (hV : TyV v0) : Met l yX12_putsBack wsX12_putsBack ({ frames := 0, cells := 0, slots := 0, locals := 0 }) (PQ D cI cS (wM cI b (mkM l_m l_z l_tp l_hs l_to l_tk l_wo l_so l_sz l_kp) v0) sz [.ref (b 0), .int 0]) (QE (S := Int32 × Int32 × SU) D (wM cI b (mkM l_m l_z l_tp l_hs l_to l_tk l_wo l_so l_sz l_kp) v0) (fun q => wM cI b (mkM q.1 q.2.1 l_tp l_hs l_to l_tk l_wo l_so l_sz l_kp) q.2.2) sz (fun q => TyV q.2.2 ∧ Rg 0 12 q.1 ∧ (q.1.toInt = (l_kp 0).toInt ∧ q.2.1.toInt = (l_kp 1).toInt))) 0 0 (va_A (wM cI b (mkM l_m l_z l_tp l_hs l_to l_tk l_wo l_so l_sz l_kp) v0) sz) := by
  refine Met.ofW (cc := cX12_putsBack) (maxL := 4) (ret := none) (by decide) rfl ?_
  intro p e s m args below meth c s₁ B hml hv
  obtain ⟨rfl, hsz, hP, hKK, hD0⟩ := hv
  have hx := B.exec
  have hb := B.bytes
  have hr := B.returns
  have hts := atoms_spec (ws := wsX12_putsBack) B.pre
  have hown : s.vm.findClass RX12 = some m.cls := findClass_of_methodNamed B.named
  have hlocks := B.notSynchronized
  have hK := hKK.1
  have hin12 : ∀ w ∈ wsX120, w ∈ wsX12_putsBack := by decide +kernel
  subst hsz
  have hD := hD0.self (sz := s.heap.size)
  obtain ⟨A, hAe⟩ : ∃ A, A = va_A (wM cI b (mkM l_m l_z l_tp l_hs l_to l_tk l_wo l_so l_sz l_kp) v0) s.heap.size := ⟨_, rfl⟩
  rw [← hAe] at hD
  have hA : ∀ q : Nat, s.heap.size ≤ q → A q := fun q h => by rw [hAe]; exact Or.inr h
  have hS : va_S A s.heap s.heap [] := va_S.rf
  have hl := lv_entry ([.ref (b 0), .int 0]) (n := 4) (Nat.le_of_ble_eq_true rfl)
  rw [lg_entry_eq]
  generalize (lg_sl ([.ref (b 0), .int 0]) ++ List.replicate (4 - (lg_sl ([.ref (b 0), .int 0])).length) Slot.unset).toArray = ls at hl ⊢
  have hl : lv_has ls 4 [(0, .ref (b 0)), (1, .int 0)] := hl
  obtain ⟨v, hv9⟩ : ∃ v : SU, v = v0 := ⟨_, rfl⟩
  rw [← hv9] at hP hD hV
  have p_m : Rg 0 12 l_m := hL.1
  have p_tp : Rg 0 120 l_tp := hL.2.1
  have p_so : Ar (-1) 1 l_so := hL.2.2.1
  have p_sz : Ar 0 40 l_sz := hL.2.2.2.1
  have p_kp : Kp l_kp := hL.2.2.2.2.1
  have p_to : Rg 0 120 l_to := hL.2.2.2.2.2
  have lp29 : ∀ (n29 : Nat) (y29_l3 : Int32) (v : SU) (H : Heap) (locs : List Loc) (ls : Array Slot), Rg 0 12 y29_l3 → Rg 0 12 (l_kp 0) → TyV v → va_P D cls (wM cI b (mkM (l_kp 0) (l_kp 1) l_tp l_hs l_to l_tk l_wo l_so l_sz l_kp) v) H → va_D A (wM cI b (mkM (l_kp 0) (l_kp 1) l_tp l_hs l_to l_tk l_wo l_so l_sz l_kp) v) → va_S A s.heap H locs → lv_has ls 4 [(0, .ref (b 0)), (2, .int 0), (3, .int y29_l3)] → 12 - y29_l3.toInt < (n29 : Int) → W p l e (headSpec wsX12_putsBack ({ frames := 0, cells := 0, slots := 0, locals := 0 })).room s m ([.ref (b 0), .int 0]).toArray below meth c H locs 0 0 (MQ below (QE (S := Int32 × Int32 × SU) D (wM cI b (mkM l_m l_z l_tp l_hs l_to l_tk l_wo l_so l_sz l_kp) v0) (fun q => wM cI b (mkM q.1 q.2.1 l_tp l_hs l_to l_tk l_wo l_so l_sz l_kp) q.2.2) s.heap.size (fun q => TyV q.2.2 ∧ Rg 0 12 q.1 ∧ (q.1.toInt = (l_kp 0).toInt ∧ q.2.1.toInt = (l_kp 1).toInt))) ([.ref (b 0), .int 0]).toArray s 0 0 (va_A (wM cI b (mkM l_m l_z l_tp l_hs l_to l_tk l_wo l_so l_sz l_kp) v0) s.heap.size)) (F0 m 29 ls []) := by
    intro n29
    induction n29 with
    | zero =>
      intro y29_l3 v H locs ls g29_l3 g29_km hV hP hD hS hl hm29
      exact absurd rfl (me_z g29_l3 hm29)
    | succ n29 ih29 =>
      intro y29_l3 v H locs ls g29_l3 g29_km hV hP hD hS hl hm29
      refine lv_iload_n hx hb dX12_putsBack_29 rfl (lv_at hl 2 rfl) ?_
      refine lv_bipush (v := 12) hx hb dX12_putsBack_30 (by decide) ?_
      refine lv_icmp_ge (tgt := 57) hx hb dX12_putsBack_32 (by decide) (fun c20827 => ?_) (fun c20827 => ?_)
      · have g20828 : Rg 12 12 y29_l3 := rg_ler (by decide : Rg 12 12 (12 : Int32)) g29_l3 c20827 (by decide)
        subst hAe
        exact W.vret hx hb hr (fun t ht hW => ⟨⟨((l_kp 0), (l_kp 1), v), rfl, ⟨hV, g29_km, (show (l_kp 0).toInt = (l_kp 0).toInt ∧ (l_kp 1).toInt = (l_kp 1).toInt from by have y90 : (12 : Int32).toInt ≤ y29_l3.toInt := (lz_le _ _).mp c20827; have y91 : Rg 12 12 y29_l3 := g20828; have y92 : Rg 12 12 y29_l3 := g20828; have y93 : Rg 0 12 (l_kp 0) := g29_km; have y94 : Rg 0 120 l_tp := p_tp; have y95 : Rg 0 120 l_to := p_to; have y9c6 : (0 : Int32).toInt = 0 := (by decide); have y9c7 : (1 : Int32).toInt = 1 := (by decide); have y9c8 : (12 : Int32).toInt = 12 := (by decide); omega)⟩, by rw [ht]; exact hP, hD⟩, hS.F ht⟩) hS.2.2 dX12_putsBack_57
      · have g20829 : Rg 0 11 y29_l3 := rg_ltl g29_l3 (by decide : Rg 12 12 (12 : Int32)) (rg_nle c20827) (by decide)
        refine lv_aload_n hx hb dX12_putsBack_35 rfl (lv_at hl 0 rfl) ?_
        refine va_get (D := D) (ci := 12) (v := .ref (b 1)) (C := RX12) (T := TX12) (N := 24) hx hb hts hin12 hown hK hP 0 rfl rfl 2 (by decide) (hts (.fieldLink RX12 13 "MissedPointsModel" "near" "[I") (by decide +kernel)) (fun _ h9 => h9) rfl dX12_putsBack_36 ?_
        refine lv_iload_n hx hb dX12_putsBack_39 rfl (lv_at hl 2 rfl) ?_
        refine lv_aload_n hx hb dX12_putsBack_40 rfl (lv_at hl 0 rfl) ?_
        refine va_get (D := D) (ci := 12) (v := .ref (b 15)) (C := RX12) (T := TX12) (N := 24) hx hb hts hin12 hown hK hP 0 rfl rfl 22 (by decide) (hts (.fieldLink RX12 56 "MissedPointsModel" "kept" "[I") (by decide +kernel)) (fun _ h9 => h9) rfl dX12_putsBack_41 ?_
        refine lv_iload_n hx hb dX12_putsBack_44 rfl (lv_at hl 1 rfl) ?_
        refine lv_iconst (v := 2) hx hb dX12_putsBack_45 (by decide) ?_
        refine lv_iadd hx hb dX12_putsBack_46 ?_
        refine lz_top (y := 2) (by decide) ?_
        refine lv_iload_n hx hb dX12_putsBack_47 rfl (lv_at hl 2 rfl) ?_
        refine wk_iadd (e1 := 2) (f := 13) hx hb dX12_putsBack_48 (by decide : Rg 2 2 (2 : Int32)) g20829 (by decide) (fun r20830 hr20830 er20830 qr20830 => ?_)
        refine va_iald hx hb hK hP 15 0 rfl rfl (rg_in hr20830 (by decide) (by decide)) dX12_putsBack_49 ?_
        refine wk_topP (P := Rg 0 4095) (p_kp.2.2.1 _ (wk_nat (c := 2) (d := 14) hr20830 (by decide)).1 (wk_nat (c := 2) (d := 14) hr20830 (by decide)).2) (fun r20831 hr20831 => ?_)
        refine ms_1 hx hb hK hP hD hS hV rfl (rg_in g20829 (by decide) (by decide)) hr20831 dX12_putsBack_50 (fun v H locs hV ev20832 hP hD hS => ?_)
        refine wk_iinc (lv' := fun r => [(3, .int r), (0, .ref (b 0)), (2, .int 0)]) (e1 := 1) (f := 12) hx hb dX12_putsBack_51 hl (k := 2) rfl (by decide) g20829 (by decide) (fun _ => rfl) (fun r20833 ls hr20833 er20833 hl => ?_)
        refine lv_goto (tgt := 29) hx hb dX12_putsBack_54 (by decide) ?_
        exact ih29 r20833 v _ _ ls (show Rg 0 12 r20833 from rg_w hr20833 (by decide) (by decide)) g29_km hV hP hD hS (lv_sub (l' := [(0, .ref (b 0)), (2, .int 0), (3, .int r20833)]) hl [1, 2, 0] rfl) (me_up hm29 er20833 (by decide))
  refine lv_iload_n hx hb dX12_putsBack_0 rfl (lv_at hl 1 rfl) ?_
  refine lv_bipush (v := 14) hx hb dX12_putsBack_1 (by decide) ?_
  refine lv_imul hx hb dX12_putsBack_3 ?_
  refine lz_top (y := 0) (by decide) ?_
  refine lv_istore_n (lv' := [(2, .int 0), (0, .ref (b 0)), (1, .int 0)]) hx hb dX12_putsBack_4 rfl hl (by decide) rfl (fun ls hl => ?_)
  refine lv_aload_n hx hb dX12_putsBack_5 rfl (lv_at hl 1 rfl) ?_
  refine lv_aload_n hx hb dX12_putsBack_6 rfl (lv_at hl 1 rfl) ?_
  refine va_get (D := D) (ci := 12) (v := .ref (b 15)) (C := RX12) (T := TX12) (N := 24) hx hb hts hin12 hown hK hP 0 rfl rfl 22 (by decide) (hts (.fieldLink RX12 56 "MissedPointsModel" "kept" "[I") (by decide +kernel)) (fun _ h9 => h9) rfl dX12_putsBack_7 ?_
  refine lv_iload_n hx hb dX12_putsBack_10 rfl (lv_at hl 0 rfl) ?_
  refine va_iald hx hb hK hP 15 0 rfl rfl (rg_in (by decide : Rg 0 0 (0 : Int32)) (by decide) (by decide)) dX12_putsBack_11 ?_
  refine lz_top (y := (l_kp 0)) rfl ?_
  refine va_put (D := D) (ci := 12) (v := .int (l_kp 0)) (ty := .int) (C := RX12) (T := TX12) (N := 24) hx hb hts hin12 tyX12 tyX12_ok nmX12 hown hK hP hD hS 0 rfl rfl 0 (by decide) (hts (.fieldLink RX12 63 "MissedPointsModel" "many" "I") (by decide +kernel)) (fun _ h9 => h9) rfl (by decide +kernel) rfl rfl (Nat.le_of_ble_eq_true rfl) dX12_putsBack_12 (fun H locs hP hD hS => ?_)
  have hP : va_P D cls (wM cI b (mkM (l_kp 0) l_z l_tp l_hs l_to l_tk l_wo l_so l_sz l_kp) v) H := hP
  have hD : va_D A (wM cI b (mkM (l_kp 0) l_z l_tp l_hs l_to l_tk l_wo l_so l_sz l_kp) v) := hD
  refine lv_aload_n hx hb dX12_putsBack_15 rfl (lv_at hl 1 rfl) ?_
  refine lv_aload_n hx hb dX12_putsBack_16 rfl (lv_at hl 1 rfl) ?_
  refine va_get (D := D) (ci := 12) (v := .ref (b 15)) (C := RX12) (T := TX12) (N := 24) hx hb hts hin12 hown hK hP 0 rfl rfl 22 (by decide) (hts (.fieldLink RX12 56 "MissedPointsModel" "kept" "[I") (by decide +kernel)) (fun _ h9 => h9) rfl dX12_putsBack_17 ?_
  refine lv_iload_n hx hb dX12_putsBack_20 rfl (lv_at hl 0 rfl) ?_
  refine lv_iconst (v := 1) hx hb dX12_putsBack_21 (by decide) ?_
  refine lv_iadd hx hb dX12_putsBack_22 ?_
  refine lz_top (y := 1) (by decide) ?_
  refine va_iald hx hb hK hP 15 0 rfl rfl (rg_in (by decide : Rg 1 1 (1 : Int32)) (by decide) (by decide)) dX12_putsBack_23 ?_
  refine lz_top (y := (l_kp 1)) rfl ?_
  refine va_put (D := D) (ci := 12) (v := .int (l_kp 1)) (ty := .int) (C := RX12) (T := TX12) (N := 24) hx hb hts hin12 tyX12 tyX12_ok nmX12 hown hK hP hD hS 0 rfl rfl 1 (by decide) (hts (.fieldLink RX12 7 "MissedPointsModel" "z" "I") (by decide +kernel)) (fun _ h9 => h9) rfl (by decide +kernel) rfl rfl (Nat.le_of_ble_eq_true rfl) dX12_putsBack_24 (fun H locs hP hD hS => ?_)
  have hP : va_P D cls (wM cI b (mkM (l_kp 0) (l_kp 1) l_tp l_hs l_to l_tk l_wo l_so l_sz l_kp) v) H := hP
  have hD : va_D A (wM cI b (mkM (l_kp 0) (l_kp 1) l_tp l_hs l_to l_tk l_wo l_so l_sz l_kp) v) := hD
  refine lv_iconst (v := 0) hx hb dX12_putsBack_27 (by decide) ?_
  refine lv_istore_n (lv' := [(3, .int 0), (2, .int 0), (0, .ref (b 0)), (1, .int 0)]) hx hb dX12_putsBack_28 rfl hl (by decide) rfl (fun ls hl => ?_)
  exact lp29 13 (0 : Int32) v _ _ ls (by decide : Rg 0 12 (0 : Int32)) p_kp.1 hV hP hD hS (lv_sub (l' := [(0, .ref (b 0)), (2, .int 0), (3, .int 0)]) hl [2, 1, 0] rfl) (me_i (by decide : Rg 0 12 (0 : Int32)) (by decide))
set_option maxHeartbeats 4000000 in
set_option maxRecDepth 100000 in
theorem w_X12_keeps_1 (l : Launch) (D : va_G) (cI cS : ClassId) (sz : Nat) (b : Nat → Nat) (l_m l_z l_tp l_hs l_to l_tk l_wo : Int32) (l_so l_sz l_kp : Nat → Int32) (v0 : SU) (hL : TyL (mkM l_m l_z l_tp l_hs l_to l_tk l_wo l_so l_sz l_kp)) (hV : TyV v0) : Met l yX12_keeps wsX12_keeps ({ frames := 0, cells := 0, slots := 0, locals := 0 }) (PQ D cI cS (wM cI b (mkM l_m l_z l_tp l_hs l_to l_tk l_wo l_so l_sz l_kp) v0) sz [.ref (b 0), .int 1]) (QE (S := (Nat → Int32) × SU) D (wM cI b (mkM l_m l_z l_tp l_hs l_to l_tk l_wo l_so l_sz l_kp) v0) (fun q => wM cI b (mkM l_m l_z l_tp l_hs l_to l_tk l_wo l_so l_sz q.1) q.2) sz (fun q => TyV q.2 ∧ Kp q.1 ∧ ((q.1 14).toInt = l_m.toInt ∧ (q.1 15).toInt = l_z.toInt ∧ (q.1 0).toInt = (l_kp 0).toInt ∧ (q.1 1).toInt = (l_kp 1).toInt))) 0 0 (va_A (wM cI b (mkM l_m l_z l_tp l_hs l_to l_tk l_wo l_so l_sz l_kp) v0) sz) := by
  refine Met.ofW (cc := cX12_keeps) (maxL := 4) (ret := none) (by decide) rfl ?_
  intro p e s m args below meth c s₁ B hml hv
  obtain ⟨rfl, hsz, hP, hKK, hD0⟩ := hv
  have hx := B.exec
  have hb := B.bytes
  have hr := B.returns
  have hts := atoms_spec (ws := wsX12_keeps) B.pre
  have hown : s.vm.findClass RX12 = some m.cls := findClass_of_methodNamed B.named
  have hlocks := B.notSynchronized
  have hK := hKK.1
  have hin12 : ∀ w ∈ wsX120, w ∈ wsX12_keeps := by decide +kernel
  subst hsz
  have hD := hD0.self (sz := s.heap.size)
  obtain ⟨A, hAe⟩ : ∃ A, A = va_A (wM cI b (mkM l_m l_z l_tp l_hs l_to l_tk l_wo l_so l_sz l_kp) v0) s.heap.size := ⟨_, rfl⟩
  rw [← hAe] at hD
  have hA : ∀ q : Nat, s.heap.size ≤ q → A q := fun q h => by rw [hAe]; exact Or.inr h
  have hS : va_S A s.heap s.heap [] := va_S.rf
  have hl := lv_entry ([.ref (b 0), .int 1]) (n := 4) (Nat.le_of_ble_eq_true rfl)
  rw [lg_entry_eq]
  generalize (lg_sl ([.ref (b 0), .int 1]) ++ List.replicate (4 - (lg_sl ([.ref (b 0), .int 1])).length) Slot.unset).toArray = ls at hl ⊢
  have hl : lv_has ls 4 [(0, .ref (b 0)), (1, .int 1)] := hl
  obtain ⟨v, hv9⟩ : ∃ v : SU, v = v0 := ⟨_, rfl⟩
  rw [← hv9] at hP hD hV
  have p_m : Rg 0 12 l_m := hL.1
  have p_tp : Rg 0 120 l_tp := hL.2.1
  have p_so : Ar (-1) 1 l_so := hL.2.2.1
  have p_sz : Ar 0 40 l_sz := hL.2.2.2.1
  have p_kp : Kp l_kp := hL.2.2.2.2.1
  have p_to : Rg 0 120 l_to := hL.2.2.2.2.2
  have lp29 : ∀ (n29 : Nat) (y29_l3 : Int32) (y29_kkp : Nat → Int32) (v : SU) (H : Heap) (locs : List Loc) (ls : Array Slot), Rg 0 12 y29_l3 → Kp y29_kkp → ((y29_kkp 14).toInt = l_m.toInt ∧ (y29_kkp 15).toInt = l_z.toInt ∧ (y29_kkp 0).toInt = (l_kp 0).toInt ∧ (y29_kkp 1).toInt = (l_kp 1).toInt) → TyV v → va_P D cls (wM cI b (mkM l_m l_z l_tp l_hs l_to l_tk l_wo l_so l_sz y29_kkp) v) H → va_D A (wM cI b (mkM l_m l_z l_tp l_hs l_to l_tk l_wo l_so l_sz y29_kkp) v) → va_S A s.heap H locs → lv_has ls 4 [(0, .ref (b 0)), (2, .int 14), (3, .int y29_l3)] → 12 - y29_l3.toInt < (n29 : Int) → W p l e (headSpec wsX12_keeps ({ frames := 0, cells := 0, slots := 0, locals := 0 })).room s m ([.ref (b 0), .int 1]).toArray below meth c H locs 0 0 (MQ below (QE (S := (Nat → Int32) × SU) D (wM cI b (mkM l_m l_z l_tp l_hs l_to l_tk l_wo l_so l_sz l_kp) v0) (fun q => wM cI b (mkM l_m l_z l_tp l_hs l_to l_tk l_wo l_so l_sz q.1) q.2) s.heap.size (fun q => TyV q.2 ∧ Kp q.1 ∧ ((q.1 14).toInt = l_m.toInt ∧ (q.1 15).toInt = l_z.toInt ∧ (q.1 0).toInt = (l_kp 0).toInt ∧ (q.1 1).toInt = (l_kp 1).toInt))) ([.ref (b 0), .int 1]).toArray s 0 0 (va_A (wM cI b (mkM l_m l_z l_tp l_hs l_to l_tk l_wo l_so l_sz l_kp) v0) s.heap.size)) (F0 m 29 ls []) := by
    intro n29
    induction n29 with
    | zero =>
      intro y29_l3 y29_kkp v H locs ls g29_l3 g29_kkp x29_0 hV hP hD hS hl hm29
      exact absurd rfl (me_z g29_l3 hm29)
    | succ n29 ih29 =>
      intro y29_l3 y29_kkp v H locs ls g29_l3 g29_kkp x29_0 hV hP hD hS hl hm29
      refine lv_iload_n hx hb dX12_keeps_29 rfl (lv_at hl 2 rfl) ?_
      refine lv_bipush (v := 12) hx hb dX12_keeps_30 (by decide) ?_
      refine lv_icmp_ge (tgt := 57) hx hb dX12_keeps_32 (by decide) (fun c20873 => ?_) (fun c20873 => ?_)
      · have g20874 : Rg 12 12 y29_l3 := rg_ler (by decide : Rg 12 12 (12 : Int32)) g29_l3 c20873 (by decide)
        subst hAe
        exact W.vret hx hb hr (fun t ht hW => ⟨⟨(y29_kkp, v), rfl, ⟨hV, g29_kkp, x29_0⟩, by rw [ht]; exact hP, hD⟩, hS.F ht⟩) hS.2.2 dX12_keeps_57
      · have g20875 : Rg 0 11 y29_l3 := rg_ltl g29_l3 (by decide : Rg 12 12 (12 : Int32)) (rg_nle c20873) (by decide)
        refine lv_aload_n hx hb dX12_keeps_35 rfl (lv_at hl 0 rfl) ?_
        refine va_get (D := D) (ci := 12) (v := .ref (b 15)) (C := RX12) (T := TX12) (N := 24) hx hb hts hin12 hown hK hP 0 rfl rfl 22 (by decide) (hts (.fieldLink RX12 56 "MissedPointsModel" "kept" "[I") (by decide +kernel)) (fun _ h9 => h9) rfl dX12_keeps_36 ?_
        refine lv_iload_n hx hb dX12_keeps_39 rfl (lv_at hl 1 rfl) ?_
        refine lv_iconst (v := 2) hx hb dX12_keeps_40 (by decide) ?_
        refine lv_iadd hx hb dX12_keeps_41 ?_
        refine lz_top (y := 16) (by decide) ?_
        refine lv_iload_n hx hb dX12_keeps_42 rfl (lv_at hl 2 rfl) ?_
        refine wk_iadd (e1 := 16) (f := 27) hx hb dX12_keeps_43 (by decide : Rg 16 16 (16 : Int32)) g20875 (by decide) (fun r20876 hr20876 er20876 qr20876 => ?_)
        refine lv_aload_n hx hb dX12_keeps_44 rfl (lv_at hl 0 rfl) ?_
        refine va_get (D := D) (ci := 12) (v := .ref (b 1)) (C := RX12) (T := TX12) (N := 24) hx hb hts hin12 hown hK hP 0 rfl rfl 2 (by decide) (hts (.fieldLink RX12 13 "MissedPointsModel" "near" "[I") (by decide +kernel)) (fun _ h9 => h9) rfl dX12_keeps_45 ?_
        refine lv_iload_n hx hb dX12_keeps_48 rfl (lv_at hl 2 rfl) ?_
        refine wk_ald hx hb hK hP 1 0 rfl rfl (rg_in g20875 (by decide) (by decide)) dX12_keeps_49 hV.1 (fun r20877 hr20877 => ?_)
        refine va_iast hx hb hK hP hD hS 15 0 rfl rfl (rg_in hr20876 (by decide) (by decide)) dX12_keeps_50 (fun H locs hP hD hS => ?_)
        have hP : va_P D cls (wM cI b (mkM l_m l_z l_tp l_hs l_to l_tk l_wo l_so l_sz (upd y29_kkp r20876.toNatClampNeg r20877)) v) H := hP
        have hD : va_D A (wM cI b (mkM l_m l_z l_tp l_hs l_to l_tk l_wo l_so l_sz (upd y29_kkp r20876.toNatClampNeg r20877)) v) := hD
        refine wk_iinc (lv' := fun r => [(3, .int r), (0, .ref (b 0)), (2, .int 14)]) (e1 := 1) (f := 12) hx hb dX12_keeps_51 hl (k := 2) rfl (by decide) g20875 (by decide) (fun _ => rfl) (fun r20878 ls hr20878 er20878 hl => ?_)
        refine lv_goto (tgt := 29) hx hb dX12_keeps_54 (by decide) ?_
        exact ih29 r20878 (upd y29_kkp r20876.toNatClampNeg r20877) v _ _ ls (show Rg 0 12 r20878 from rg_w hr20878 (by decide) (by decide)) (kp_b g29_kkp (wk_nat hr20876 (by decide)) hr20877) (by exact ⟨by rw [upd_ne (by have z9 := wk_nat (c := 16) (d := 28) hr20876 (by decide); omega)]; exact x29_0.1, by rw [upd_ne (by have z9 := wk_nat (c := 16) (d := 28) hr20876 (by decide); omega)]; exact x29_0.2.1, by rw [upd_ne (by have z9 := wk_nat (c := 16) (d := 28) hr20876 (by decide); omega)]; exact x29_0.2.2.1, by rw [upd_ne (by have z9 := wk_nat (c := 16) (d := 28) hr20876 (by decide); omega)]; exact x29_0.2.2.2⟩) hV hP hD hS (lv_sub (l' := [(0, .ref (b 0)), (2, .int 14), (3, .int r20878)]) hl [1, 2, 0] rfl) (me_up hm29 er20878 (by decide))
  refine lv_iload_n hx hb dX12_keeps_0 rfl (lv_at hl 1 rfl) ?_
  refine lv_bipush (v := 14) hx hb dX12_keeps_1 (by decide) ?_
  refine lv_imul hx hb dX12_keeps_3 ?_
  refine lz_top (y := 14) (by decide) ?_
  refine lv_istore_n (lv' := [(2, .int 14), (0, .ref (b 0)), (1, .int 1)]) hx hb dX12_keeps_4 rfl hl (by decide) rfl (fun ls hl => ?_)
  refine lv_aload_n hx hb dX12_keeps_5 rfl (lv_at hl 1 rfl) ?_
  refine va_get (D := D) (ci := 12) (v := .ref (b 15)) (C := RX12) (T := TX12) (N := 24) hx hb hts hin12 hown hK hP 0 rfl rfl 22 (by decide) (hts (.fieldLink RX12 56 "MissedPointsModel" "kept" "[I") (by decide +kernel)) (fun _ h9 => h9) rfl dX12_keeps_6 ?_
  refine lv_iload_n hx hb dX12_keeps_9 rfl (lv_at hl 0 rfl) ?_
  refine lv_aload_n hx hb dX12_keeps_10 rfl (lv_at hl 1 rfl) ?_
  refine va_get (D := D) (ci := 12) (v := .int l_m) (C := RX12) (T := TX12) (N := 24) hx hb hts hin12 hown hK hP 0 rfl rfl 0 (by decide) (hts (.fieldLink RX12 63 "MissedPointsModel" "many" "I") (by decide +kernel)) (fun _ h9 => h9) rfl dX12_keeps_11 ?_
  refine va_iast hx hb hK hP hD hS 15 0 rfl rfl (rg_in (by decide : Rg 14 14 (14 : Int32)) (by decide) (by decide)) dX12_keeps_14 (fun H locs hP hD hS => ?_)
  have hP : va_P D cls (wM cI b (mkM l_m l_z l_tp l_hs l_to l_tk l_wo l_so l_sz (upd l_kp 14 l_m)) v) H := hP
  have hD : va_D A (wM cI b (mkM l_m l_z l_tp l_hs l_to l_tk l_wo l_so l_sz (upd l_kp 14 l_m)) v) := hD
  refine lv_aload_n hx hb dX12_keeps_15 rfl (lv_at hl 1 rfl) ?_
  refine va_get (D := D) (ci := 12) (v := .ref (b 15)) (C := RX12) (T := TX12) (N := 24) hx hb hts hin12 hown hK hP 0 rfl rfl 22 (by decide) (hts (.fieldLink RX12 56 "MissedPointsModel" "kept" "[I") (by decide +kernel)) (fun _ h9 => h9) rfl dX12_keeps_16 ?_
  refine lv_iload_n hx hb dX12_keeps_19 rfl (lv_at hl 0 rfl) ?_
  refine lv_iconst (v := 1) hx hb dX12_keeps_20 (by decide) ?_
  refine lv_iadd hx hb dX12_keeps_21 ?_
  refine lz_top (y := 15) (by decide) ?_
  refine lv_aload_n hx hb dX12_keeps_22 rfl (lv_at hl 1 rfl) ?_
  refine va_get (D := D) (ci := 12) (v := .int l_z) (C := RX12) (T := TX12) (N := 24) hx hb hts hin12 hown hK hP 0 rfl rfl 1 (by decide) (hts (.fieldLink RX12 7 "MissedPointsModel" "z" "I") (by decide +kernel)) (fun _ h9 => h9) rfl dX12_keeps_23 ?_
  refine va_iast hx hb hK hP hD hS 15 0 rfl rfl (rg_in (by decide : Rg 15 15 (15 : Int32)) (by decide) (by decide)) dX12_keeps_26 (fun H locs hP hD hS => ?_)
  have hP : va_P D cls (wM cI b (mkM l_m l_z l_tp l_hs l_to l_tk l_wo l_so l_sz ((upd (upd l_kp 14 l_m) 15 l_z))) v) H := hP
  have hD : va_D A (wM cI b (mkM l_m l_z l_tp l_hs l_to l_tk l_wo l_so l_sz ((upd (upd l_kp 14 l_m) 15 l_z))) v) := hD
  refine lv_iconst (v := 0) hx hb dX12_keeps_27 (by decide) ?_
  refine lv_istore_n (lv' := [(3, .int 0), (2, .int 14), (0, .ref (b 0)), (1, .int 1)]) hx hb dX12_keeps_28 rfl hl (by decide) rfl (fun ls hl => ?_)
  exact lp29 13 (0 : Int32) ((upd (upd l_kp 14 l_m) 15 l_z)) v _ _ ls (by decide : Rg 0 12 (0 : Int32)) (kp_15 (kp_14 p_kp p_m)) (by exact ⟨rfl, rfl, rfl, rfl⟩) hV hP hD hS (lv_sub (l' := [(0, .ref (b 0)), (2, .int 14), (3, .int 0)]) hl [2, 1, 0] rfl) (me_i (by decide : Rg 0 12 (0 : Int32)) (by decide))
set_option maxHeartbeats 4000000 in
set_option maxRecDepth 100000 in
theorem w_X12_putsBack_1 (l : Launch) (D : va_G) (cI cS : ClassId) (sz : Nat) (b : Nat → Nat) (l_m l_z l_tp l_hs l_to l_tk l_wo : Int32) (l_so l_sz l_kp : Nat → Int32) (v0 : SU) (hL : TyL (mkM l_m l_z l_tp l_hs l_to l_tk l_wo l_so l_sz l_kp)) (hV : TyV v0) : Met l yX12_putsBack wsX12_putsBack ({ frames := 0, cells := 0, slots := 0, locals := 0 }) (PQ D cI cS (wM cI b (mkM l_m l_z l_tp l_hs l_to l_tk l_wo l_so l_sz l_kp) v0) sz [.ref (b 0), .int 1]) (QE (S := Int32 × Int32 × SU) D (wM cI b (mkM l_m l_z l_tp l_hs l_to l_tk l_wo l_so l_sz l_kp) v0) (fun q => wM cI b (mkM q.1 q.2.1 l_tp l_hs l_to l_tk l_wo l_so l_sz l_kp) q.2.2) sz (fun q => TyV q.2.2 ∧ Rg 0 12 q.1 ∧ (q.1.toInt = (l_kp 14).toInt ∧ q.2.1.toInt = (l_kp 15).toInt))) 0 0 (va_A (wM cI b (mkM l_m l_z l_tp l_hs l_to l_tk l_wo l_so l_sz l_kp) v0) sz) := by
  refine Met.ofW (cc := cX12_putsBack) (maxL := 4) (ret := none) (by decide) rfl ?_
  intro p e s m args below meth c s₁ B hml hv
  obtain ⟨rfl, hsz, hP, hKK, hD0⟩ := hv
  have hx := B.exec
  have hb := B.bytes
  have hr := B.returns
  have hts := atoms_spec (ws := wsX12_putsBack) B.pre
  have hown : s.vm.findClass RX12 = some m.cls := findClass_of_methodNamed B.named
  have hlocks := B.notSynchronized
  have hK := hKK.1
  have hin12 : ∀ w ∈ wsX120, w ∈ wsX12_putsBack := by decide +kernel
  subst hsz
  have hD := hD0.self (sz := s.heap.size)
  obtain ⟨A, hAe⟩ : ∃ A, A = va_A (wM cI b (mkM l_m l_z l_tp l_hs l_to l_tk l_wo l_so l_sz l_kp) v0) s.heap.size := ⟨_, rfl⟩
  rw [← hAe] at hD
  have hA : ∀ q : Nat, s.heap.size ≤ q → A q := fun q h => by rw [hAe]; exact Or.inr h
  have hS : va_S A s.heap s.heap [] := va_S.rf
  have hl := lv_entry ([.ref (b 0), .int 1]) (n := 4) (Nat.le_of_ble_eq_true rfl)
  rw [lg_entry_eq]
  generalize (lg_sl ([.ref (b 0), .int 1]) ++ List.replicate (4 - (lg_sl ([.ref (b 0), .int 1])).length) Slot.unset).toArray = ls at hl ⊢
  have hl : lv_has ls 4 [(0, .ref (b 0)), (1, .int 1)] := hl
  obtain ⟨v, hv9⟩ : ∃ v : SU, v = v0 := ⟨_, rfl⟩
  rw [← hv9] at hP hD hV
  have p_m : Rg 0 12 l_m := hL.1
  have p_tp : Rg 0 120 l_tp := hL.2.1
  have p_so : Ar (-1) 1 l_so := hL.2.2.1
  have p_sz : Ar 0 40 l_sz := hL.2.2.2.1
  have p_kp : Kp l_kp := hL.2.2.2.2.1
  have p_to : Rg 0 120 l_to := hL.2.2.2.2.2
  have lp29 : ∀ (n29 : Nat) (y29_l3 : Int32) (v : SU) (H : Heap) (locs : List Loc) (ls : Array Slot), Rg 0 12 y29_l3 → Rg 0 12 (l_kp 14) → TyV v → va_P D cls (wM cI b (mkM (l_kp 14) (l_kp 15) l_tp l_hs l_to l_tk l_wo l_so l_sz l_kp) v) H → va_D A (wM cI b (mkM (l_kp 14) (l_kp 15) l_tp l_hs l_to l_tk l_wo l_so l_sz l_kp) v) → va_S A s.heap H locs → lv_has ls 4 [(0, .ref (b 0)), (2, .int 14), (3, .int y29_l3)] → 12 - y29_l3.toInt < (n29 : Int) → W p l e (headSpec wsX12_putsBack ({ frames := 0, cells := 0, slots := 0, locals := 0 })).room s m ([.ref (b 0), .int 1]).toArray below meth c H locs 0 0 (MQ below (QE (S := Int32 × Int32 × SU) D (wM cI b (mkM l_m l_z l_tp l_hs l_to l_tk l_wo l_so l_sz l_kp) v0) (fun q => wM cI b (mkM q.1 q.2.1 l_tp l_hs l_to l_tk l_wo l_so l_sz l_kp) q.2.2) s.heap.size (fun q => TyV q.2.2 ∧ Rg 0 12 q.1 ∧ (q.1.toInt = (l_kp 14).toInt ∧ q.2.1.toInt = (l_kp 15).toInt))) ([.ref (b 0), .int 1]).toArray s 0 0 (va_A (wM cI b (mkM l_m l_z l_tp l_hs l_to l_tk l_wo l_so l_sz l_kp) v0) s.heap.size)) (F0 m 29 ls []) := by
    intro n29
    induction n29 with
    | zero =>
      intro y29_l3 v H locs ls g29_l3 g29_km hV hP hD hS hl hm29
      exact absurd rfl (me_z g29_l3 hm29)
    | succ n29 ih29 =>
      intro y29_l3 v H locs ls g29_l3 g29_km hV hP hD hS hl hm29
      refine lv_iload_n hx hb dX12_putsBack_29 rfl (lv_at hl 2 rfl) ?_
      refine lv_bipush (v := 12) hx hb dX12_putsBack_30 (by decide) ?_
      refine lv_icmp_ge (tgt := 57) hx hb dX12_putsBack_32 (by decide) (fun c20943 => ?_) (fun c20943 => ?_)
      · have g20944 : Rg 12 12 y29_l3 := rg_ler (by decide : Rg 12 12 (12 : Int32)) g29_l3 c20943 (by decide)
        subst hAe
        exact W.vret hx hb hr (fun t ht hW => ⟨⟨((l_kp 14), (l_kp 15), v), rfl, ⟨hV, g29_km, (show (l_kp 14).toInt = (l_kp 14).toInt ∧ (l_kp 15).toInt = (l_kp 15).toInt from by have y90 : (12 : Int32).toInt ≤ y29_l3.toInt := (lz_le _ _).mp c20943; have y91 : Rg 12 12 y29_l3 := g20944; have y92 : Rg 12 12 y29_l3 := g20944; have y93 : Rg 0 12 (l_kp 14) := g29_km; have y94 : Rg 0 120 l_tp := p_tp; have y95 : Rg 0 120 l_to := p_to; have y9c6 : (0 : Int32).toInt = 0 := (by decide); have y9c7 : (1 : Int32).toInt = 1 := (by decide); have y9c8 : (12 : Int32).toInt = 12 := (by decide); have y9c9 : (14 : Int32).toInt = 14 := (by decide); omega)⟩, by rw [ht]; exact hP, hD⟩, hS.F ht⟩) hS.2.2 dX12_putsBack_57
      · have g20945 : Rg 0 11 y29_l3 := rg_ltl g29_l3 (by decide : Rg 12 12 (12 : Int32)) (rg_nle c20943) (by decide)
        refine lv_aload_n hx hb dX12_putsBack_35 rfl (lv_at hl 0 rfl) ?_
        refine va_get (D := D) (ci := 12) (v := .ref (b 1)) (C := RX12) (T := TX12) (N := 24) hx hb hts hin12 hown hK hP 0 rfl rfl 2 (by decide) (hts (.fieldLink RX12 13 "MissedPointsModel" "near" "[I") (by decide +kernel)) (fun _ h9 => h9) rfl dX12_putsBack_36 ?_
        refine lv_iload_n hx hb dX12_putsBack_39 rfl (lv_at hl 2 rfl) ?_
        refine lv_aload_n hx hb dX12_putsBack_40 rfl (lv_at hl 0 rfl) ?_
        refine va_get (D := D) (ci := 12) (v := .ref (b 15)) (C := RX12) (T := TX12) (N := 24) hx hb hts hin12 hown hK hP 0 rfl rfl 22 (by decide) (hts (.fieldLink RX12 56 "MissedPointsModel" "kept" "[I") (by decide +kernel)) (fun _ h9 => h9) rfl dX12_putsBack_41 ?_
        refine lv_iload_n hx hb dX12_putsBack_44 rfl (lv_at hl 1 rfl) ?_
        refine lv_iconst (v := 2) hx hb dX12_putsBack_45 (by decide) ?_
        refine lv_iadd hx hb dX12_putsBack_46 ?_
        refine lz_top (y := 16) (by decide) ?_
        refine lv_iload_n hx hb dX12_putsBack_47 rfl (lv_at hl 2 rfl) ?_
        refine wk_iadd (e1 := 16) (f := 27) hx hb dX12_putsBack_48 (by decide : Rg 16 16 (16 : Int32)) g20945 (by decide) (fun r20946 hr20946 er20946 qr20946 => ?_)
        refine va_iald hx hb hK hP 15 0 rfl rfl (rg_in hr20946 (by decide) (by decide)) dX12_putsBack_49 ?_
        refine wk_topP (P := Rg 0 4095) (p_kp.2.2.2 _ (wk_nat (c := 16) (d := 28) hr20946 (by decide)).1 (wk_nat (c := 16) (d := 28) hr20946 (by decide)).2) (fun r20947 hr20947 => ?_)
        refine ms_1 hx hb hK hP hD hS hV rfl (rg_in g20945 (by decide) (by decide)) hr20947 dX12_putsBack_50 (fun v H locs hV ev20948 hP hD hS => ?_)
        refine wk_iinc (lv' := fun r => [(3, .int r), (0, .ref (b 0)), (2, .int 14)]) (e1 := 1) (f := 12) hx hb dX12_putsBack_51 hl (k := 2) rfl (by decide) g20945 (by decide) (fun _ => rfl) (fun r20949 ls hr20949 er20949 hl => ?_)
        refine lv_goto (tgt := 29) hx hb dX12_putsBack_54 (by decide) ?_
        exact ih29 r20949 v _ _ ls (show Rg 0 12 r20949 from rg_w hr20949 (by decide) (by decide)) g29_km hV hP hD hS (lv_sub (l' := [(0, .ref (b 0)), (2, .int 14), (3, .int r20949)]) hl [1, 2, 0] rfl) (me_up hm29 er20949 (by decide))
  refine lv_iload_n hx hb dX12_putsBack_0 rfl (lv_at hl 1 rfl) ?_
  refine lv_bipush (v := 14) hx hb dX12_putsBack_1 (by decide) ?_
  refine lv_imul hx hb dX12_putsBack_3 ?_
  refine lz_top (y := 14) (by decide) ?_
  refine lv_istore_n (lv' := [(2, .int 14), (0, .ref (b 0)), (1, .int 1)]) hx hb dX12_putsBack_4 rfl hl (by decide) rfl (fun ls hl => ?_)
  refine lv_aload_n hx hb dX12_putsBack_5 rfl (lv_at hl 1 rfl) ?_
  refine lv_aload_n hx hb dX12_putsBack_6 rfl (lv_at hl 1 rfl) ?_
  refine va_get (D := D) (ci := 12) (v := .ref (b 15)) (C := RX12) (T := TX12) (N := 24) hx hb hts hin12 hown hK hP 0 rfl rfl 22 (by decide) (hts (.fieldLink RX12 56 "MissedPointsModel" "kept" "[I") (by decide +kernel)) (fun _ h9 => h9) rfl dX12_putsBack_7 ?_
  refine lv_iload_n hx hb dX12_putsBack_10 rfl (lv_at hl 0 rfl) ?_
  refine va_iald hx hb hK hP 15 0 rfl rfl (rg_in (by decide : Rg 14 14 (14 : Int32)) (by decide) (by decide)) dX12_putsBack_11 ?_
  refine lz_top (y := (l_kp 14)) rfl ?_
  refine va_put (D := D) (ci := 12) (v := .int (l_kp 14)) (ty := .int) (C := RX12) (T := TX12) (N := 24) hx hb hts hin12 tyX12 tyX12_ok nmX12 hown hK hP hD hS 0 rfl rfl 0 (by decide) (hts (.fieldLink RX12 63 "MissedPointsModel" "many" "I") (by decide +kernel)) (fun _ h9 => h9) rfl (by decide +kernel) rfl rfl (Nat.le_of_ble_eq_true rfl) dX12_putsBack_12 (fun H locs hP hD hS => ?_)
  have hP : va_P D cls (wM cI b (mkM (l_kp 14) l_z l_tp l_hs l_to l_tk l_wo l_so l_sz l_kp) v) H := hP
  have hD : va_D A (wM cI b (mkM (l_kp 14) l_z l_tp l_hs l_to l_tk l_wo l_so l_sz l_kp) v) := hD
  refine lv_aload_n hx hb dX12_putsBack_15 rfl (lv_at hl 1 rfl) ?_
  refine lv_aload_n hx hb dX12_putsBack_16 rfl (lv_at hl 1 rfl) ?_
  refine va_get (D := D) (ci := 12) (v := .ref (b 15)) (C := RX12) (T := TX12) (N := 24) hx hb hts hin12 hown hK hP 0 rfl rfl 22 (by decide) (hts (.fieldLink RX12 56 "MissedPointsModel" "kept" "[I") (by decide +kernel)) (fun _ h9 => h9) rfl dX12_putsBack_17 ?_
  refine lv_iload_n hx hb dX12_putsBack_20 rfl (lv_at hl 0 rfl) ?_
  refine lv_iconst (v := 1) hx hb dX12_putsBack_21 (by decide) ?_
  refine lv_iadd hx hb dX12_putsBack_22 ?_
  refine lz_top (y := 15) (by decide) ?_
  refine va_iald hx hb hK hP 15 0 rfl rfl (rg_in (by decide : Rg 15 15 (15 : Int32)) (by decide) (by decide)) dX12_putsBack_23 ?_
  refine lz_top (y := (l_kp 15)) rfl ?_
  refine va_put (D := D) (ci := 12) (v := .int (l_kp 15)) (ty := .int) (C := RX12) (T := TX12) (N := 24) hx hb hts hin12 tyX12 tyX12_ok nmX12 hown hK hP hD hS 0 rfl rfl 1 (by decide) (hts (.fieldLink RX12 7 "MissedPointsModel" "z" "I") (by decide +kernel)) (fun _ h9 => h9) rfl (by decide +kernel) rfl rfl (Nat.le_of_ble_eq_true rfl) dX12_putsBack_24 (fun H locs hP hD hS => ?_)
  have hP : va_P D cls (wM cI b (mkM (l_kp 14) (l_kp 15) l_tp l_hs l_to l_tk l_wo l_so l_sz l_kp) v) H := hP
  have hD : va_D A (wM cI b (mkM (l_kp 14) (l_kp 15) l_tp l_hs l_to l_tk l_wo l_so l_sz l_kp) v) := hD
  refine lv_iconst (v := 0) hx hb dX12_putsBack_27 (by decide) ?_
  refine lv_istore_n (lv' := [(3, .int 0), (2, .int 14), (0, .ref (b 0)), (1, .int 1)]) hx hb dX12_putsBack_28 rfl hl (by decide) rfl (fun ls hl => ?_)
  exact lp29 13 (0 : Int32) v _ _ ls (by decide : Rg 0 12 (0 : Int32)) p_kp.2.1 hV hP hD hS (lv_sub (l' := [(0, .ref (b 0)), (2, .int 14), (3, .int 0)]) hl [2, 1, 0] rfl) (me_i (by decide : Rg 0 12 (0 : Int32)) (by decide))
set_option maxHeartbeats 4000000 in
set_option maxRecDepth 100000 in
theorem w_X12_image (l : Launch) (D : va_G) (cI cS : ClassId) (sz : Nat) (b : Nat → Nat) (l_m l_z l_tp l_hs l_to l_tk l_wo : Int32) (l_so l_sz l_kp : Nat → Int32) (v0 : SU) (hL : TyL (mkM l_m l_z l_tp l_hs l_to l_tk l_wo l_so l_sz l_kp)) (hV : TyV v0) : Met l yX12_image wsX12_image ({ frames := 1, cells := 0, slots := 0, locals := 40 }) (PQ D cI cS (wM cI b (mkM l_m l_z l_tp l_hs l_to l_tk l_wo l_so l_sz l_kp) v0) sz [.ref (b 0)]) (QF (S := (Nat → Int32) × Int32 × SU) D (wM cI b (mkM l_m l_z l_tp l_hs l_to l_tk l_wo l_so l_sz l_kp) v0) (fun q => wM cI b (mkM l_m l_z l_tp q.2.1 l_to l_tk l_wo l_so l_sz q.1) q.2.2) sz (fun r q => TyV q.2.2 ∧ Rg 0 12 r ∧ Kp q.1 ∧ Rg 1 1 q.2.1 ∧ (r.toInt = l_m.toInt ∧ q.2.1.toInt = 1 ∧ (q.1 0).toInt = l_m.toInt ∧ (q.1 1).toInt = l_z.toInt))) 0 0 (va_A (wM cI b (mkM l_m l_z l_tp l_hs l_to l_tk l_wo l_so l_sz l_kp) v0) sz) := by
  refine Met.ofW (cc := cX12_image) (maxL := 1) (ret := (some .int)) (by decide) rfl ?_
  intro p e s m args below meth c s₁ B hml hv
  obtain ⟨rfl, hsz, hP, hKK, hD0⟩ := hv
  have hx := B.exec
  have hb := B.bytes
  have hr := B.returns
  have hts := atoms_spec (ws := wsX12_image) B.pre
  have hown : s.vm.findClass RX12 = some m.cls := findClass_of_methodNamed B.named
  have hlocks := B.notSynchronized
  have hK := hKK.1
  have hin12 : ∀ w ∈ wsX120, w ∈ wsX12_image := by decide +kernel
  subst hsz
  have hD := hD0.self (sz := s.heap.size)
  obtain ⟨A, hAe⟩ : ∃ A, A = va_A (wM cI b (mkM l_m l_z l_tp l_hs l_to l_tk l_wo l_so l_sz l_kp) v0) s.heap.size := ⟨_, rfl⟩
  rw [← hAe] at hD
  have hA : ∀ q : Nat, s.heap.size ≤ q → A q := fun q h => by rw [hAe]; exact Or.inr h
  have hS : va_S A s.heap s.heap [] := va_S.rf
  have hl := lv_entry ([.ref (b 0)]) (n := 1) (Nat.le_of_ble_eq_true rfl)
  rw [lg_entry_eq]
  generalize (lg_sl ([.ref (b 0)]) ++ List.replicate (1 - (lg_sl ([.ref (b 0)])).length) Slot.unset).toArray = ls at hl ⊢
  have hl : lv_has ls 1 [(0, .ref (b 0))] := hl
  obtain ⟨v, hv9⟩ : ∃ v : SU, v = v0 := ⟨_, rfl⟩
  rw [← hv9] at hP hD hV
  have p_m : Rg 0 12 l_m := hL.1
  have p_tp : Rg 0 120 l_tp := hL.2.1
  have p_so : Ar (-1) 1 l_so := hL.2.2.1
  have p_sz : Ar 0 40 l_sz := hL.2.2.2.1
  have p_kp : Kp l_kp := hL.2.2.2.2.1
  have p_to : Rg 0 120 l_to := hL.2.2.2.2.2
  refine lv_aload_n hx hb dX12_image_0 rfl (lv_at hl 0 rfl) ?_
  refine lv_iconst (v := 0) hx hb dX12_image_1 (by decide) ?_
  refine wk_qv (S := (Nat → Int32) × SU) (fun q => wM cI b (mkM l_m l_z l_tp l_hs l_to l_tk l_wo l_so l_sz q.1) q.2) (l_kp, v) (As := [.int 0]) (rest := []) ⟨hx, hb, hml, hown, hts⟩ (w_X12_keeps_0 l D cI cS _ b l_m l_z l_tp l_hs l_to l_tk l_wo l_so l_sz l_kp v (show TyL (mkM l_m l_z l_tp l_hs l_to l_tk l_wo l_so l_sz l_kp) from ⟨p_m, p_tp, p_so, p_sz, p_kp, p_to⟩) hV) hKK hP hD hS hA 0 (ci := 12) rfl rfl (cwV 1 hts gX12_image_X12_keeps rfl rfl rfl (by decide +kernel) ⟨Nat.le_of_ble_eq_true rfl, Nat.le_of_ble_eq_true rfl⟩) rfl hl.1 rfl (Nat.le_of_ble_eq_true rfl) dX12_image_2 ⟨Nat.le_of_ble_eq_true rfl, Nat.le_of_ble_eq_true rfl⟩ (fun q9 H locs hr20954 hP hD hS => ?_)
  obtain ⟨f20955, v⟩ := q9
  have hr20954 : TyV v ∧ Kp f20955 ∧ ((f20955 0).toInt = l_m.toInt ∧ (f20955 1).toInt = l_z.toInt ∧ (f20955 14).toInt = (l_kp 14).toInt ∧ (f20955 15).toInt = (l_kp 15).toInt) := hr20954
  have hV := hr20954.1
  have hP : va_P D cls (wM cI b (mkM l_m l_z l_tp l_hs l_to l_tk l_wo l_so l_sz f20955) v) H := hP
  have hD : va_D A (wM cI b (mkM l_m l_z l_tp l_hs l_to l_tk l_wo l_so l_sz f20955) v) := hD
  have kr20954_0 := hr20954.2.2
  refine lv_aload_n hx hb dX12_image_5 rfl (lv_at hl 0 rfl) ?_
  refine lv_iconst (v := 1) hx hb dX12_image_6 (by decide) ?_
  refine va_put (D := D) (ci := 12) (v := .int 1) (ty := .boolean) (C := RX12) (T := TX12) (N := 24) hx hb hts hin12 tyX12 tyX12_ok nmX12 hown hK hP hD hS 0 rfl rfl 23 (by decide) (hts (.fieldLink RX12 237 "MissedPointsModel" "hasImage" "Z") (by decide +kernel)) (fun _ h9 => h9) rfl (by decide +kernel) rfl rfl (Nat.le_of_ble_eq_true rfl) dX12_image_7 (fun H locs hP hD hS => ?_)
  have hP : va_P D cls (wM cI b (mkM l_m l_z l_tp (1 : Int32) l_to l_tk l_wo l_so l_sz f20955) v) H := hP
  have hD : va_D A (wM cI b (mkM l_m l_z l_tp (1 : Int32) l_to l_tk l_wo l_so l_sz f20955) v) := hD
  refine lv_aload_n hx hb dX12_image_10 rfl (lv_at hl 0 rfl) ?_
  refine va_get (D := D) (ci := 12) (v := .int l_m) (C := RX12) (T := TX12) (N := 24) hx hb hts hin12 hown hK hP 0 rfl rfl 0 (by decide) (hts (.fieldLink RX12 63 "MissedPointsModel" "many" "I") (by decide +kernel)) (fun _ h9 => h9) rfl dX12_image_11 ?_
  subst hAe
  exact W.iret (v := l_m) hx hb hr (fun t ht hW => ⟨⟨_, (f20955, (1 : Int32), v), rfl, ⟨hV, p_m, hr20954.2.1, (by decide : Rg 1 1 (1 : Int32)), (show l_m.toInt = l_m.toInt ∧ (1 : Int32).toInt = 1 ∧ (f20955 0).toInt = l_m.toInt ∧ (f20955 1).toInt = l_z.toInt from by have y90 : Rg 0 12 l_m := p_m; have y91 : Rg 0 12 l_m := p_m; have y92 : Rg 0 120 l_tp := p_tp; have y93 : Rg 0 120 l_to := p_to; have y94 : Rg 0 12 l_m := p_m; have y9c5 : (0 : Int32).toInt = 0 := (by decide); have y9c6 : (1 : Int32).toInt = 1 := (by decide); omega)⟩, by rw [ht]; exact hP, hD⟩, hS.F ht⟩) hS.2.2 dX12_image_14
set_option maxRecDepth 20000 in
theorem ggX12_back_X12_putsBack : GoodIn wsX12_back wsX12_putsBack := goodIn_r _ [7, 8, 2, 9, 10, 11, 12, 13, 14, 15, 16, 17, 18, 19, 20, 21, 22, 23, 24, 25, 26, 27, 28, 29, 30, 31, 32, 33, 34] rfl (by decide +kernel)
set_option maxRecDepth 20000 in
theorem gX12_back_X12_putsBack : GoodIn wsX12_back (wsV RX12 212 RX12 yX12_putsBack wsX12_putsBack) := goodIn_app (goodIn_of _ (by decide +kernel)) ggX12_back_X12_putsBack
theorem dX12_back_10 : decode cX12_back 10 = .ok (.aload_n 0, 1) := by decide +kernel
theorem dX12_back_11 : decode cX12_back 11 = .ok (.iconst 0, 1) := by decide +kernel
theorem dX12_back_12 : decode cX12_back 12 = .ok (.invokevirtual 212, 3) := by decide +kernel
theorem dX12_back_15 : decode cX12_back 15 = .ok (.aload_n 0, 1) := by decide +kernel
theorem dX12_back_16 : decode cX12_back 16 = .ok (.getfield 63, 3) := by decide +kernel
theorem dX12_back_19 : decode cX12_back 19 = .ok (.ireturn, 1) := by decide +kernel
set_option maxHeartbeats 4000000 in
set_option maxRecDepth 100000 in
theorem w_X12_back (l : Launch) (D : va_G) (cI cS : ClassId) (sz : Nat) (b : Nat → Nat) (l_m l_z l_tp l_hs l_to l_tk l_wo : Int32) (l_so l_sz l_kp : Nat → Int32) (v0 : SU) (hL : TyL (mkM l_m l_z l_tp l_hs l_to l_tk l_wo l_so l_sz l_kp)) (hV : TyV v0) : Met l yX12_back wsX12_back ({ frames := 1, cells := 0, slots := 0, locals := 40 }) (PQ D cI cS (wM cI b (mkM l_m l_z l_tp l_hs l_to l_tk l_wo l_so l_sz l_kp) v0) sz [.ref (b 0)]) (QF (S := Int32 × Int32 × SU) D (wM cI b (mkM l_m l_z l_tp l_hs l_to l_tk l_wo l_so l_sz l_kp) v0) (fun q => wM cI b (mkM q.1 q.2.1 l_tp l_hs l_to l_tk l_wo l_so l_sz l_kp) q.2.2) sz (fun r q => TyV q.2.2 ∧ Rg (-3) 12 r ∧ Rg 0 12 q.1 ∧ ((l_hs.toInt = 0 → r.toInt = -3 ∧ q.1.toInt = l_m.toInt) ∧ (¬ l_hs.toInt = 0 → r.toInt = (l_kp 0).toInt ∧ q.1.toInt = (l_kp 0).toInt)) ∧ ((l_hs.toInt = 0 → q.2.1.toInt = l_z.toInt) ∧ (¬ l_hs.toInt = 0 → q.2.1.toInt = (l_kp 1).toInt)))) 0 0 (va_A (wM cI b (mkM l_m l_z l_tp l_hs l_to l_tk l_wo l_so l_sz l_kp) v0) sz) := by
  refine Met.ofW (cc := cX12_back) (maxL := 1) (ret := (some .int)) (by decide) rfl ?_
  intro p e s m args below meth c s₁ B hml hv
  obtain ⟨rfl, hsz, hP, hKK, hD0⟩ := hv
  have hx := B.exec
  have hb := B.bytes
  have hr := B.returns
  have hts := atoms_spec (ws := wsX12_back) B.pre
  have hown : s.vm.findClass RX12 = some m.cls := findClass_of_methodNamed B.named
  have hlocks := B.notSynchronized
  have hK := hKK.1
  have hin12 : ∀ w ∈ wsX120, w ∈ wsX12_back := by decide +kernel
  subst hsz
  have hD := hD0.self (sz := s.heap.size)
  obtain ⟨A, hAe⟩ : ∃ A, A = va_A (wM cI b (mkM l_m l_z l_tp l_hs l_to l_tk l_wo l_so l_sz l_kp) v0) s.heap.size := ⟨_, rfl⟩
  rw [← hAe] at hD
  have hA : ∀ q : Nat, s.heap.size ≤ q → A q := fun q h => by rw [hAe]; exact Or.inr h
  have hS : va_S A s.heap s.heap [] := va_S.rf
  have hl := lv_entry ([.ref (b 0)]) (n := 1) (Nat.le_of_ble_eq_true rfl)
  rw [lg_entry_eq]
  generalize (lg_sl ([.ref (b 0)]) ++ List.replicate (1 - (lg_sl ([.ref (b 0)])).length) Slot.unset).toArray = ls at hl ⊢
  have hl : lv_has ls 1 [(0, .ref (b 0))] := hl
  obtain ⟨v, hv9⟩ : ∃ v : SU, v = v0 := ⟨_, rfl⟩
  rw [← hv9] at hP hD hV
  have p_m : Rg 0 12 l_m := hL.1
  have p_tp : Rg 0 120 l_tp := hL.2.1
  have p_so : Ar (-1) 1 l_so := hL.2.2.1
  have p_sz : Ar 0 40 l_sz := hL.2.2.2.1
  have p_kp : Kp l_kp := hL.2.2.2.2.1
  have p_to : Rg 0 120 l_to := hL.2.2.2.2.2
  refine lv_aload_n hx hb dX12_back_0 rfl (lv_at hl 0 rfl) ?_
  refine va_get (D := D) (ci := 12) (v := .int l_hs) (C := RX12) (T := TX12) (N := 24) hx hb hts hin12 hown hK hP 0 rfl rfl 23 (by decide) (hts (.fieldLink RX12 237 "MissedPointsModel" "hasImage" "Z") (by decide +kernel)) (fun _ h9 => h9) rfl dX12_back_1 ?_
  refine lv_if_ne (tgt := 10) hx hb dX12_back_4 (by decide) (fun c20961 => ?_) (fun c20961 => ?_)
  · refine lv_aload_n hx hb dX12_back_10 rfl (lv_at hl 0 rfl) ?_
    refine lv_iconst (v := 0) hx hb dX12_back_11 (by decide) ?_
    refine wk_qv (S := Int32 × Int32 × SU) (fun q => wM cI b (mkM q.1 q.2.1 l_tp l_hs l_to l_tk l_wo l_so l_sz l_kp) q.2.2) (l_m, l_z, v) (As := [.int 0]) (rest := []) ⟨hx, hb, hml, hown, hts⟩ (w_X12_putsBack_0 l D cI cS _ b l_m l_z l_tp l_hs l_to l_tk l_wo l_so l_sz l_kp v (show TyL (mkM l_m l_z l_tp l_hs l_to l_tk l_wo l_so l_sz l_kp) from ⟨p_m, p_tp, p_so, p_sz, p_kp, p_to⟩) hV) hKK hP hD hS hA 0 (ci := 12) rfl rfl (cwV 1 hts gX12_back_X12_putsBack rfl rfl rfl (by decide +kernel) ⟨Nat.le_of_ble_eq_true rfl, Nat.le_of_ble_eq_true rfl⟩) rfl hl.1 rfl (Nat.le_of_ble_eq_true rfl) dX12_back_12 ⟨Nat.le_of_ble_eq_true rfl, Nat.le_of_ble_eq_true rfl⟩ (fun q9 H locs hr20962 hP hD hS => ?_)
    obtain ⟨r20963, r20964, v⟩ := q9
    have hr20962 : TyV v ∧ Rg 0 12 r20963 ∧ (r20963.toInt = (l_kp 0).toInt ∧ r20964.toInt = (l_kp 1).toInt) := hr20962
    have hV := hr20962.1
    have hP : va_P D cls (wM cI b (mkM r20963 r20964 l_tp l_hs l_to l_tk l_wo l_so l_sz l_kp) v) H := hP
    have hD : va_D A (wM cI b (mkM r20963 r20964 l_tp l_hs l_to l_tk l_wo l_so l_sz l_kp) v) := hD
    have kr20962_0 := hr20962.2.2
    refine lv_aload_n hx hb dX12_back_15 rfl (lv_at hl 0 rfl) ?_
    refine va_get (D := D) (ci := 12) (v := .int r20963) (C := RX12) (T := TX12) (N := 24) hx hb hts hin12 hown hK hP 0 rfl rfl 0 (by decide) (hts (.fieldLink RX12 63 "MissedPointsModel" "many" "I") (by decide +kernel)) (fun _ h9 => h9) rfl dX12_back_16 ?_
    subst hAe
    exact W.iret (v := r20963) hx hb hr (fun t ht hW => ⟨⟨_, (r20963, r20964, v), rfl, ⟨hV, (show Rg (-3) 12 r20963 from rg_w hr20962.2.1 (by decide) (by decide)), hr20962.2.1, (show (l_hs.toInt = 0 → r20963.toInt = -3 ∧ r20963.toInt = l_m.toInt) ∧ (¬ l_hs.toInt = 0 → r20963.toInt = (l_kp 0).toInt ∧ r20963.toInt = (l_kp 0).toInt) from by have y90 : ¬ l_hs.toInt = (0 : Int32).toInt := fun z => c20961 (Int32.toInt_inj.mp z); have y91 : Rg 0 12 r20963 := hr20962.2.1; have y92 : Rg 0 12 r20963 := hr20962.2.1; have y93 : Rg 0 120 l_tp := p_tp; have y94 : Rg 0 120 l_to := p_to; have y95 : Rg 0 12 r20963 := hr20962.2.1; have y9c6 : (0 : Int32).toInt = 0 := (by decide); have y9c7 : (1 : Int32).toInt = 1 := (by decide); omega), (show (l_hs.toInt = 0 → r20964.toInt = l_z.toInt) ∧ (¬ l_hs.toInt = 0 → r20964.toInt = (l_kp 1).toInt) from by have y90 : ¬ l_hs.toInt = (0 : Int32).toInt := fun z => c20961 (Int32.toInt_inj.mp z); have y91 : Rg 0 12 r20963 := hr20962.2.1; have y92 : Rg 0 12 r20963 := hr20962.2.1; have y93 : Rg 0 120 l_tp := p_tp; have y94 : Rg 0 120 l_to := p_to; have y95 : Rg 0 12 r20963 := hr20962.2.1; have y9c6 : (0 : Int32).toInt = 0 := (by decide); have y9c7 : (1 : Int32).toInt = 1 := (by decide); omega)⟩, by rw [ht]; exact hP, hD⟩, hS.F ht⟩) hS.2.2 dX12_back_19
  · have g20965 : Rg 0 0 l_hs := wk_eql (rg_any l_hs) (by decide : Rg 0 0 (0 : Int32)) c20961 (by decide)
    refine lv_bipush (v := (-3)) hx hb dX12_back_7 (by decide) ?_
    subst hAe
    exact W.iret (v := (-3)) hx hb hr (fun t ht hW => ⟨⟨_, (l_m, l_z, v), rfl, ⟨hV, (by decide : Rg (-3) 12 ((-3) : Int32)), p_m, (show (l_hs.toInt = 0 → ((-3) : Int32).toInt = -3 ∧ l_m.toInt = l_m.toInt) ∧ (¬ l_hs.toInt = 0 → ((-3) : Int32).toInt = (l_kp 0).toInt ∧ l_m.toInt = (l_kp 0).toInt) from by have y90 : l_hs.toInt = (0 : Int32).toInt := congrArg Int32.toInt c20961; have y91 : Rg 0 0 l_hs := g20965; have y92 : Rg 0 12 l_m := p_m; have y93 : Rg 0 120 l_tp := p_tp; have y94 : Rg 0 0 l_hs := g20965; have y95 : Rg 0 120 l_to := p_to; have y9c6 : ((-3) : Int32).toInt = -3 := (by decide); have y9c7 : (0 : Int32).toInt = 0 := (by decide); have y9c8 : (1 : Int32).toInt = 1 := (by decide); omega), (show (l_hs.toInt = 0 → l_z.toInt = l_z.toInt) ∧ (¬ l_hs.toInt = 0 → l_z.toInt = (l_kp 1).toInt) from by have y90 : l_hs.toInt = (0 : Int32).toInt := congrArg Int32.toInt c20961; have y91 : Rg 0 0 l_hs := g20965; have y92 : Rg 0 12 l_m := p_m; have y93 : Rg 0 120 l_tp := p_tp; have y94 : Rg 0 0 l_hs := g20965; have y95 : Rg 0 120 l_to := p_to; have y9c6 : ((-3) : Int32).toInt = -3 := (by decide); have y9c7 : (0 : Int32).toInt = 0 := (by decide); have y9c8 : (1 : Int32).toInt = 1 := (by decide); omega)⟩, by rw [ht]; exact hP, hD⟩, hS.F ht⟩) hS.2.2 dX12_back_9
set_option maxHeartbeats 4000000 in
set_option maxRecDepth 100000 in
theorem w_X12_sheet (l : Launch) (D : va_G) (cI cS : ClassId) (sz : Nat) (b : Nat → Nat) (l_m l_z l_tp l_hs l_to l_tk l_wo : Int32) (l_so l_sz l_kp : Nat → Int32) (v0 : SU) (hL : TyL (mkM l_m l_z l_tp l_hs l_to l_tk l_wo l_so l_sz l_kp)) (hV : TyV v0) (x0 x1 x2 : Int32) : Met l yX12_sheet wsX12_sheet ({ frames := 2, cells := 0, slots := 0, locals := 80 }) (PQ D cI cS (wM cI b (mkM l_m l_z l_tp l_hs l_to l_tk l_wo l_so l_sz l_kp) v0) sz [.ref (b 0), .int x0, .int x1, .int x2]) (QF (S := (Nat → Int32) × (Nat → Int32) × SU) D (wM cI b (mkM l_m l_z l_tp l_hs l_to l_tk l_wo l_so l_sz l_kp) v0) (fun q => wM cI b (mkM l_m l_z l_tp l_hs l_to l_tk l_wo q.1 q.2.1 l_kp) q.2.2) sz (fun r q => TyV q.2.2 ∧ Rg (-14) 1 r ∧ Ar (-1) 1 q.1 ∧ Ar 0 40 q.2.1 ∧ (((x0.toInt < 0 ∨ 3 < x0.toInt ∨ x1.toInt < -1 ∨ 1 < x1.toInt ∨ (¬ x1.toInt = -1 ∧ 40 < x2.toInt)) → r.toInt = -2) ∧ (¬ (x0.toInt < 0 ∨ 3 < x0.toInt ∨ x1.toInt < -1 ∨ 1 < x1.toInt ∨ (¬ x1.toInt = -1 ∧ 40 < x2.toInt)) → ¬ x1.toInt = -1 → x2.toInt < 0 → r.toInt = -14) ∧ (¬ (x0.toInt < 0 ∨ 3 < x0.toInt ∨ x1.toInt < -1 ∨ 1 < x1.toInt ∨ (¬ x1.toInt = -1 ∧ 40 < x2.toInt)) → (x1.toInt = -1 ∨ 0 ≤ x2.toInt) → r.toInt = 1)) ∧ ((¬ r.toInt = 1 → q.1 = l_so ∧ q.2.1 = l_sz) ∧ (r.toInt = 1 → q.1 = upd l_so x0.toNatClampNeg x1 ∧ q.2.1 = upd l_sz x0.toNatClampNeg (if x1 = -1 then 0 else x2))))) 0 0 (va_A (wM cI b (mkM l_m l_z l_tp l_hs l_to l_tk l_wo l_so l_sz l_kp) v0) sz) := by
  refine Met.ofW (cc := cX12_sheet) (maxL := 5) (ret := (some .int)) (by decide) rfl ?_
  intro p e s m args below meth c s₁ B hml hv
  obtain ⟨rfl, hsz, hP, hKK, hD0⟩ := hv
  have hx := B.exec
  have hb := B.bytes
  have hr := B.returns
  have hts := atoms_spec (ws := wsX12_sheet) B.pre
  have hown : s.vm.findClass RX12 = some m.cls := findClass_of_methodNamed B.named
  have hlocks := B.notSynchronized
  have hK := hKK.1
  have hin12 : ∀ w ∈ wsX120, w ∈ wsX12_sheet := by decide +kernel
  subst hsz
  have hD := hD0.self (sz := s.heap.size)
  obtain ⟨A, hAe⟩ : ∃ A, A = va_A (wM cI b (mkM l_m l_z l_tp l_hs l_to l_tk l_wo l_so l_sz l_kp) v0) s.heap.size := ⟨_, rfl⟩
  rw [← hAe] at hD
  have hA : ∀ q : Nat, s.heap.size ≤ q → A q := fun q h => by rw [hAe]; exact Or.inr h
  have hS : va_S A s.heap s.heap [] := va_S.rf
  have hl := lv_entry ([.ref (b 0), .int x0, .int x1, .int x2]) (n := 5) (Nat.le_of_ble_eq_true rfl)
  rw [lg_entry_eq]
  generalize (lg_sl ([.ref (b 0), .int x0, .int x1, .int x2]) ++ List.replicate (5 - (lg_sl ([.ref (b 0), .int x0, .int x1, .int x2])).length) Slot.unset).toArray = ls at hl ⊢
  have hl : lv_has ls 5 [(0, .ref (b 0)), (1, .int x0), (2, .int x1), (3, .int x2)] := hl
  obtain ⟨v, hv9⟩ : ∃ v : SU, v = v0 := ⟨_, rfl⟩
  rw [← hv9] at hP hD hV
  have p_m : Rg 0 12 l_m := hL.1
  have p_tp : Rg 0 120 l_tp := hL.2.1
  have p_so : Ar (-1) 1 l_so := hL.2.2.1
  have p_sz : Ar 0 40 l_sz := hL.2.2.2.1
  have p_kp : Kp l_kp := hL.2.2.2.2.1
  have p_to : Rg 0 120 l_to := hL.2.2.2.2.2
  have lp68 : ∀ (n68 : Nat) (y68_l4 : Int32) (y68_ksz : Nat → Int32) (v : SU) (H : Heap) (locs : List Loc) (ls : Array Slot), Rg 0 3 x0 → Rg 0 40 y68_l4 → Ar (-1) 1 (upd l_so x0.toNatClampNeg x1) → Ar 0 40 y68_ksz → (y68_ksz = upd l_sz x0.toNatClampNeg (if x1 = -1 then 0 else x2) ∧ 0 ≤ x0.toInt ∧ x0.toInt ≤ 3 ∧ -1 ≤ x1.toInt ∧ x1.toInt ≤ 1 ∧ (x1.toInt = -1 ∨ (0 ≤ x2.toInt ∧ x2.toInt ≤ 40))) → TyV v → va_P D cls (wM cI b (mkM l_m l_z l_tp l_hs l_to l_tk l_wo (upd l_so x0.toNatClampNeg x1) y68_ksz l_kp) v) H → va_D A (wM cI b (mkM l_m l_z l_tp l_hs l_to l_tk l_wo (upd l_so x0.toNatClampNeg x1) y68_ksz l_kp) v) → va_S A s.heap H locs → lv_has ls 5 [(0, .ref (b 0)), (1, .int x0), (4, .int y68_l4)] → 40 - y68_l4.toInt < (n68 : Int) → W p l e (headSpec wsX12_sheet ({ frames := 2, cells := 0, slots := 0, locals := 80 })).room s m ([.ref (b 0), .int x0, .int x1, .int x2]).toArray below meth c H locs 0 0 (MQ below (QF (S := (Nat → Int32) × (Nat → Int32) × SU) D (wM cI b (mkM l_m l_z l_tp l_hs l_to l_tk l_wo l_so l_sz l_kp) v0) (fun q => wM cI b (mkM l_m l_z l_tp l_hs l_to l_tk l_wo q.1 q.2.1 l_kp) q.2.2) s.heap.size (fun r q => TyV q.2.2 ∧ Rg (-14) 1 r ∧ Ar (-1) 1 q.1 ∧ Ar 0 40 q.2.1 ∧ (((x0.toInt < 0 ∨ 3 < x0.toInt ∨ x1.toInt < -1 ∨ 1 < x1.toInt ∨ (¬ x1.toInt = -1 ∧ 40 < x2.toInt)) → r.toInt = -2) ∧ (¬ (x0.toInt < 0 ∨ 3 < x0.toInt ∨ x1.toInt < -1 ∨ 1 < x1.toInt ∨ (¬ x1.toInt = -1 ∧ 40 < x2.toInt)) → ¬ x1.toInt = -1 → x2.toInt < 0 → r.toInt = -14) ∧ (¬ (x0.toInt < 0 ∨ 3 < x0.toInt ∨ x1.toInt < -1 ∨ 1 < x1.toInt ∨ (¬ x1.toInt = -1 ∧ 40 < x2.toInt)) → (x1.toInt = -1 ∨ 0 ≤ x2.toInt) → r.toInt = 1)) ∧ ((¬ r.toInt = 1 → q.1 = l_so ∧ q.2.1 = l_sz) ∧ (r.toInt = 1 → q.1 = upd l_so x0.toNatClampNeg x1 ∧ q.2.1 = upd l_sz x0.toNatClampNeg (if x1 = -1 then 0 else x2))))) ([.ref (b 0), .int x0, .int x1, .int x2]).toArray s 0 0 (va_A (wM cI b (mkM l_m l_z l_tp l_hs l_to l_tk l_wo l_so l_sz l_kp) v0) s.heap.size)) (F0 m 68 ls []) := by
    intro n68
    induction n68 with
    | zero =>
      intro y68_l4 y68_ksz v H locs ls g68_l1 g68_l4 g68_kso g68_ksz x68_0 hV hP hD hS hl hm68
      exact absurd rfl (me_z g68_l4 hm68)
    | succ n68 ih68 =>
      intro y68_l4 y68_ksz v H locs ls g68_l1 g68_l4 g68_kso g68_ksz x68_0 hV hP hD hS hl hm68
      refine lv_iload hx hb dX12_sheet_68 (lv_at hl 2 rfl) ?_
      refine lv_bipush (v := 40) hx hb dX12_sheet_70 (by decide) ?_
      refine lv_icmp_ge (tgt := 94) hx hb dX12_sheet_72 (by decide) (fun c21426 => ?_) (fun c21426 => ?_)
      · have g21427 : Rg 40 40 y68_l4 := rg_ler (by decide : Rg 40 40 (40 : Int32)) g68_l4 c21426 (by decide)
        refine lv_iconst (v := 1) hx hb dX12_sheet_94 (by decide) ?_
        subst hAe
        exact W.iret (v := 1) hx hb hr (fun t ht hW => ⟨⟨_, ((upd l_so x0.toNatClampNeg x1), y68_ksz, v), rfl, ⟨hV, (by decide : Rg (-14) 1 (1 : Int32)), g68_kso, g68_ksz, (show ((x0.toInt < 0 ∨ 3 < x0.toInt ∨ x1.toInt < -1 ∨ 1 < x1.toInt ∨ (¬ x1.toInt = -1 ∧ 40 < x2.toInt)) → (1 : Int32).toInt = -2) ∧ (¬ (x0.toInt < 0 ∨ 3 < x0.toInt ∨ x1.toInt < -1 ∨ 1 < x1.toInt ∨ (¬ x1.toInt = -1 ∧ 40 < x2.toInt)) → ¬ x1.toInt = -1 → x2.toInt < 0 → (1 : Int32).toInt = -14) ∧ (¬ (x0.toInt < 0 ∨ 3 < x0.toInt ∨ x1.toInt < -1 ∨ 1 < x1.toInt ∨ (¬ x1.toInt = -1 ∧ 40 < x2.toInt)) → (x1.toInt = -1 ∨ 0 ≤ x2.toInt) → (1 : Int32).toInt = 1) from by have y90 : (40 : Int32).toInt ≤ y68_l4.toInt := (lz_le _ _).mp c21426; have y91 : Rg 40 40 y68_l4 := g21427; have y92 : Rg 0 3 x0 := g68_l1; have y93 : Rg 40 40 y68_l4 := g21427; have y94 : Rg 0 12 l_m := p_m; have y95 : Rg 0 120 l_tp := p_tp; have y96 : Rg 0 120 l_to := p_to; have y9c7 : (0 : Int32).toInt = 0 := (by decide); have y9c8 : (1 : Int32).toInt = 1 := (by decide); have y9c9 : (40 : Int32).toInt = 40 := (by decide); omega), ⟨fun h9 => absurd (by decide) h9, fun _ => ⟨rfl, x68_0.1⟩⟩⟩, by rw [ht]; exact hP, hD⟩, hS.F ht⟩) hS.2.2 dX12_sheet_95
      · have g21428 : Rg 0 39 y68_l4 := rg_ltl g68_l4 (by decide : Rg 40 40 (40 : Int32)) (rg_nle c21426) (by decide)
        refine lv_aload_n hx hb dX12_sheet_75 rfl (lv_at hl 0 rfl) ?_
        refine va_get (D := D) (ci := 12) (v := .ref (b 11)) (C := RX12) (T := TX12) (N := 24) hx hb hts hin12 hown hK hP 0 rfl rfl 18 (by decide) (hts (.fieldLink RX12 44 "MissedPointsModel" "items" "[I") (by decide +kernel)) (fun _ h9 => h9) rfl dX12_sheet_76 ?_
        refine lv_bipush (v := 40) hx hb dX12_sheet_79 (by decide) ?_
        refine lv_iload_n hx hb dX12_sheet_81 rfl (lv_at hl 1 rfl) ?_
        refine wk_imul (f := 120) hx hb dX12_sheet_82 (by decide : Rg 0 40 (40 : Int32)) g68_l1 (by decide) (fun r21429 hr21429 er21429 qr21429 => ?_)
        refine lv_iload hx hb dX12_sheet_83 (lv_at hl 2 rfl) ?_
        refine wk_iadd (e1 := 0) (f := 159) hx hb dX12_sheet_85 hr21429 g21428 (by decide) (fun r21430 hr21430 er21430 qr21430 => ?_)
        refine lv_iconst (v := 0) hx hb dX12_sheet_86 (by decide) ?_
        refine ms_11 hx hb hK hP hD hS hV rfl (rg_in hr21430 (by decide) (by decide)) dX12_sheet_87 (fun v H locs hV ev21431 hP hD hS => ?_)
        refine wk_iinc (lv' := fun r => [(4, .int r), (0, .ref (b 0)), (1, .int x0)]) (e1 := 1) (f := 40) hx hb dX12_sheet_88 hl (k := 2) rfl (by decide) g21428 (by decide) (fun _ => rfl) (fun r21432 ls hr21432 er21432 hl => ?_)
        refine lv_goto (tgt := 68) hx hb dX12_sheet_91 (by decide) ?_
        exact ih68 r21432 y68_ksz v _ _ ls g68_l1 (show Rg 0 40 r21432 from rg_w hr21432 (by decide) (by decide)) g68_kso g68_ksz (by exact x68_0) hV hP hD hS (lv_sub (l' := [(0, .ref (b 0)), (1, .int x0), (4, .int r21432)]) hl [1, 2, 0] rfl) (me_up hm68 er21432 (by decide))
  refine lv_iload_n hx hb dX12_sheet_0 rfl (lv_at hl 1 rfl) ?_
  refine lz_ss (As := [.int x0]) (rest := []) ⟨hx, hb, hml, hown, hts⟩ (w_X12_isSheet l D cI cS x0) hKK (hP.sub (ws' := []) [] rfl) (va_cwS 1 hts gX12_sheet_X12_isSheet rfl rfl rfl (by decide +kernel) ⟨Nat.le_of_ble_eq_true rfl, Nat.le_of_ble_eq_true rfl⟩) rfl hl.1 rfl (Nat.le_of_ble_eq_true rfl) dX12_sheet_1 ⟨Nat.le_of_ble_eq_true rfl, Nat.le_of_ble_eq_true rfl⟩ (fun r21433 hr21433 => ?_)
  refine lv_if_eq (tgt := 27) hx hb dX12_sheet_4 (by decide) (fun c21434 => ?_) (fun c21434 => ?_)
  · have zt21435 : (x0.toInt < 0 ∨ 3 < x0.toInt) := hr21433.2.2 c21434
    have g21436 : Rg 0 0 r21433 := wk_eql hr21433.1 (by decide : Rg 0 0 (0 : Int32)) c21434 (by decide)
    refine lv_bipush (v := (-2)) hx hb dX12_sheet_27 (by decide) ?_
    subst hAe
    exact W.iret (v := (-2)) hx hb hr (fun t ht hW => ⟨⟨_, (l_so, l_sz, v), rfl, ⟨hV, (by decide : Rg (-14) 1 ((-2) : Int32)), p_so, p_sz, (show ((x0.toInt < 0 ∨ 3 < x0.toInt ∨ x1.toInt < -1 ∨ 1 < x1.toInt ∨ (¬ x1.toInt = -1 ∧ 40 < x2.toInt)) → ((-2) : Int32).toInt = -2) ∧ (¬ (x0.toInt < 0 ∨ 3 < x0.toInt ∨ x1.toInt < -1 ∨ 1 < x1.toInt ∨ (¬ x1.toInt = -1 ∧ 40 < x2.toInt)) → ¬ x1.toInt = -1 → x2.toInt < 0 → ((-2) : Int32).toInt = -14) ∧ (¬ (x0.toInt < 0 ∨ 3 < x0.toInt ∨ x1.toInt < -1 ∨ 1 < x1.toInt ∨ (¬ x1.toInt = -1 ∧ 40 < x2.toInt)) → (x1.toInt = -1 ∨ 0 ≤ x2.toInt) → ((-2) : Int32).toInt = 1) from by have y90 : r21433.toInt = (0 : Int32).toInt := congrArg Int32.toInt c21434; have y91 : Rg 0 0 r21433 := g21436; have y92 : Rg 0 12 l_m := p_m; have y93 : Rg 0 120 l_tp := p_tp; have y94 : Rg 0 120 l_to := p_to; have y9c5 : ((-2) : Int32).toInt = -2 := (by decide); have y9c6 : (0 : Int32).toInt = 0 := (by decide); have y9c7 : (1 : Int32).toInt = 1 := (by decide); omega), ⟨fun _ => ⟨rfl, rfl⟩, fun h9 => absurd h9 (by decide)⟩⟩, by rw [ht]; exact hP, hD⟩, hS.F ht⟩) hS.2.2 dX12_sheet_29
  · have g21437 : Rg 0 3 x0 := (hr21433.2.1 c21434)
    have g21438 : Rg 1 1 r21433 := rg_ne_lo (k := 0) hr21433.1 (by decide) c21434 (by decide)
    refine lv_iload_n hx hb dX12_sheet_7 rfl (lv_at hl 2 rfl) ?_
    refine lv_iconst (v := (-1)) hx hb dX12_sheet_8 (by decide) ?_
    refine lv_iconst (v := 1) hx hb dX12_sheet_9 (by decide) ?_
    refine lz_ss (As := [.int x1, .int (-1), .int 1]) (rest := []) ⟨hx, hb, hml, hown, hts⟩ (w_X12_in l D cI cS x1 ((-1) : Int32) (1 : Int32)) hKK (hP.sub (ws' := []) [] rfl) (va_cwS 3 hts gX12_sheet_X12_in rfl rfl rfl (by decide +kernel) ⟨Nat.le_of_ble_eq_true rfl, Nat.le_of_ble_eq_true rfl⟩) rfl hl.1 rfl (Nat.le_of_ble_eq_true rfl) dX12_sheet_10 ⟨Nat.le_of_ble_eq_true rfl, Nat.le_of_ble_eq_true rfl⟩ (fun r21439 hr21439 => ?_)
    refine lv_if_eq (tgt := 27) hx hb dX12_sheet_13 (by decide) (fun c21440 => ?_) (fun c21440 => ?_)
    · have zt21441 : (x1.toInt < ((-1) : Int32).toInt ∨ (1 : Int32).toInt < x1.toInt) := hr21439.2.1 c21440
      have g21442 : Rg 0 0 r21439 := wk_eql hr21439.1 (by decide : Rg 0 0 (0 : Int32)) c21440 (by decide)
      refine lv_bipush (v := (-2)) hx hb dX12_sheet_27 (by decide) ?_
      subst hAe
      exact W.iret (v := (-2)) hx hb hr (fun t ht hW => ⟨⟨_, (l_so, l_sz, v), rfl, ⟨hV, (by decide : Rg (-14) 1 ((-2) : Int32)), p_so, p_sz, (show ((x0.toInt < 0 ∨ 3 < x0.toInt ∨ x1.toInt < -1 ∨ 1 < x1.toInt ∨ (¬ x1.toInt = -1 ∧ 40 < x2.toInt)) → ((-2) : Int32).toInt = -2) ∧ (¬ (x0.toInt < 0 ∨ 3 < x0.toInt ∨ x1.toInt < -1 ∨ 1 < x1.toInt ∨ (¬ x1.toInt = -1 ∧ 40 < x2.toInt)) → ¬ x1.toInt = -1 → x2.toInt < 0 → ((-2) : Int32).toInt = -14) ∧ (¬ (x0.toInt < 0 ∨ 3 < x0.toInt ∨ x1.toInt < -1 ∨ 1 < x1.toInt ∨ (¬ x1.toInt = -1 ∧ 40 < x2.toInt)) → (x1.toInt = -1 ∨ 0 ≤ x2.toInt) → ((-2) : Int32).toInt = 1) from by have y90 : ¬ r21433.toInt = (0 : Int32).toInt := fun z => c21434 (Int32.toInt_inj.mp z); have y91 : r21439.toInt = (0 : Int32).toInt := congrArg Int32.toInt c21440; have y92 : Rg 0 3 x0 := g21437; have y93 : Rg 1 1 r21433 := g21438; have y94 : Rg 0 0 r21439 := g21442; have y95 : Rg 0 3 x0 := g21437; have y96 : Rg 0 12 l_m := p_m; have y97 : Rg 0 120 l_tp := p_tp; have y98 : Rg 0 120 l_to := p_to; have y9c9 : ((-2) : Int32).toInt = -2 := (by decide); have y9c10 : ((-1) : Int32).toInt = -1 := (by decide); have y9c11 : (0 : Int32).toInt = 0 := (by decide); have y9c12 : (1 : Int32).toInt = 1 := (by decide); omega), ⟨fun _ => ⟨rfl, rfl⟩, fun h9 => absurd h9 (by decide)⟩⟩, by rw [ht]; exact hP, hD⟩, hS.F ht⟩) hS.2.2 dX12_sheet_29
    · have zn21443 : ((-1) : Int32).toInt ≤ x1.toInt ∧ x1.toInt ≤ (1 : Int32).toInt := (hr21439.2.2 c21440)
      have g21444 : Rg (-1) 1 x1 := wk_in3 (rg_any x1) (by decide : Rg (-1) (-1) ((-1) : Int32)) (by decide : Rg 1 1 (1 : Int32)) (hr21439.2.2 c21440) (by decide)
      have g21445 : Rg 1 1 r21439 := rg_ne_lo (k := 0) hr21439.1 (by decide) c21440 (by decide)
      refine lv_iload_n hx hb dX12_sheet_16 rfl (lv_at hl 2 rfl) ?_
      refine lv_iconst (v := (-1)) hx hb dX12_sheet_17 (by decide) ?_
      refine lv_icmp_eq (tgt := 30) hx hb dX12_sheet_18 (by decide) (fun c21446 => ?_) (fun c21446 => ?_)
      · have g21447 : Rg (-1) (-1) x1 := wk_eql g21444 (by decide : Rg (-1) (-1) ((-1) : Int32)) c21446 (by decide)
        refine lv_iload_n hx hb dX12_sheet_30 rfl (lv_at hl 2 rfl) ?_
        refine lv_iconst (v := (-1)) hx hb dX12_sheet_31 (by decide) ?_
        refine lv_icmp_eq (tgt := 42) hx hb dX12_sheet_32 (by decide) (fun c21448 => ?_) (fun c21448 => ?_)
        · refine lv_aload_n hx hb dX12_sheet_42 rfl (lv_at hl 0 rfl) ?_
          refine va_get (D := D) (ci := 12) (v := .ref (b 9)) (C := RX12) (T := TX12) (N := 24) hx hb hts hin12 hown hK hP 0 rfl rfl 16 (by decide) (hts (.fieldLink RX12 38 "MissedPointsModel" "sort" "[I") (by decide +kernel)) (fun _ h9 => h9) rfl dX12_sheet_43 ?_
          refine lv_iload_n hx hb dX12_sheet_46 rfl (lv_at hl 1 rfl) ?_
          refine lv_iload_n hx hb dX12_sheet_47 rfl (lv_at hl 2 rfl) ?_
          refine va_iast hx hb hK hP hD hS 9 0 rfl rfl (rg_in g21437 (by decide) (by decide)) dX12_sheet_48 (fun H locs hP hD hS => ?_)
          have hP : va_P D cls (wM cI b (mkM l_m l_z l_tp l_hs l_to l_tk l_wo (upd l_so x0.toNatClampNeg x1) l_sz l_kp) v) H := hP
          have hD : va_D A (wM cI b (mkM l_m l_z l_tp l_hs l_to l_tk l_wo (upd l_so x0.toNatClampNeg x1) l_sz l_kp) v) := hD
          refine lv_aload_n hx hb dX12_sheet_49 rfl (lv_at hl 0 rfl) ?_
          refine va_get (D := D) (ci := 12) (v := .ref (b 10)) (C := RX12) (T := TX12) (N := 24) hx hb hts hin12 hown hK hP 0 rfl rfl 17 (by decide) (hts (.fieldLink RX12 41 "MissedPointsModel" "size" "[I") (by decide +kernel)) (fun _ h9 => h9) rfl dX12_sheet_50 ?_
          refine lv_iload_n hx hb dX12_sheet_53 rfl (lv_at hl 1 rfl) ?_
          refine lv_iload_n hx hb dX12_sheet_54 rfl (lv_at hl 2 rfl) ?_
          refine lv_iconst (v := (-1)) hx hb dX12_sheet_55 (by decide) ?_
          refine lv_icmp_ne (tgt := 63) hx hb dX12_sheet_56 (by decide) (fun c21449 => ?_) (fun c21449 => ?_)
          · exact absurd (wk_yeq g21447 (by decide : Rg (-1) (-1) ((-1) : Int32)) (by decide)) c21449
          · refine lv_iconst (v := 0) hx hb dX12_sheet_59 (by decide) ?_
            refine lv_goto (tgt := 64) hx hb dX12_sheet_60 (by decide) ?_
            refine va_iast hx hb hK hP hD hS 10 0 rfl rfl (rg_in g21437 (by decide) (by decide)) dX12_sheet_64 (fun H locs hP hD hS => ?_)
            have hP : va_P D cls (wM cI b (mkM l_m l_z l_tp l_hs l_to l_tk l_wo (upd l_so x0.toNatClampNeg x1) ((upd l_sz x0.toNatClampNeg (0 : Int32))) l_kp) v) H := hP
            have hD : va_D A (wM cI b (mkM l_m l_z l_tp l_hs l_to l_tk l_wo (upd l_so x0.toNatClampNeg x1) ((upd l_sz x0.toNatClampNeg (0 : Int32))) l_kp) v) := hD
            refine lv_iconst (v := 0) hx hb dX12_sheet_65 (by decide) ?_
            refine lv_istore (lv' := [(4, .int 0), (0, .ref (b 0)), (1, .int x0), (2, .int x1), (3, .int x2)]) hx hb dX12_sheet_66 hl (by decide) rfl (fun ls hl => ?_)
            exact lp68 41 (0 : Int32) ((upd l_sz x0.toNatClampNeg (0 : Int32))) v _ _ ls g21437 (by decide : Rg 0 40 (0 : Int32)) (ar_upd p_so (show Rg (-1) 1 x1 from rg_w g21447 (by decide) (by decide))) (ar_upd p_sz (by decide : Rg 0 40 (0 : Int32))) (by have y90 : ¬ r21433.toInt = (0 : Int32).toInt := fun z => c21434 (Int32.toInt_inj.mp z); have y91 : ¬ r21439.toInt = (0 : Int32).toInt := fun z => c21440 (Int32.toInt_inj.mp z); have y92 : x1.toInt = ((-1) : Int32).toInt := congrArg Int32.toInt c21446; have y93 : x1.toInt = ((-1) : Int32).toInt := congrArg Int32.toInt c21448; have y94 : x1.toInt = ((-1) : Int32).toInt := congrArg Int32.toInt c21449; have y95 : Rg 0 3 x0 := g21437; have y96 : Rg 1 1 r21433 := g21438; have y97 : Rg (-1) (-1) x1 := g21447; have y98 : Rg 1 1 r21439 := g21445; have y99 : Rg 0 3 x0 := g21437; have y910 : Rg (-1) (-1) x1 := g21447; have y911 : Rg 0 12 l_m := p_m; have y912 : Rg 0 120 l_tp := p_tp; have y913 : Rg 0 120 l_to := p_to; have y9c14 : ((-1) : Int32).toInt = -1 := (by decide); have y9c15 : (0 : Int32).toInt = 0 := (by decide); have y9c16 : (1 : Int32).toInt = 1 := (by decide); exact ⟨by rw [if_pos c21449], by omega, by omega, by omega, by omega, by omega⟩) hV hP hD hS (lv_sub (l' := [(0, .ref (b 0)), (1, .int x0), (4, .int 0)]) hl [1, 2, 0] rfl) (me_i (by decide : Rg 0 40 (0 : Int32)) (by decide))
        · exact absurd (wk_yeq g21447 (by decide : Rg (-1) (-1) ((-1) : Int32)) (by decide)) c21448
      · have g21450 : Rg 0 1 x1 := rg_ne_lo (k := (-1)) g21444 (by decide) c21446 (by decide)
        refine lv_iload_n hx hb dX12_sheet_21 rfl (lv_at hl 3 rfl) ?_
        refine lv_bipush (v := 40) hx hb dX12_sheet_22 (by decide) ?_
        refine lv_icmp_le (tgt := 30) hx hb dX12_sheet_24 (by decide) (fun c21451 => ?_) (fun c21451 => ?_)
        · have g21452 : Rg (-2147483648) 40 x2 := rg_lel (rg_any x2) (by decide : Rg 40 40 (40 : Int32)) c21451 (by decide)
          refine lv_iload_n hx hb dX12_sheet_30 rfl (lv_at hl 2 rfl) ?_
          refine lv_iconst (v := (-1)) hx hb dX12_sheet_31 (by decide) ?_
          refine lv_icmp_eq (tgt := 42) hx hb dX12_sheet_32 (by decide) (fun c21453 => ?_) (fun c21453 => ?_)
          · exact absurd c21453 (wk_neq g21450 (by decide : Rg (-1) (-1) ((-1) : Int32)) (by decide))
          · refine lv_iload_n hx hb dX12_sheet_35 rfl (lv_at hl 3 rfl) ?_
            refine lv_if_ge (tgt := 42) hx hb dX12_sheet_36 (by decide) (fun c21454 => ?_) (fun c21454 => ?_)
            · have g21455 : Rg 0 40 x2 := rg_ler (by decide : Rg 0 0 (0 : Int32)) g21452 c21454 (by decide)
              refine lv_aload_n hx hb dX12_sheet_42 rfl (lv_at hl 0 rfl) ?_
              refine va_get (D := D) (ci := 12) (v := .ref (b 9)) (C := RX12) (T := TX12) (N := 24) hx hb hts hin12 hown hK hP 0 rfl rfl 16 (by decide) (hts (.fieldLink RX12 38 "MissedPointsModel" "sort" "[I") (by decide +kernel)) (fun _ h9 => h9) rfl dX12_sheet_43 ?_
              refine lv_iload_n hx hb dX12_sheet_46 rfl (lv_at hl 1 rfl) ?_
              refine lv_iload_n hx hb dX12_sheet_47 rfl (lv_at hl 2 rfl) ?_
              refine va_iast hx hb hK hP hD hS 9 0 rfl rfl (rg_in g21437 (by decide) (by decide)) dX12_sheet_48 (fun H locs hP hD hS => ?_)
              have hP : va_P D cls (wM cI b (mkM l_m l_z l_tp l_hs l_to l_tk l_wo (upd l_so x0.toNatClampNeg x1) l_sz l_kp) v) H := hP
              have hD : va_D A (wM cI b (mkM l_m l_z l_tp l_hs l_to l_tk l_wo (upd l_so x0.toNatClampNeg x1) l_sz l_kp) v) := hD
              refine lv_aload_n hx hb dX12_sheet_49 rfl (lv_at hl 0 rfl) ?_
              refine va_get (D := D) (ci := 12) (v := .ref (b 10)) (C := RX12) (T := TX12) (N := 24) hx hb hts hin12 hown hK hP 0 rfl rfl 17 (by decide) (hts (.fieldLink RX12 41 "MissedPointsModel" "size" "[I") (by decide +kernel)) (fun _ h9 => h9) rfl dX12_sheet_50 ?_
              refine lv_iload_n hx hb dX12_sheet_53 rfl (lv_at hl 1 rfl) ?_
              refine lv_iload_n hx hb dX12_sheet_54 rfl (lv_at hl 2 rfl) ?_
              refine lv_iconst (v := (-1)) hx hb dX12_sheet_55 (by decide) ?_
              refine lv_icmp_ne (tgt := 63) hx hb dX12_sheet_56 (by decide) (fun c21456 => ?_) (fun c21456 => ?_)
              · refine lv_iload_n hx hb dX12_sheet_63 rfl (lv_at hl 3 rfl) ?_
                refine va_iast hx hb hK hP hD hS 10 0 rfl rfl (rg_in g21437 (by decide) (by decide)) dX12_sheet_64 (fun H locs hP hD hS => ?_)
                have hP : va_P D cls (wM cI b (mkM l_m l_z l_tp l_hs l_to l_tk l_wo (upd l_so x0.toNatClampNeg x1) (upd l_sz x0.toNatClampNeg x2) l_kp) v) H := hP
                have hD : va_D A (wM cI b (mkM l_m l_z l_tp l_hs l_to l_tk l_wo (upd l_so x0.toNatClampNeg x1) (upd l_sz x0.toNatClampNeg x2) l_kp) v) := hD
                refine lv_iconst (v := 0) hx hb dX12_sheet_65 (by decide) ?_
                refine lv_istore (lv' := [(4, .int 0), (0, .ref (b 0)), (1, .int x0), (2, .int x1), (3, .int x2)]) hx hb dX12_sheet_66 hl (by decide) rfl (fun ls hl => ?_)
                exact lp68 41 (0 : Int32) (upd l_sz x0.toNatClampNeg x2) v _ _ ls g21437 (by decide : Rg 0 40 (0 : Int32)) (ar_upd p_so (show Rg (-1) 1 x1 from rg_w g21450 (by decide) (by decide))) (ar_upd p_sz g21455) (by have y90 : ¬ r21433.toInt = (0 : Int32).toInt := fun z => c21434 (Int32.toInt_inj.mp z); have y91 : ¬ r21439.toInt = (0 : Int32).toInt := fun z => c21440 (Int32.toInt_inj.mp z); have y92 : ¬ x1.toInt = ((-1) : Int32).toInt := fun z => c21446 (Int32.toInt_inj.mp z); have y93 : x2.toInt ≤ (40 : Int32).toInt := (lz_le _ _).mp c21451; have y94 : ¬ x1.toInt = ((-1) : Int32).toInt := fun z => c21453 (Int32.toInt_inj.mp z); have y95 : (0 : Int32).toInt ≤ x2.toInt := (lz_le _ _).mp c21454; have y96 : ¬ x1.toInt = ((-1) : Int32).toInt := fun z => c21456 (Int32.toInt_inj.mp z); have y97 : Rg 0 3 x0 := g21437; have y98 : Rg 1 1 r21433 := g21438; have y99 : Rg 0 1 x1 := g21450; have y910 : Rg 1 1 r21439 := g21445; have y911 : Rg 0 40 x2 := g21455; have y912 : Rg 0 3 x0 := g21437; have y913 : Rg 0 1 x1 := g21450; have y914 : Rg 0 40 x2 := g21455; have y915 : Rg 0 12 l_m := p_m; have y916 : Rg 0 120 l_tp := p_tp; have y917 : Rg 0 120 l_to := p_to; have y9c18 : ((-1) : Int32).toInt = -1 := (by decide); have y9c19 : (0 : Int32).toInt = 0 := (by decide); have y9c20 : (1 : Int32).toInt = 1 := (by decide); have y9c21 : (40 : Int32).toInt = 40 := (by decide); exact ⟨by rw [if_neg c21456], by omega, by omega, by omega, by omega, by omega⟩) hV hP hD hS (lv_sub (l' := [(0, .ref (b 0)), (1, .int x0), (4, .int 0)]) hl [1, 2, 0] rfl) (me_i (by decide : Rg 0 40 (0 : Int32)) (by decide))
              · exact absurd c21456 (wk_neq g21450 (by decide : Rg (-1) (-1) ((-1) : Int32)) (by decide))
            · have g21457 : Rg (-2147483648) (-1) x2 := rg_ltl g21452 (by decide : Rg 0 0 (0 : Int32)) (rg_nle c21454) (by decide)
              refine lv_bipush (v := (-14)) hx hb dX12_sheet_39 (by decide) ?_
              subst hAe
              exact W.iret (v := (-14)) hx hb hr (fun t ht hW => ⟨⟨_, (l_so, l_sz, v), rfl, ⟨hV, (by decide : Rg (-14) 1 ((-14) : Int32)), p_so, p_sz, (show ((x0.toInt < 0 ∨ 3 < x0.toInt ∨ x1.toInt < -1 ∨ 1 < x1.toInt ∨ (¬ x1.toInt = -1 ∧ 40 < x2.toInt)) → ((-14) : Int32).toInt = -2) ∧ (¬ (x0.toInt < 0 ∨ 3 < x0.toInt ∨ x1.toInt < -1 ∨ 1 < x1.toInt ∨ (¬ x1.toInt = -1 ∧ 40 < x2.toInt)) → ¬ x1.toInt = -1 → x2.toInt < 0 → ((-14) : Int32).toInt = -14) ∧ (¬ (x0.toInt < 0 ∨ 3 < x0.toInt ∨ x1.toInt < -1 ∨ 1 < x1.toInt ∨ (¬ x1.toInt = -1 ∧ 40 < x2.toInt)) → (x1.toInt = -1 ∨ 0 ≤ x2.toInt) → ((-14) : Int32).toInt = 1) from by have y90 : ¬ r21433.toInt = (0 : Int32).toInt := fun z => c21434 (Int32.toInt_inj.mp z); have y91 : ¬ r21439.toInt = (0 : Int32).toInt := fun z => c21440 (Int32.toInt_inj.mp z); have y92 : ¬ x1.toInt = ((-1) : Int32).toInt := fun z => c21446 (Int32.toInt_inj.mp z); have y93 : x2.toInt ≤ (40 : Int32).toInt := (lz_le _ _).mp c21451; have y94 : ¬ x1.toInt = ((-1) : Int32).toInt := fun z => c21453 (Int32.toInt_inj.mp z); have y95 : x2.toInt < (0 : Int32).toInt := (lz_lt _ _).mp (rg_nle c21454); have y96 : Rg 0 3 x0 := g21437; have y97 : Rg 1 1 r21433 := g21438; have y98 : Rg 0 1 x1 := g21450; have y99 : Rg 1 1 r21439 := g21445; have y910 : Rg (-2147483648) (-1) x2 := g21457; have y911 : Rg 0 3 x0 := g21437; have y912 : Rg 0 1 x1 := g21450; have y913 : Rg (-2147483648) (-1) x2 := g21457; have y914 : Rg 0 12 l_m := p_m; have y915 : Rg 0 120 l_tp := p_tp; have y916 : Rg 0 120 l_to := p_to; have y9c17 : ((-14) : Int32).toInt = -14 := (by decide); have y9c18 : ((-1) : Int32).toInt = -1 := (by decide); have y9c19 : (0 : Int32).toInt = 0 := (by decide); have y9c20 : (1 : Int32).toInt = 1 := (by decide); have y9c21 : (40 : Int32).toInt = 40 := (by decide); omega), ⟨fun _ => ⟨rfl, rfl⟩, fun h9 => absurd h9 (by decide)⟩⟩, by rw [ht]; exact hP, hD⟩, hS.F ht⟩) hS.2.2 dX12_sheet_41
        · have g21458 : Rg 41 2147483647 x2 := rg_ltr (by decide : Rg 40 40 (40 : Int32)) (rg_any x2) (rg_nle c21451) (by decide)
          refine lv_bipush (v := (-2)) hx hb dX12_sheet_27 (by decide) ?_
          subst hAe
          exact W.iret (v := (-2)) hx hb hr (fun t ht hW => ⟨⟨_, (l_so, l_sz, v), rfl, ⟨hV, (by decide : Rg (-14) 1 ((-2) : Int32)), p_so, p_sz, (show ((x0.toInt < 0 ∨ 3 < x0.toInt ∨ x1.toInt < -1 ∨ 1 < x1.toInt ∨ (¬ x1.toInt = -1 ∧ 40 < x2.toInt)) → ((-2) : Int32).toInt = -2) ∧ (¬ (x0.toInt < 0 ∨ 3 < x0.toInt ∨ x1.toInt < -1 ∨ 1 < x1.toInt ∨ (¬ x1.toInt = -1 ∧ 40 < x2.toInt)) → ¬ x1.toInt = -1 → x2.toInt < 0 → ((-2) : Int32).toInt = -14) ∧ (¬ (x0.toInt < 0 ∨ 3 < x0.toInt ∨ x1.toInt < -1 ∨ 1 < x1.toInt ∨ (¬ x1.toInt = -1 ∧ 40 < x2.toInt)) → (x1.toInt = -1 ∨ 0 ≤ x2.toInt) → ((-2) : Int32).toInt = 1) from by have y90 : ¬ r21433.toInt = (0 : Int32).toInt := fun z => c21434 (Int32.toInt_inj.mp z); have y91 : ¬ r21439.toInt = (0 : Int32).toInt := fun z => c21440 (Int32.toInt_inj.mp z); have y92 : ¬ x1.toInt = ((-1) : Int32).toInt := fun z => c21446 (Int32.toInt_inj.mp z); have y93 : (40 : Int32).toInt < x2.toInt := (lz_lt _ _).mp (rg_nle c21451); have y94 : Rg 0 3 x0 := g21437; have y95 : Rg 1 1 r21433 := g21438; have y96 : Rg 0 1 x1 := g21450; have y97 : Rg 1 1 r21439 := g21445; have y98 : Rg 41 2147483647 x2 := g21458; have y99 : Rg 0 3 x0 := g21437; have y910 : Rg 0 1 x1 := g21450; have y911 : Rg 41 2147483647 x2 := g21458; have y912 : Rg 0 12 l_m := p_m; have y913 : Rg 0 120 l_tp := p_tp; have y914 : Rg 0 120 l_to := p_to; have y9c15 : ((-2) : Int32).toInt = -2 := (by decide); have y9c16 : ((-1) : Int32).toInt = -1 := (by decide); have y9c17 : (0 : Int32).toInt = 0 := (by decide); have y9c18 : (1 : Int32).toInt = 1 := (by decide); have y9c19 : (40 : Int32).toInt = 40 := (by decide); omega), ⟨fun _ => ⟨rfl, rfl⟩, fun h9 => absurd h9 (by decide)⟩⟩, by rw [ht]; exact hP, hD⟩, hS.F ht⟩) hS.2.2 dX12_sheet_29
