set_option maxRecDepth 20000 in
theorem ggX12_bracketsRead_X12_bits : GoodIn wsX12_bracketsRead wsX12_bits := goodIn_r _ [22] rfl (by decide +kernel)
set_option maxRecDepth 20000 in
theorem gX12_bracketsRead_X12_bits : GoodIn wsX12_bracketsRead (va_wsS RX12 85 yX12_bits wsX12_bits) := goodIn_app (goodIn_of _ (by decide +kernel)) ggX12_bracketsRead_X12_bits
set_option maxRecDepth 20000 in
theorem ggX12_bracketsRead_X12_goesOn : GoodIn wsX12_bracketsRead wsX12_goesOn := goodIn_r _ [7, 8, 9, 10, 11, 1, 12, 13, 14, 15, 6, 16, 17, 18, 19, 44, 45, 46, 47, 48, 49, 50, 51, 52, 53, 54, 55, 56, 57, 58, 59, 60, 61, 62, 63, 64, 65, 66, 67] rfl (by decide +kernel)
set_option maxRecDepth 20000 in
theorem gX12_bracketsRead_X12_goesOn : GoodIn wsX12_bracketsRead (wsV RX12 187 RX12 yX12_goesOn wsX12_goesOn) := goodIn_app (goodIn_of _ (by decide +kernel)) ggX12_bracketsRead_X12_goesOn
set_option maxRecDepth 20000 in
theorem ggX12_bracketsRead_X12_has : GoodIn wsX12_bracketsRead wsX12_has := goodIn_r _ [33] rfl (by decide +kernel)
set_option maxRecDepth 20000 in
theorem gX12_bracketsRead_X12_has : GoodIn wsX12_bracketsRead (va_wsS RX12 59 yX12_has wsX12_has) := goodIn_app (goodIn_of _ (by decide +kernel)) ggX12_bracketsRead_X12_has
set_option maxRecDepth 20000 in
theorem ggX12_bracketsRead_X12_joins : GoodIn wsX12_bracketsRead wsX12_joins := goodIn_r _ [37, 38, 39, 31, 32, 6, 33, 40, 41, 42, 43, 44, 45, 46, 47, 48, 49, 50, 51, 52, 53, 54, 55, 56, 57, 58, 59, 60, 61, 62, 63, 64, 65, 66, 67] rfl (by decide +kernel)
set_option maxRecDepth 20000 in
theorem gX12_bracketsRead_X12_joins : GoodIn wsX12_bracketsRead (wsV RX12 193 RX12 yX12_joins wsX12_joins) := goodIn_app (goodIn_of _ (by decide +kernel)) ggX12_bracketsRead_X12_joins
set_option maxRecDepth 20000 in
theorem ggX12_bracketsRead_X12_pointRead : GoodIn wsX12_bracketsRead wsX12_pointRead := goodIn_r _ [26, 1, 10, 27, 28, 29, 6, 30, 2, 17, 18, 19, 31, 32, 33, 3, 4, 5, 7, 8, 9, 11, 12, 13, 14, 15, 16, 44, 45, 46, 47, 48, 49, 50, 51, 52, 53, 54, 55, 56, 57, 58, 59, 60, 61, 62, 63, 64, 65, 66, 67] rfl (by decide +kernel)
set_option maxRecDepth 20000 in
theorem gX12_bracketsRead_X12_pointRead : GoodIn wsX12_bracketsRead (wsV RX12 190 RX12 yX12_pointRead wsX12_pointRead) := goodIn_app (goodIn_of _ (by decide +kernel)) ggX12_bracketsRead_X12_pointRead
theorem dX12_bracketsRead_0 : decode cX12_bracketsRead 0 = .ok (.iload_n 1, 1) := by decide +kernel
theorem dX12_bracketsRead_1 : decode cX12_bracketsRead 1 = .ok (.ifCond .eq 8, 3) := by decide +kernel
theorem dX12_bracketsRead_101 : decode cX12_bracketsRead 101 = .ok (.ifCond .eq 11, 3) := by decide +kernel
theorem dX12_bracketsRead_104 : decode cX12_bracketsRead 104 = .ok (.aload_n 0, 1) := by decide +kernel
theorem dX12_bracketsRead_105 : decode cX12_bracketsRead 105 = .ok (.iload 7, 2) := by decide +kernel
theorem dX12_bracketsRead_107 : decode cX12_bracketsRead 107 = .ok (.iload 8, 2) := by decide +kernel
theorem dX12_bracketsRead_109 : decode cX12_bracketsRead 109 = .ok (.invokevirtual 193, 3) := by decide +kernel
theorem dX12_bracketsRead_11 : decode cX12_bracketsRead 11 = .ok (.istore_n 2, 1) := by decide +kernel
theorem dX12_bracketsRead_112 : decode cX12_bracketsRead 112 = .ok (.iinc 8 1, 3) := by decide +kernel
theorem dX12_bracketsRead_115 : decode cX12_bracketsRead 115 = .ok (.goto (-44), 3) := by decide +kernel
theorem dX12_bracketsRead_118 : decode cX12_bracketsRead 118 = .ok (.iload 6, 2) := by decide +kernel
theorem dX12_bracketsRead_12 : decode cX12_bracketsRead 12 = .ok (.iload_n 1, 1) := by decide +kernel
theorem dX12_bracketsRead_120 : decode cX12_bracketsRead 120 = .ok (.iconst (-1), 1) := by decide +kernel
theorem dX12_bracketsRead_121 : decode cX12_bracketsRead 121 = .ok (.if_icmp .ne 8, 3) := by decide +kernel
theorem dX12_bracketsRead_124 : decode cX12_bracketsRead 124 = .ok (.iload 7, 2) := by decide +kernel
theorem dX12_bracketsRead_126 : decode cX12_bracketsRead 126 = .ok (.goto 5, 3) := by decide +kernel
theorem dX12_bracketsRead_129 : decode cX12_bracketsRead 129 = .ok (.iload 6, 2) := by decide +kernel
theorem dX12_bracketsRead_13 : decode cX12_bracketsRead 13 = .ok (.ifCond .eq 7, 3) := by decide +kernel
theorem dX12_bracketsRead_131 : decode cX12_bracketsRead 131 = .ok (.istore 6, 2) := by decide +kernel
theorem dX12_bracketsRead_133 : decode cX12_bracketsRead 133 = .ok (.iload 4, 2) := by decide +kernel
theorem dX12_bracketsRead_135 : decode cX12_bracketsRead 135 = .ok (.iconst 1, 1) := by decide +kernel
theorem dX12_bracketsRead_136 : decode cX12_bracketsRead 136 = .ok (.iload 7, 2) := by decide +kernel
theorem dX12_bracketsRead_138 : decode cX12_bracketsRead 138 = .ok (.ishl, 1) := by decide +kernel
theorem dX12_bracketsRead_139 : decode cX12_bracketsRead 139 = .ok (.ior, 1) := by decide +kernel
theorem dX12_bracketsRead_140 : decode cX12_bracketsRead 140 = .ok (.istore 4, 2) := by decide +kernel
theorem dX12_bracketsRead_142 : decode cX12_bracketsRead 142 = .ok (.iload 7, 2) := by decide +kernel
theorem dX12_bracketsRead_144 : decode cX12_bracketsRead 144 = .ok (.istore 5, 2) := by decide +kernel
theorem dX12_bracketsRead_146 : decode cX12_bracketsRead 146 = .ok (.goto (-111), 3) := by decide +kernel
theorem dX12_bracketsRead_149 : decode cX12_bracketsRead 149 = .ok (.iload_n 1, 1) := by decide +kernel
theorem dX12_bracketsRead_150 : decode cX12_bracketsRead 150 = .ok (.ifCond .eq 11, 3) := by decide +kernel
theorem dX12_bracketsRead_153 : decode cX12_bracketsRead 153 = .ok (.aload_n 0, 1) := by decide +kernel
theorem dX12_bracketsRead_154 : decode cX12_bracketsRead 154 = .ok (.iload 5, 2) := by decide +kernel
theorem dX12_bracketsRead_156 : decode cX12_bracketsRead 156 = .ok (.iload 6, 2) := by decide +kernel
theorem dX12_bracketsRead_158 : decode cX12_bracketsRead 158 = .ok (.invokevirtual 193, 3) := by decide +kernel
theorem dX12_bracketsRead_16 : decode cX12_bracketsRead 16 = .ok (.iconst 3, 1) := by decide +kernel
theorem dX12_bracketsRead_161 : decode cX12_bracketsRead 161 = .ok (.aload_n 0, 1) := by decide +kernel
theorem dX12_bracketsRead_162 : decode cX12_bracketsRead 162 = .ok (.invokevirtual 187, 3) := by decide +kernel
theorem dX12_bracketsRead_165 : decode cX12_bracketsRead 165 = .ok (.iconst 1, 1) := by decide +kernel
theorem dX12_bracketsRead_166 : decode cX12_bracketsRead 166 = .ok (.ireturn, 1) := by decide +kernel
theorem dX12_bracketsRead_17 : decode cX12_bracketsRead 17 = .ok (.goto 4, 3) := by decide +kernel
theorem dX12_bracketsRead_20 : decode cX12_bracketsRead 20 = .ok (.iconst 2, 1) := by decide +kernel
theorem dX12_bracketsRead_21 : decode cX12_bracketsRead 21 = .ok (.istore_n 3, 1) := by decide +kernel
theorem dX12_bracketsRead_22 : decode cX12_bracketsRead 22 = .ok (.iconst 0, 1) := by decide +kernel
theorem dX12_bracketsRead_23 : decode cX12_bracketsRead 23 = .ok (.istore 4, 2) := by decide +kernel
theorem dX12_bracketsRead_25 : decode cX12_bracketsRead 25 = .ok (.iconst (-1), 1) := by decide +kernel
theorem dX12_bracketsRead_26 : decode cX12_bracketsRead 26 = .ok (.istore 5, 2) := by decide +kernel
theorem dX12_bracketsRead_28 : decode cX12_bracketsRead 28 = .ok (.iconst (-1), 1) := by decide +kernel
theorem dX12_bracketsRead_29 : decode cX12_bracketsRead 29 = .ok (.istore 6, 2) := by decide +kernel
theorem dX12_bracketsRead_31 : decode cX12_bracketsRead 31 = .ok (.aload_n 0, 1) := by decide +kernel
theorem dX12_bracketsRead_32 : decode cX12_bracketsRead 32 = .ok (.invokevirtual 187, 3) := by decide +kernel
theorem dX12_bracketsRead_35 : decode cX12_bracketsRead 35 = .ok (.iload 4, 2) := by decide +kernel
theorem dX12_bracketsRead_37 : decode cX12_bracketsRead 37 = .ok (.invokestatic 85, 3) := by decide +kernel
theorem dX12_bracketsRead_4 : decode cX12_bracketsRead 4 = .ok (.bipush 41, 2) := by decide +kernel
theorem dX12_bracketsRead_40 : decode cX12_bracketsRead 40 = .ok (.iload_n 3, 1) := by decide +kernel
theorem dX12_bracketsRead_41 : decode cX12_bracketsRead 41 = .ok (.if_icmp .lt 11, 3) := by decide +kernel
theorem dX12_bracketsRead_44 : decode cX12_bracketsRead 44 = .ok (.aload_n 0, 1) := by decide +kernel
theorem dX12_bracketsRead_45 : decode cX12_bracketsRead 45 = .ok (.getfield 181, 3) := by decide +kernel
theorem dX12_bracketsRead_48 : decode cX12_bracketsRead 48 = .ok (.iload_n 2, 1) := by decide +kernel
theorem dX12_bracketsRead_49 : decode cX12_bracketsRead 49 = .ok (.if_icmp .eq 100, 3) := by decide +kernel
theorem dX12_bracketsRead_52 : decode cX12_bracketsRead 52 = .ok (.aload_n 0, 1) := by decide +kernel
theorem dX12_bracketsRead_53 : decode cX12_bracketsRead 53 = .ok (.iload 4, 2) := by decide +kernel
theorem dX12_bracketsRead_55 : decode cX12_bracketsRead 55 = .ok (.invokevirtual 190, 3) := by decide +kernel
theorem dX12_bracketsRead_58 : decode cX12_bracketsRead 58 = .ok (.istore 7, 2) := by decide +kernel
theorem dX12_bracketsRead_6 : decode cX12_bracketsRead 6 = .ok (.goto 5, 3) := by decide +kernel
theorem dX12_bracketsRead_60 : decode cX12_bracketsRead 60 = .ok (.iload 7, 2) := by decide +kernel
theorem dX12_bracketsRead_62 : decode cX12_bracketsRead 62 = .ok (.iconst (-1), 1) := by decide +kernel
theorem dX12_bracketsRead_63 : decode cX12_bracketsRead 63 = .ok (.if_icmp .ne 5, 3) := by decide +kernel
theorem dX12_bracketsRead_66 : decode cX12_bracketsRead 66 = .ok (.iconst 0, 1) := by decide +kernel
theorem dX12_bracketsRead_67 : decode cX12_bracketsRead 67 = .ok (.ireturn, 1) := by decide +kernel
theorem dX12_bracketsRead_68 : decode cX12_bracketsRead 68 = .ok (.iconst 0, 1) := by decide +kernel
theorem dX12_bracketsRead_69 : decode cX12_bracketsRead 69 = .ok (.istore 8, 2) := by decide +kernel
theorem dX12_bracketsRead_71 : decode cX12_bracketsRead 71 = .ok (.iload 8, 2) := by decide +kernel
theorem dX12_bracketsRead_73 : decode cX12_bracketsRead 73 = .ok (.aload_n 0, 1) := by decide +kernel
theorem dX12_bracketsRead_74 : decode cX12_bracketsRead 74 = .ok (.getfield 63, 3) := by decide +kernel
theorem dX12_bracketsRead_77 : decode cX12_bracketsRead 77 = .ok (.if_icmp .ge 41, 3) := by decide +kernel
theorem dX12_bracketsRead_80 : decode cX12_bracketsRead 80 = .ok (.iload_n 1, 1) := by decide +kernel
theorem dX12_bracketsRead_81 : decode cX12_bracketsRead 81 = .ok (.ifCond .eq 13, 3) := by decide +kernel
theorem dX12_bracketsRead_84 : decode cX12_bracketsRead 84 = .ok (.iload 8, 2) := by decide +kernel
theorem dX12_bracketsRead_86 : decode cX12_bracketsRead 86 = .ok (.iload 5, 2) := by decide +kernel
theorem dX12_bracketsRead_88 : decode cX12_bracketsRead 88 = .ok (.if_icmp .ne 24, 3) := by decide +kernel
theorem dX12_bracketsRead_9 : decode cX12_bracketsRead 9 = .ok (.bipush 93, 2) := by decide +kernel
theorem dX12_bracketsRead_91 : decode cX12_bracketsRead 91 = .ok (.goto 13, 3) := by decide +kernel
theorem dX12_bracketsRead_94 : decode cX12_bracketsRead 94 = .ok (.iload 4, 2) := by decide +kernel
theorem dX12_bracketsRead_96 : decode cX12_bracketsRead 96 = .ok (.iload 8, 2) := by decide +kernel
theorem dX12_bracketsRead_98 : decode cX12_bracketsRead 98 = .ok (.invokestatic 59, 3) := by decide +kernel
set_option maxHeartbeats 4000000 in
set_option maxRecDepth 100000 in
theorem w_X12_bracketsRead (l : Launch) (D : va_G) (cI cS : ClassId) (sz : Nat) (b : Nat → Nat) (l_m l_z l_tp l_hs l_to l_tk l_wo : Int32) (l_so l_sz l_kp : Nat → Int32) (v0 : SU) (hL : TyL (mkM l_m l_z l_tp l_hs l_to l_tk l_wo l_so l_sz l_kp)) (hV : TyV v0) (x0 : Int32) (px0 : Rg 0 1 x0) (hto : l_to.toInt ≤ l_tp.toInt) : Met l yX12_bracketsRead wsX12_bracketsRead ({ frames := 4, cells := 0, slots := 0, locals := 160 }) (PQ D cI cS (wM cI b (mkM l_m l_z l_tp l_hs l_to l_tk l_wo l_so l_sz l_kp) v0) sz [.ref (b 0), .int x0]) (QF (S := Int32 × Int32 × Int32 × SU) D (wM cI b (mkM l_m l_z l_tp l_hs l_to l_tk l_wo l_so l_sz l_kp) v0) (fun q => wM cI b (mkM l_m l_z l_tp l_hs q.1 q.2.1 q.2.2.1 l_so l_sz l_kp) q.2.2.2) sz (fun r q => TyV q.2.2.2 ∧ Rg 0 1 r ∧ Rg 0 120 q.1 ∧ (l_to.toInt ≤ q.1.toInt ∧ q.1.toInt ≤ l_tp.toInt ∧ (¬ q.2.1.toInt = 0 → l_to.toInt < q.1.toInt ∨ ¬ l_tk.toInt = 0)))) 0 0 (va_A (wM cI b (mkM l_m l_z l_tp l_hs l_to l_tk l_wo l_so l_sz l_kp) v0) sz) := by
  refine Met.ofW (cc := cX12_bracketsRead) (maxL := 9) (ret := (some .boolean)) (by decide) rfl ?_
  intro p e s m args below meth c s₁ B hml hv
  obtain ⟨rfl, hsz, hP, hKK, hD0⟩ := hv
  have hx := B.exec
  have hb := B.bytes
  have hr := B.returns
  have hts := atoms_spec (ws := wsX12_bracketsRead) B.pre
  have hown : s.vm.findClass RX12 = some m.cls := findClass_of_methodNamed B.named
  have hlocks := B.notSynchronized
  have hK := hKK.1
  have hin12 : ∀ w ∈ wsX120, w ∈ wsX12_bracketsRead := by decide +kernel
  subst hsz
  have hD := hD0.self (sz := s.heap.size)
  obtain ⟨A, hAe⟩ : ∃ A, A = va_A (wM cI b (mkM l_m l_z l_tp l_hs l_to l_tk l_wo l_so l_sz l_kp) v0) s.heap.size := ⟨_, rfl⟩
  rw [← hAe] at hD
  have hA : ∀ q : Nat, s.heap.size ≤ q → A q := fun q h => by rw [hAe]; exact Or.inr h
  have hS : va_S A s.heap s.heap [] := va_S.rf
  have hl := lv_entry ([.ref (b 0), .int x0]) (n := 9) (Nat.le_of_ble_eq_true rfl)
  rw [lg_entry_eq]
  generalize (lg_sl ([.ref (b 0), .int x0]) ++ List.replicate (9 - (lg_sl ([.ref (b 0), .int x0])).length) Slot.unset).toArray = ls at hl ⊢
  have hl : lv_has ls 9 [(0, .ref (b 0)), (1, .int x0)] := hl
  obtain ⟨v, hv9⟩ : ∃ v : SU, v = v0 := ⟨_, rfl⟩
  rw [← hv9] at hP hD hV
  have p_m : Rg 0 12 l_m := hL.1
  have p_tp : Rg 0 120 l_tp := hL.2.1
  have p_so : Ar (-1) 1 l_so := hL.2.2.1
  have p_sz : Ar 0 40 l_sz := hL.2.2.2.1
  have p_kp : Kp l_kp := hL.2.2.2.2.1
  have p_to : Rg 0 120 l_to := hL.2.2.2.2.2
  have lp35 : ∀ (n35 : Nat) (y35_l2 : Int32) (y35_l3 : Int32) (y35_l4 : Int32) (y35_l5 : Int32) (y35_l6 : Int32) (y35_kto : Int32) (y35_ktk : Int32) (y35_kwo : Int32) (v : SU) (H : Heap) (locs : List Loc) (ls : Array Slot), Rg 0 1 x0 → Rg 41 93 y35_l2 → Rg 2 3 y35_l3 → Rg 0 4095 y35_l4 → Rg (-1) 11 y35_l5 → Rg (-1) 11 y35_l6 → Rg 0 120 y35_kto → (l_to.toInt ≤ y35_kto.toInt ∧ y35_kto.toInt ≤ l_tp.toInt ∧ (¬ y35_ktk.toInt = 0 → l_to.toInt < y35_kto.toInt ∨ ¬ l_tk.toInt = 0)) → (y35_l4 = 0 ∨ (Rg 0 11 y35_l5 ∧ Rg 0 11 y35_l6)) → TyV v → va_P D cls (wM cI b (mkM l_m l_z l_tp l_hs y35_kto y35_ktk y35_kwo l_so l_sz l_kp) v) H → va_D A (wM cI b (mkM l_m l_z l_tp l_hs y35_kto y35_ktk y35_kwo l_so l_sz l_kp) v) → va_S A s.heap H locs → lv_has ls 9 [(0, .ref (b 0)), (1, .int x0), (2, .int y35_l2), (3, .int y35_l3), (4, .int y35_l4), (5, .int y35_l5), (6, .int y35_l6)] → (2 * (l_tp.toInt - y35_kto.toInt) + (if y35_ktk.toInt = 0 then 0 else 1)) < (n35 : Int) → W p l e (headSpec wsX12_bracketsRead ({ frames := 4, cells := 0, slots := 0, locals := 160 })).room s m ([.ref (b 0), .int x0]).toArray below meth c H locs 0 0 (MQ below (QF (S := Int32 × Int32 × Int32 × SU) D (wM cI b (mkM l_m l_z l_tp l_hs l_to l_tk l_wo l_so l_sz l_kp) v0) (fun q => wM cI b (mkM l_m l_z l_tp l_hs q.1 q.2.1 q.2.2.1 l_so l_sz l_kp) q.2.2.2) s.heap.size (fun r q => TyV q.2.2.2 ∧ Rg 0 1 r ∧ Rg 0 120 q.1 ∧ (l_to.toInt ≤ q.1.toInt ∧ q.1.toInt ≤ l_tp.toInt ∧ (¬ q.2.1.toInt = 0 → l_to.toInt < q.1.toInt ∨ ¬ l_tk.toInt = 0)))) ([.ref (b 0), .int x0]).toArray s 0 0 (va_A (wM cI b (mkM l_m l_z l_tp l_hs l_to l_tk l_wo l_so l_sz l_kp) v0) s.heap.size)) (F0 m 35 ls []) := by
    intro n35
    induction n35 with
    | zero =>
      intro y35_l2 y35_l3 y35_l4 y35_l5 y35_l6 y35_kto y35_ktk y35_kwo v H locs ls g35_l1 g35_l2 g35_l3 g35_l4 g35_l5 g35_l6 g35_kto x35_0 x35_1 hV hP hD hS hl hm35
      exact False.elim (by have z8 := hm35; have z7 := x35_0; revert z8; split <;> omega)
    | succ n35 ih35 =>
      intro y35_l2 y35_l3 y35_l4 y35_l5 y35_l6 y35_kto y35_ktk y35_kwo v H locs ls g35_l1 g35_l2 g35_l3 g35_l4 g35_l5 g35_l6 g35_kto x35_0 x35_1 hV hP hD hS hl hm35
      have lp71 : ∀ (n71 : Nat) (y71_l7 : Int32) (y71_l8 : Int32) (y71_kto : Int32) (y71_ktk : Int32) (y71_kwo : Int32) (v : SU) (H : Heap) (locs : List Loc) (ls : Array Slot), Rg 0 1 x0 → Rg 41 93 y35_l2 → Rg 2 3 y35_l3 → Rg 0 4095 y35_l4 → Rg (-1) 11 y35_l5 → Rg (-1) 11 y35_l6 → Rg 0 11 y71_l7 → Rg 0 12 y71_l8 → Rg 0 120 y71_kto → (l_to.toInt ≤ y71_kto.toInt ∧ y71_kto.toInt ≤ l_tp.toInt ∧ (¬ y71_ktk.toInt = 0 → l_to.toInt < y71_kto.toInt ∨ ¬ l_tk.toInt = 0)) → (y35_kto.toInt ≤ y71_kto.toInt ∧ y35_ktk.toInt = 1 ∧ (¬ y71_ktk.toInt = 0 → y35_kto.toInt < y71_kto.toInt)) → TyV v → va_P D cls (wM cI b (mkM l_m l_z l_tp l_hs y71_kto y71_ktk y71_kwo l_so l_sz l_kp) v) H → va_D A (wM cI b (mkM l_m l_z l_tp l_hs y71_kto y71_ktk y71_kwo l_so l_sz l_kp) v) → va_S A s.heap H locs → lv_has ls 9 [(0, .ref (b 0)), (1, .int x0), (2, .int y35_l2), (3, .int y35_l3), (4, .int y35_l4), (5, .int y35_l5), (6, .int y35_l6), (7, .int y71_l7), (8, .int y71_l8)] → 12 - y71_l8.toInt < (n71 : Int) → W p l e (headSpec wsX12_bracketsRead ({ frames := 4, cells := 0, slots := 0, locals := 160 })).room s m ([.ref (b 0), .int x0]).toArray below meth c H locs 0 0 (MQ below (QF (S := Int32 × Int32 × Int32 × SU) D (wM cI b (mkM l_m l_z l_tp l_hs l_to l_tk l_wo l_so l_sz l_kp) v0) (fun q => wM cI b (mkM l_m l_z l_tp l_hs q.1 q.2.1 q.2.2.1 l_so l_sz l_kp) q.2.2.2) s.heap.size (fun r q => TyV q.2.2.2 ∧ Rg 0 1 r ∧ Rg 0 120 q.1 ∧ (l_to.toInt ≤ q.1.toInt ∧ q.1.toInt ≤ l_tp.toInt ∧ (¬ q.2.1.toInt = 0 → l_to.toInt < q.1.toInt ∨ ¬ l_tk.toInt = 0)))) ([.ref (b 0), .int x0]).toArray s 0 0 (va_A (wM cI b (mkM l_m l_z l_tp l_hs l_to l_tk l_wo l_so l_sz l_kp) v0) s.heap.size)) (F0 m 71 ls []) := by
        intro n71
        induction n71 with
        | zero =>
          intro y71_l7 y71_l8 y71_kto y71_ktk y71_kwo v H locs ls g71_l1 g71_l2 g71_l3 g71_l4 g71_l5 g71_l6 g71_l7 g71_l8 g71_kto x71_0 x71_1 hV hP hD hS hl hm71
          exact absurd rfl (me_z g71_l8 hm71)
        | succ n71 ih71 =>
          intro y71_l7 y71_l8 y71_kto y71_ktk y71_kwo v H locs ls g71_l1 g71_l2 g71_l3 g71_l4 g71_l5 g71_l6 g71_l7 g71_l8 g71_kto x71_0 x71_1 hV hP hD hS hl hm71
          refine lv_iload hx hb dX12_bracketsRead_71 (lv_at hl 8 rfl) ?_
          refine lv_aload_n hx hb dX12_bracketsRead_73 rfl (lv_at hl 0 rfl) ?_
          refine va_get (D := D) (ci := 12) (v := .int l_m) (C := RX12) (T := TX12) (N := 24) hx hb hts hin12 hown hK hP 0 rfl rfl 0 (by decide) (hts (.fieldLink RX12 63 "MissedPointsModel" "many" "I") (by decide +kernel)) (fun _ h9 => h9) rfl dX12_bracketsRead_74 ?_
          refine lv_icmp_ge (tgt := 118) hx hb dX12_bracketsRead_77 (by decide) (fun c24673 => ?_) (fun c24673 => ?_)
          · refine lv_iload hx hb dX12_bracketsRead_118 (lv_at hl 6 rfl) ?_
            refine lv_iconst (v := (-1)) hx hb dX12_bracketsRead_120 (by decide) ?_
            refine lv_icmp_ne (tgt := 129) hx hb dX12_bracketsRead_121 (by decide) (fun c24674 => ?_) (fun c24674 => ?_)
            · have g24675 : Rg 0 11 y35_l6 := rg_ne_lo (k := (-1)) g71_l6 (by decide) c24674 (by decide)
              refine lv_iload hx hb dX12_bracketsRead_129 (lv_at hl 6 rfl) ?_
              refine lv_istore (lv' := [(6, .int y35_l6), (0, .ref (b 0)), (1, .int x0), (2, .int y35_l2), (3, .int y35_l3), (4, .int y35_l4), (5, .int y35_l5), (7, .int y71_l7), (8, .int y71_l8)]) hx hb dX12_bracketsRead_131 hl (by decide) rfl (fun ls hl => ?_)
              refine lv_iload hx hb dX12_bracketsRead_133 (lv_at hl 5 rfl) ?_
              refine lv_iconst (v := 1) hx hb dX12_bracketsRead_135 (by decide) ?_
              refine lv_iload hx hb dX12_bracketsRead_136 (lv_at hl 7 rfl) ?_
              refine wk_ishl1 (f := 2048) hx hb dX12_bracketsRead_138 g71_l7 (by decide) (fun r24676 hr24676 qr24676 => ?_)
              refine wk_ior 12 (e1 := 1) (f := 4095) hx hb dX12_bracketsRead_139 g71_l4 hr24676 (by decide) (fun r24677 hr24677 qr24677 => ?_)
              refine lv_istore (lv' := [(4, .int r24677), (6, .int y35_l6), (0, .ref (b 0)), (1, .int x0), (2, .int y35_l2), (3, .int y35_l3), (5, .int y35_l5), (7, .int y71_l7), (8, .int y71_l8)]) hx hb dX12_bracketsRead_140 hl (by decide) rfl (fun ls hl => ?_)
              refine lv_iload hx hb dX12_bracketsRead_142 (lv_at hl 7 rfl) ?_
              refine lv_istore (lv' := [(5, .int y71_l7), (4, .int r24677), (6, .int y35_l6), (0, .ref (b 0)), (1, .int x0), (2, .int y35_l2), (3, .int y35_l3), (7, .int y71_l7), (8, .int y71_l8)]) hx hb dX12_bracketsRead_144 hl (by decide) rfl (fun ls hl => ?_)
              refine lv_goto (tgt := 35) hx hb dX12_bracketsRead_146 (by decide) ?_
              exact ih35 y35_l2 y35_l3 r24677 y71_l7 y35_l6 y71_kto y71_ktk y71_kwo v _ _ ls g71_l1 g71_l2 g71_l3 (show Rg 0 4095 r24677 from rg_w hr24677 (by decide) (by decide)) (show Rg (-1) 11 y71_l7 from rg_w g71_l7 (by decide) (by decide)) (show Rg (-1) 11 y35_l6 from rg_w g24675 (by decide) (by decide)) g71_kto (show (l_to.toInt ≤ y71_kto.toInt ∧ y71_kto.toInt ≤ l_tp.toInt ∧ (¬ y71_ktk.toInt = 0 → l_to.toInt < y71_kto.toInt ∨ ¬ l_tk.toInt = 0)) from by have y90 : l_m.toInt ≤ y71_l8.toInt := (lz_le _ _).mp c24673; have y91 : ¬ y35_l6.toInt = ((-1) : Int32).toInt := fun z => c24674 (Int32.toInt_inj.mp z); have y92 : Rg 0 11 y35_l6 := g24675; have y93 : Rg 0 1 x0 := g71_l1; have y94 : Rg 41 93 y35_l2 := g71_l2; have y95 : Rg 2 3 y35_l3 := g71_l3; have y96 : Rg 1 4095 r24677 := hr24677; have y97 : Rg 0 11 y71_l7 := g71_l7; have y98 : Rg 0 11 y35_l6 := g24675; have y99 : Rg 0 11 y71_l7 := g71_l7; have y910 : Rg 0 12 y71_l8 := g71_l8; have y911 : Rg 0 12 l_m := p_m; have y912 : Rg 0 120 l_tp := p_tp; have y913 : Rg 0 120 y71_kto := g71_kto; have y9c14 : ((-1) : Int32).toInt = -1 := (by decide); have y9c15 : (0 : Int32).toInt = 0 := (by decide); have y9c16 : (1 : Int32).toInt = 1 := (by decide); omega) (by exact Or.inr ⟨g71_l7, g24675⟩) hV hP hD hS (lv_sub (l' := [(0, .ref (b 0)), (1, .int x0), (2, .int y35_l2), (3, .int y35_l3), (4, .int r24677), (5, .int y71_l7), (6, .int y35_l6)]) hl [3, 4, 5, 6, 1, 0, 2] rfl) (show (2 * (l_tp.toInt - y71_kto.toInt) + (if y71_ktk.toInt = 0 then 0 else 1)) < _ from by have z8 := hm35; have y90 : l_m.toInt ≤ y71_l8.toInt := (lz_le _ _).mp c24673; have y91 : ¬ y35_l6.toInt = ((-1) : Int32).toInt := fun z => c24674 (Int32.toInt_inj.mp z); have y92 : Rg 0 11 y35_l6 := g24675; have y93 : Rg 0 1 x0 := g71_l1; have y94 : Rg 41 93 y35_l2 := g71_l2; have y95 : Rg 2 3 y35_l3 := g71_l3; have y96 : Rg 1 4095 r24677 := hr24677; have y97 : Rg 0 11 y71_l7 := g71_l7; have y98 : Rg 0 11 y35_l6 := g24675; have y99 : Rg 0 11 y71_l7 := g71_l7; have y910 : Rg 0 12 y71_l8 := g71_l8; have y911 : Rg 0 12 l_m := p_m; have y912 : Rg 0 120 l_tp := p_tp; have y913 : Rg 0 120 y71_kto := g71_kto; have y9c14 : ((-1) : Int32).toInt = -1 := (by decide); have y9c15 : (0 : Int32).toInt = 0 := (by decide); have y9c16 : (1 : Int32).toInt = 1 := (by decide); revert z8; split <;> split <;> omega)
            · have g24678 : Rg (-1) (-1) y35_l6 := wk_eql g71_l6 (by decide : Rg (-1) (-1) ((-1) : Int32)) c24674 (by decide)
              refine lv_iload hx hb dX12_bracketsRead_124 (lv_at hl 7 rfl) ?_
              refine lv_goto (tgt := 131) hx hb dX12_bracketsRead_126 (by decide) ?_
              refine lv_istore (lv' := [(6, .int y71_l7), (0, .ref (b 0)), (1, .int x0), (2, .int y35_l2), (3, .int y35_l3), (4, .int y35_l4), (5, .int y35_l5), (7, .int y71_l7), (8, .int y71_l8)]) hx hb dX12_bracketsRead_131 hl (by decide) rfl (fun ls hl => ?_)
              refine lv_iload hx hb dX12_bracketsRead_133 (lv_at hl 5 rfl) ?_
              refine lv_iconst (v := 1) hx hb dX12_bracketsRead_135 (by decide) ?_
              refine lv_iload hx hb dX12_bracketsRead_136 (lv_at hl 7 rfl) ?_
              refine wk_ishl1 (f := 2048) hx hb dX12_bracketsRead_138 g71_l7 (by decide) (fun r24679 hr24679 qr24679 => ?_)
              refine wk_ior 12 (e1 := 1) (f := 4095) hx hb dX12_bracketsRead_139 g71_l4 hr24679 (by decide) (fun r24680 hr24680 qr24680 => ?_)
              refine lv_istore (lv' := [(4, .int r24680), (6, .int y71_l7), (0, .ref (b 0)), (1, .int x0), (2, .int y35_l2), (3, .int y35_l3), (5, .int y35_l5), (7, .int y71_l7), (8, .int y71_l8)]) hx hb dX12_bracketsRead_140 hl (by decide) rfl (fun ls hl => ?_)
              refine lv_iload hx hb dX12_bracketsRead_142 (lv_at hl 7 rfl) ?_
              refine lv_istore (lv' := [(5, .int y71_l7), (4, .int r24680), (6, .int y71_l7), (0, .ref (b 0)), (1, .int x0), (2, .int y35_l2), (3, .int y35_l3), (7, .int y71_l7), (8, .int y71_l8)]) hx hb dX12_bracketsRead_144 hl (by decide) rfl (fun ls hl => ?_)
              refine lv_goto (tgt := 35) hx hb dX12_bracketsRead_146 (by decide) ?_
              exact ih35 y35_l2 y35_l3 r24680 y71_l7 y71_l7 y71_kto y71_ktk y71_kwo v _ _ ls g71_l1 g71_l2 g71_l3 (show Rg 0 4095 r24680 from rg_w hr24680 (by decide) (by decide)) (show Rg (-1) 11 y71_l7 from rg_w g71_l7 (by decide) (by decide)) (show Rg (-1) 11 y71_l7 from rg_w g71_l7 (by decide) (by decide)) g71_kto (show (l_to.toInt ≤ y71_kto.toInt ∧ y71_kto.toInt ≤ l_tp.toInt ∧ (¬ y71_ktk.toInt = 0 → l_to.toInt < y71_kto.toInt ∨ ¬ l_tk.toInt = 0)) from by have y90 : l_m.toInt ≤ y71_l8.toInt := (lz_le _ _).mp c24673; have y91 : y35_l6.toInt = ((-1) : Int32).toInt := congrArg Int32.toInt c24674; have y92 : Rg (-1) (-1) y35_l6 := g24678; have y93 : Rg 0 1 x0 := g71_l1; have y94 : Rg 41 93 y35_l2 := g71_l2; have y95 : Rg 2 3 y35_l3 := g71_l3; have y96 : Rg 1 4095 r24680 := hr24680; have y97 : Rg 0 11 y71_l7 := g71_l7; have y98 : Rg 0 11 y71_l7 := g71_l7; have y99 : Rg 0 11 y71_l7 := g71_l7; have y910 : Rg 0 12 y71_l8 := g71_l8; have y911 : Rg 0 12 l_m := p_m; have y912 : Rg 0 120 l_tp := p_tp; have y913 : Rg 0 120 y71_kto := g71_kto; have y9c14 : ((-1) : Int32).toInt = -1 := (by decide); have y9c15 : (0 : Int32).toInt = 0 := (by decide); have y9c16 : (1 : Int32).toInt = 1 := (by decide); omega) (by exact Or.inr ⟨g71_l7, g71_l7⟩) hV hP hD hS (lv_sub (l' := [(0, .ref (b 0)), (1, .int x0), (2, .int y35_l2), (3, .int y35_l3), (4, .int r24680), (5, .int y71_l7), (6, .int y71_l7)]) hl [3, 4, 5, 6, 1, 0, 2] rfl) (show (2 * (l_tp.toInt - y71_kto.toInt) + (if y71_ktk.toInt = 0 then 0 else 1)) < _ from by have z8 := hm35; have y90 : l_m.toInt ≤ y71_l8.toInt := (lz_le _ _).mp c24673; have y91 : y35_l6.toInt = ((-1) : Int32).toInt := congrArg Int32.toInt c24674; have y92 : Rg (-1) (-1) y35_l6 := g24678; have y93 : Rg 0 1 x0 := g71_l1; have y94 : Rg 41 93 y35_l2 := g71_l2; have y95 : Rg 2 3 y35_l3 := g71_l3; have y96 : Rg 1 4095 r24680 := hr24680; have y97 : Rg 0 11 y71_l7 := g71_l7; have y98 : Rg 0 11 y71_l7 := g71_l7; have y99 : Rg 0 11 y71_l7 := g71_l7; have y910 : Rg 0 12 y71_l8 := g71_l8; have y911 : Rg 0 12 l_m := p_m; have y912 : Rg 0 120 l_tp := p_tp; have y913 : Rg 0 120 y71_kto := g71_kto; have y9c14 : ((-1) : Int32).toInt = -1 := (by decide); have y9c15 : (0 : Int32).toInt = 0 := (by decide); have y9c16 : (1 : Int32).toInt = 1 := (by decide); revert z8; split <;> split <;> omega)
          · have g24681 : Rg 1 12 l_m := rg_ltr g71_l8 p_m (rg_nle c24673) (by decide)
            have g24682 : Rg 0 11 y71_l8 := rg_ltl g71_l8 p_m (rg_nle c24673) (by decide)
            refine lv_iload_n hx hb dX12_bracketsRead_80 rfl (lv_at hl 1 rfl) ?_
            refine lv_if_eq (tgt := 94) hx hb dX12_bracketsRead_81 (by decide) (fun c24683 => ?_) (fun c24683 => ?_)
            · have g24684 : Rg 0 0 x0 := wk_eql g71_l1 (by decide : Rg 0 0 (0 : Int32)) c24683 (by decide)
              refine lv_iload hx hb dX12_bracketsRead_94 (lv_at hl 4 rfl) ?_
              refine lv_iload hx hb dX12_bracketsRead_96 (lv_at hl 8 rfl) ?_
              refine lz_ss (As := [.int y35_l4, .int y71_l8]) (rest := []) ⟨hx, hb, hml, hown, hts⟩ (w_X12_has l D cI cS y35_l4 y71_l8) hKK (hP.sub (ws' := []) [] rfl) (va_cwS 2 hts gX12_bracketsRead_X12_has rfl rfl rfl (by decide +kernel) ⟨Nat.le_of_ble_eq_true rfl, Nat.le_of_ble_eq_true rfl⟩) rfl hl.1 rfl (Nat.le_of_ble_eq_true rfl) dX12_bracketsRead_98 ⟨Nat.le_of_ble_eq_true rfl, Nat.le_of_ble_eq_true rfl⟩ (fun r24685 hr24685 => ?_)
              refine lv_if_eq (tgt := 112) hx hb dX12_bracketsRead_101 (by decide) (fun c24686 => ?_) (fun c24686 => ?_)
              · have g24687 : Rg 0 0 r24685 := wk_eql hr24685.1 (by decide : Rg 0 0 (0 : Int32)) c24686 (by decide)
                refine wk_iinc (lv' := fun r => [(8, .int r), (0, .ref (b 0)), (1, .int x0), (2, .int y35_l2), (3, .int y35_l3), (4, .int y35_l4), (5, .int y35_l5), (6, .int y35_l6), (7, .int y71_l7)]) (e1 := 1) (f := 12) hx hb dX12_bracketsRead_112 hl (k := 8) rfl (by decide) g24682 (by decide) (fun _ => rfl) (fun r24688 ls hr24688 er24688 hl => ?_)
                refine lv_goto (tgt := 71) hx hb dX12_bracketsRead_115 (by decide) ?_
                exact ih71 y71_l7 r24688 y71_kto y71_ktk y71_kwo v _ _ ls (show Rg 0 1 x0 from rg_w g24684 (by decide) (by decide)) g71_l2 g71_l3 g71_l4 g71_l5 g71_l6 g71_l7 (show Rg 0 12 r24688 from rg_w hr24688 (by decide) (by decide)) g71_kto (show (l_to.toInt ≤ y71_kto.toInt ∧ y71_kto.toInt ≤ l_tp.toInt ∧ (¬ y71_ktk.toInt = 0 → l_to.toInt < y71_kto.toInt ∨ ¬ l_tk.toInt = 0)) from by have y90 : y71_l8.toInt < l_m.toInt := (lz_lt _ _).mp (rg_nle c24673); have y91 : x0.toInt = (0 : Int32).toInt := congrArg Int32.toInt c24683; have y92 : r24685.toInt = (0 : Int32).toInt := congrArg Int32.toInt c24686; have y93 : Rg 1 12 l_m := g24681; have y94 : Rg 0 11 y71_l8 := g24682; have y95 : Rg 0 0 x0 := g24684; have y96 : Rg 0 0 r24685 := g24687; have y97 : Rg 0 0 x0 := g24684; have y98 : Rg 41 93 y35_l2 := g71_l2; have y99 : Rg 2 3 y35_l3 := g71_l3; have y910 : Rg 0 4095 y35_l4 := g71_l4; have y911 : Rg (-1) 11 y35_l5 := g71_l5; have y912 : Rg (-1) 11 y35_l6 := g71_l6; have y913 : Rg 0 11 y71_l7 := g71_l7; have y914 : Rg 1 12 r24688 := hr24688; have y915 : Rg 1 12 l_m := g24681; have y916 : Rg 0 120 l_tp := p_tp; have y917 : Rg 0 120 y71_kto := g71_kto; have y9c18 : (0 : Int32).toInt = 0 := (by decide); have y9c19 : (1 : Int32).toInt = 1 := (by decide); omega) (show (y35_kto.toInt ≤ y71_kto.toInt ∧ y35_ktk.toInt = 1 ∧ (¬ y71_ktk.toInt = 0 → y35_kto.toInt < y71_kto.toInt)) from by have y90 : y71_l8.toInt < l_m.toInt := (lz_lt _ _).mp (rg_nle c24673); have y91 : x0.toInt = (0 : Int32).toInt := congrArg Int32.toInt c24683; have y92 : r24685.toInt = (0 : Int32).toInt := congrArg Int32.toInt c24686; have y93 : Rg 1 12 l_m := g24681; have y94 : Rg 0 11 y71_l8 := g24682; have y95 : Rg 0 0 x0 := g24684; have y96 : Rg 0 0 r24685 := g24687; have y97 : Rg 0 0 x0 := g24684; have y98 : Rg 41 93 y35_l2 := g71_l2; have y99 : Rg 2 3 y35_l3 := g71_l3; have y910 : Rg 0 4095 y35_l4 := g71_l4; have y911 : Rg (-1) 11 y35_l5 := g71_l5; have y912 : Rg (-1) 11 y35_l6 := g71_l6; have y913 : Rg 0 11 y71_l7 := g71_l7; have y914 : Rg 1 12 r24688 := hr24688; have y915 : Rg 1 12 l_m := g24681; have y916 : Rg 0 120 l_tp := p_tp; have y917 : Rg 0 120 y71_kto := g71_kto; have y9c18 : (0 : Int32).toInt = 0 := (by decide); have y9c19 : (1 : Int32).toInt = 1 := (by decide); omega) hV hP hD hS (lv_sub (l' := [(0, .ref (b 0)), (1, .int x0), (2, .int y35_l2), (3, .int y35_l3), (4, .int y35_l4), (5, .int y35_l5), (6, .int y35_l6), (7, .int y71_l7), (8, .int r24688)]) hl [1, 2, 3, 4, 5, 6, 7, 8, 0] rfl) (me_up hm71 er24688 (by decide))
              · have g24689 : Rg 1 1 r24685 := rg_ne_lo (k := 0) hr24685.1 (by decide) c24686 (by decide)
                refine lv_aload_n hx hb dX12_bracketsRead_104 rfl (lv_at hl 0 rfl) ?_
                refine lv_iload hx hb dX12_bracketsRead_105 (lv_at hl 7 rfl) ?_
                refine lv_iload hx hb dX12_bracketsRead_107 (lv_at hl 8 rfl) ?_
                refine wk_qv (wM cI b (mkM l_m l_z l_tp l_hs y71_kto y71_ktk y71_kwo l_so l_sz l_kp)) v (As := [.int y71_l7, .int y71_l8]) (rest := []) ⟨hx, hb, hml, hown, hts⟩ (w_X12_joins l D cI cS _ b (mkM l_m l_z l_tp l_hs y71_kto y71_ktk y71_kwo l_so l_sz l_kp) v (show TyL (mkM l_m l_z l_tp l_hs y71_kto y71_ktk y71_kwo l_so l_sz l_kp) from ⟨(show Rg 0 12 l_m from rg_w g24681 (by decide) (by decide)), p_tp, p_so, p_sz, p_kp, g71_kto⟩) hV y71_l7 y71_l8 g71_l7 g24682) hKK hP hD hS hA 0 (ci := 12) rfl rfl (cwV 2 hts gX12_bracketsRead_X12_joins rfl rfl rfl (by decide +kernel) ⟨Nat.le_of_ble_eq_true rfl, Nat.le_of_ble_eq_true rfl⟩) rfl hl.1 rfl (Nat.le_of_ble_eq_true rfl) dX12_bracketsRead_109 ⟨Nat.le_of_ble_eq_true rfl, Nat.le_of_ble_eq_true rfl⟩ (fun v H locs hr24690 hP hD hS => ?_)
                have hV := hr24690.1
                refine wk_iinc (lv' := fun r => [(8, .int r), (0, .ref (b 0)), (1, .int x0), (2, .int y35_l2), (3, .int y35_l3), (4, .int y35_l4), (5, .int y35_l5), (6, .int y35_l6), (7, .int y71_l7)]) (e1 := 1) (f := 12) hx hb dX12_bracketsRead_112 hl (k := 8) rfl (by decide) g24682 (by decide) (fun _ => rfl) (fun r24691 ls hr24691 er24691 hl => ?_)
                refine lv_goto (tgt := 71) hx hb dX12_bracketsRead_115 (by decide) ?_
                exact ih71 y71_l7 r24691 y71_kto y71_ktk y71_kwo v _ _ ls (show Rg 0 1 x0 from rg_w g24684 (by decide) (by decide)) g71_l2 g71_l3 g71_l4 g71_l5 g71_l6 g71_l7 (show Rg 0 12 r24691 from rg_w hr24691 (by decide) (by decide)) g71_kto (show (l_to.toInt ≤ y71_kto.toInt ∧ y71_kto.toInt ≤ l_tp.toInt ∧ (¬ y71_ktk.toInt = 0 → l_to.toInt < y71_kto.toInt ∨ ¬ l_tk.toInt = 0)) from by have y90 : y71_l8.toInt < l_m.toInt := (lz_lt _ _).mp (rg_nle c24673); have y91 : x0.toInt = (0 : Int32).toInt := congrArg Int32.toInt c24683; have y92 : ¬ r24685.toInt = (0 : Int32).toInt := fun z => c24686 (Int32.toInt_inj.mp z); have y93 : Rg 1 12 l_m := g24681; have y94 : Rg 0 11 y71_l8 := g24682; have y95 : Rg 0 0 x0 := g24684; have y96 : Rg 1 1 r24685 := g24689; have y97 : Rg 0 0 x0 := g24684; have y98 : Rg 41 93 y35_l2 := g71_l2; have y99 : Rg 2 3 y35_l3 := g71_l3; have y910 : Rg 0 4095 y35_l4 := g71_l4; have y911 : Rg (-1) 11 y35_l5 := g71_l5; have y912 : Rg (-1) 11 y35_l6 := g71_l6; have y913 : Rg 0 11 y71_l7 := g71_l7; have y914 : Rg 1 12 r24691 := hr24691; have y915 : Rg 1 12 l_m := g24681; have y916 : Rg 0 120 l_tp := p_tp; have y917 : Rg 0 120 y71_kto := g71_kto; have y9c18 : (0 : Int32).toInt = 0 := (by decide); have y9c19 : (1 : Int32).toInt = 1 := (by decide); omega) (show (y35_kto.toInt ≤ y71_kto.toInt ∧ y35_ktk.toInt = 1 ∧ (¬ y71_ktk.toInt = 0 → y35_kto.toInt < y71_kto.toInt)) from by have y90 : y71_l8.toInt < l_m.toInt := (lz_lt _ _).mp (rg_nle c24673); have y91 : x0.toInt = (0 : Int32).toInt := congrArg Int32.toInt c24683; have y92 : ¬ r24685.toInt = (0 : Int32).toInt := fun z => c24686 (Int32.toInt_inj.mp z); have y93 : Rg 1 12 l_m := g24681; have y94 : Rg 0 11 y71_l8 := g24682; have y95 : Rg 0 0 x0 := g24684; have y96 : Rg 1 1 r24685 := g24689; have y97 : Rg 0 0 x0 := g24684; have y98 : Rg 41 93 y35_l2 := g71_l2; have y99 : Rg 2 3 y35_l3 := g71_l3; have y910 : Rg 0 4095 y35_l4 := g71_l4; have y911 : Rg (-1) 11 y35_l5 := g71_l5; have y912 : Rg (-1) 11 y35_l6 := g71_l6; have y913 : Rg 0 11 y71_l7 := g71_l7; have y914 : Rg 1 12 r24691 := hr24691; have y915 : Rg 1 12 l_m := g24681; have y916 : Rg 0 120 l_tp := p_tp; have y917 : Rg 0 120 y71_kto := g71_kto; have y9c18 : (0 : Int32).toInt = 0 := (by decide); have y9c19 : (1 : Int32).toInt = 1 := (by decide); omega) hV hP hD hS (lv_sub (l' := [(0, .ref (b 0)), (1, .int x0), (2, .int y35_l2), (3, .int y35_l3), (4, .int y35_l4), (5, .int y35_l5), (6, .int y35_l6), (7, .int y71_l7), (8, .int r24691)]) hl [1, 2, 3, 4, 5, 6, 7, 8, 0] rfl) (me_up hm71 er24691 (by decide))
            · have g24692 : Rg 1 1 x0 := rg_ne_lo (k := 0) g71_l1 (by decide) c24683 (by decide)
              refine lv_iload hx hb dX12_bracketsRead_84 (lv_at hl 8 rfl) ?_
              refine lv_iload hx hb dX12_bracketsRead_86 (lv_at hl 5 rfl) ?_
              refine lv_icmp_ne (tgt := 112) hx hb dX12_bracketsRead_88 (by decide) (fun c24693 => ?_) (fun c24693 => ?_)
              · refine wk_iinc (lv' := fun r => [(8, .int r), (0, .ref (b 0)), (1, .int x0), (2, .int y35_l2), (3, .int y35_l3), (4, .int y35_l4), (5, .int y35_l5), (6, .int y35_l6), (7, .int y71_l7)]) (e1 := 1) (f := 12) hx hb dX12_bracketsRead_112 hl (k := 8) rfl (by decide) g24682 (by decide) (fun _ => rfl) (fun r24694 ls hr24694 er24694 hl => ?_)
                refine lv_goto (tgt := 71) hx hb dX12_bracketsRead_115 (by decide) ?_
                exact ih71 y71_l7 r24694 y71_kto y71_ktk y71_kwo v _ _ ls (show Rg 0 1 x0 from rg_w g24692 (by decide) (by decide)) g71_l2 g71_l3 g71_l4 g71_l5 g71_l6 g71_l7 (show Rg 0 12 r24694 from rg_w hr24694 (by decide) (by decide)) g71_kto (show (l_to.toInt ≤ y71_kto.toInt ∧ y71_kto.toInt ≤ l_tp.toInt ∧ (¬ y71_ktk.toInt = 0 → l_to.toInt < y71_kto.toInt ∨ ¬ l_tk.toInt = 0)) from by have y90 : y71_l8.toInt < l_m.toInt := (lz_lt _ _).mp (rg_nle c24673); have y91 : ¬ x0.toInt = (0 : Int32).toInt := fun z => c24683 (Int32.toInt_inj.mp z); have y92 : ¬ y71_l8.toInt = y35_l5.toInt := fun z => c24693 (Int32.toInt_inj.mp z); have y93 : Rg 1 12 l_m := g24681; have y94 : Rg 0 11 y71_l8 := g24682; have y95 : Rg 1 1 x0 := g24692; have y96 : Rg 1 1 x0 := g24692; have y97 : Rg 41 93 y35_l2 := g71_l2; have y98 : Rg 2 3 y35_l3 := g71_l3; have y99 : Rg 0 4095 y35_l4 := g71_l4; have y910 : Rg (-1) 11 y35_l5 := g71_l5; have y911 : Rg (-1) 11 y35_l6 := g71_l6; have y912 : Rg 0 11 y71_l7 := g71_l7; have y913 : Rg 1 12 r24694 := hr24694; have y914 : Rg 1 12 l_m := g24681; have y915 : Rg 0 120 l_tp := p_tp; have y916 : Rg 0 120 y71_kto := g71_kto; have y9c17 : (0 : Int32).toInt = 0 := (by decide); have y9c18 : (1 : Int32).toInt = 1 := (by decide); omega) (show (y35_kto.toInt ≤ y71_kto.toInt ∧ y35_ktk.toInt = 1 ∧ (¬ y71_ktk.toInt = 0 → y35_kto.toInt < y71_kto.toInt)) from by have y90 : y71_l8.toInt < l_m.toInt := (lz_lt _ _).mp (rg_nle c24673); have y91 : ¬ x0.toInt = (0 : Int32).toInt := fun z => c24683 (Int32.toInt_inj.mp z); have y92 : ¬ y71_l8.toInt = y35_l5.toInt := fun z => c24693 (Int32.toInt_inj.mp z); have y93 : Rg 1 12 l_m := g24681; have y94 : Rg 0 11 y71_l8 := g24682; have y95 : Rg 1 1 x0 := g24692; have y96 : Rg 1 1 x0 := g24692; have y97 : Rg 41 93 y35_l2 := g71_l2; have y98 : Rg 2 3 y35_l3 := g71_l3; have y99 : Rg 0 4095 y35_l4 := g71_l4; have y910 : Rg (-1) 11 y35_l5 := g71_l5; have y911 : Rg (-1) 11 y35_l6 := g71_l6; have y912 : Rg 0 11 y71_l7 := g71_l7; have y913 : Rg 1 12 r24694 := hr24694; have y914 : Rg 1 12 l_m := g24681; have y915 : Rg 0 120 l_tp := p_tp; have y916 : Rg 0 120 y71_kto := g71_kto; have y9c17 : (0 : Int32).toInt = 0 := (by decide); have y9c18 : (1 : Int32).toInt = 1 := (by decide); omega) hV hP hD hS (lv_sub (l' := [(0, .ref (b 0)), (1, .int x0), (2, .int y35_l2), (3, .int y35_l3), (4, .int y35_l4), (5, .int y35_l5), (6, .int y35_l6), (7, .int y71_l7), (8, .int r24694)]) hl [1, 2, 3, 4, 5, 6, 7, 8, 0] rfl) (me_up hm71 er24694 (by decide))
              · have g24695 : Rg 0 11 y35_l5 := wk_eqr g24682 g71_l5 c24693 (by decide)
                refine lv_goto (tgt := 104) hx hb dX12_bracketsRead_91 (by decide) ?_
                refine lv_aload_n hx hb dX12_bracketsRead_104 rfl (lv_at hl 0 rfl) ?_
                refine lv_iload hx hb dX12_bracketsRead_105 (lv_at hl 7 rfl) ?_
                refine lv_iload hx hb dX12_bracketsRead_107 (lv_at hl 8 rfl) ?_
                refine wk_qv (wM cI b (mkM l_m l_z l_tp l_hs y71_kto y71_ktk y71_kwo l_so l_sz l_kp)) v (As := [.int y71_l7, .int y71_l8]) (rest := []) ⟨hx, hb, hml, hown, hts⟩ (w_X12_joins l D cI cS _ b (mkM l_m l_z l_tp l_hs y71_kto y71_ktk y71_kwo l_so l_sz l_kp) v (show TyL (mkM l_m l_z l_tp l_hs y71_kto y71_ktk y71_kwo l_so l_sz l_kp) from ⟨(show Rg 0 12 l_m from rg_w g24681 (by decide) (by decide)), p_tp, p_so, p_sz, p_kp, g71_kto⟩) hV y71_l7 y71_l8 g71_l7 g24682) hKK hP hD hS hA 0 (ci := 12) rfl rfl (cwV 2 hts gX12_bracketsRead_X12_joins rfl rfl rfl (by decide +kernel) ⟨Nat.le_of_ble_eq_true rfl, Nat.le_of_ble_eq_true rfl⟩) rfl hl.1 rfl (Nat.le_of_ble_eq_true rfl) dX12_bracketsRead_109 ⟨Nat.le_of_ble_eq_true rfl, Nat.le_of_ble_eq_true rfl⟩ (fun v H locs hr24696 hP hD hS => ?_)
                have hV := hr24696.1
                refine wk_iinc (lv' := fun r => [(8, .int r), (0, .ref (b 0)), (1, .int x0), (2, .int y35_l2), (3, .int y35_l3), (4, .int y35_l4), (5, .int y35_l5), (6, .int y35_l6), (7, .int y71_l7)]) (e1 := 1) (f := 12) hx hb dX12_bracketsRead_112 hl (k := 8) rfl (by decide) g24682 (by decide) (fun _ => rfl) (fun r24697 ls hr24697 er24697 hl => ?_)
                refine lv_goto (tgt := 71) hx hb dX12_bracketsRead_115 (by decide) ?_
                exact ih71 y71_l7 r24697 y71_kto y71_ktk y71_kwo v _ _ ls (show Rg 0 1 x0 from rg_w g24692 (by decide) (by decide)) g71_l2 g71_l3 g71_l4 (show Rg (-1) 11 y35_l5 from rg_w g24695 (by decide) (by decide)) g71_l6 g71_l7 (show Rg 0 12 r24697 from rg_w hr24697 (by decide) (by decide)) g71_kto (show (l_to.toInt ≤ y71_kto.toInt ∧ y71_kto.toInt ≤ l_tp.toInt ∧ (¬ y71_ktk.toInt = 0 → l_to.toInt < y71_kto.toInt ∨ ¬ l_tk.toInt = 0)) from by have y90 : y71_l8.toInt < l_m.toInt := (lz_lt _ _).mp (rg_nle c24673); have y91 : ¬ x0.toInt = (0 : Int32).toInt := fun z => c24683 (Int32.toInt_inj.mp z); have y92 : y71_l8.toInt = y35_l5.toInt := congrArg Int32.toInt c24693; have y93 : Rg 1 12 l_m := g24681; have y94 : Rg 0 11 y71_l8 := g24682; have y95 : Rg 1 1 x0 := g24692; have y96 : Rg 0 11 y35_l5 := g24695; have y97 : Rg 1 1 x0 := g24692; have y98 : Rg 41 93 y35_l2 := g71_l2; have y99 : Rg 2 3 y35_l3 := g71_l3; have y910 : Rg 0 4095 y35_l4 := g71_l4; have y911 : Rg 0 11 y35_l5 := g24695; have y912 : Rg (-1) 11 y35_l6 := g71_l6; have y913 : Rg 0 11 y71_l7 := g71_l7; have y914 : Rg 1 12 r24697 := hr24697; have y915 : Rg 1 12 l_m := g24681; have y916 : Rg 0 120 l_tp := p_tp; have y917 : Rg 0 120 y71_kto := g71_kto; have y9c18 : (0 : Int32).toInt = 0 := (by decide); have y9c19 : (1 : Int32).toInt = 1 := (by decide); omega) (show (y35_kto.toInt ≤ y71_kto.toInt ∧ y35_ktk.toInt = 1 ∧ (¬ y71_ktk.toInt = 0 → y35_kto.toInt < y71_kto.toInt)) from by have y90 : y71_l8.toInt < l_m.toInt := (lz_lt _ _).mp (rg_nle c24673); have y91 : ¬ x0.toInt = (0 : Int32).toInt := fun z => c24683 (Int32.toInt_inj.mp z); have y92 : y71_l8.toInt = y35_l5.toInt := congrArg Int32.toInt c24693; have y93 : Rg 1 12 l_m := g24681; have y94 : Rg 0 11 y71_l8 := g24682; have y95 : Rg 1 1 x0 := g24692; have y96 : Rg 0 11 y35_l5 := g24695; have y97 : Rg 1 1 x0 := g24692; have y98 : Rg 41 93 y35_l2 := g71_l2; have y99 : Rg 2 3 y35_l3 := g71_l3; have y910 : Rg 0 4095 y35_l4 := g71_l4; have y911 : Rg 0 11 y35_l5 := g24695; have y912 : Rg (-1) 11 y35_l6 := g71_l6; have y913 : Rg 0 11 y71_l7 := g71_l7; have y914 : Rg 1 12 r24697 := hr24697; have y915 : Rg 1 12 l_m := g24681; have y916 : Rg 0 120 l_tp := p_tp; have y917 : Rg 0 120 y71_kto := g71_kto; have y9c18 : (0 : Int32).toInt = 0 := (by decide); have y9c19 : (1 : Int32).toInt = 1 := (by decide); omega) hV hP hD hS (lv_sub (l' := [(0, .ref (b 0)), (1, .int x0), (2, .int y35_l2), (3, .int y35_l3), (4, .int y35_l4), (5, .int y35_l5), (6, .int y35_l6), (7, .int y71_l7), (8, .int r24697)]) hl [1, 2, 3, 4, 5, 6, 7, 8, 0] rfl) (me_up hm71 er24697 (by decide))
      refine lv_iload hx hb dX12_bracketsRead_35 (lv_at hl 4 rfl) ?_
      refine lz_ss (As := [.int y35_l4]) (rest := []) ⟨hx, hb, hml, hown, hts⟩ (w_X12_bits l D cI cS y35_l4) hKK (hP.sub (ws' := []) [] rfl) (va_cwS 1 hts gX12_bracketsRead_X12_bits rfl rfl rfl (by decide +kernel) ⟨Nat.le_of_ble_eq_true rfl, Nat.le_of_ble_eq_true rfl⟩) rfl hl.1 rfl (Nat.le_of_ble_eq_true rfl) dX12_bracketsRead_37 ⟨Nat.le_of_ble_eq_true rfl, Nat.le_of_ble_eq_true rfl⟩ (fun r24698 hr24698 => ?_)
      refine lv_iload_n hx hb dX12_bracketsRead_40 rfl (lv_at hl 3 rfl) ?_
      refine lv_icmp_lt (tgt := 52) hx hb dX12_bracketsRead_41 (by decide) (fun c24699 => ?_) (fun c24699 => ?_)
      · have g24700 : Rg (-2147483648) 2 r24698 := rg_ltl hr24698.1 g35_l3 c24699 (by decide)
        refine lv_aload_n hx hb dX12_bracketsRead_52 rfl (lv_at hl 0 rfl) ?_
        refine lv_iload hx hb dX12_bracketsRead_53 (lv_at hl 4 rfl) ?_
        refine wk_qi (S := Int32 × Int32 × Int32 × SU) (fun q => wM cI b (mkM l_m l_z l_tp l_hs q.1 q.2.1 q.2.2.1 l_so l_sz l_kp) q.2.2.2) (y35_kto, y35_ktk, y35_kwo, v) (As := [.int y35_l4]) (rest := []) ⟨hx, hb, hml, hown, hts⟩ (w_X12_pointRead l D cI cS _ b l_m l_z l_tp l_hs y35_kto y35_ktk y35_kwo l_so l_sz l_kp v (show TyL (mkM l_m l_z l_tp l_hs y35_kto y35_ktk y35_kwo l_so l_sz l_kp) from ⟨p_m, p_tp, p_so, p_sz, p_kp, g35_kto⟩) hV y35_l4 (by have y90 : r24698.toInt < y35_l3.toInt := (lz_lt _ _).mp c24699; have y91 : Rg (-2147483648) 2 r24698 := g24700; have y92 : Rg 0 1 x0 := g35_l1; have y93 : Rg 41 93 y35_l2 := g35_l2; have y94 : Rg 2 3 y35_l3 := g35_l3; have y95 : Rg 0 4095 y35_l4 := g35_l4; have y96 : Rg (-1) 11 y35_l5 := g35_l5; have y97 : Rg (-1) 11 y35_l6 := g35_l6; have y98 : Rg 0 4095 y35_l4 := g35_l4; have y99 : Rg 0 12 l_m := p_m; have y910 : Rg 0 120 l_tp := p_tp; have y911 : Rg 0 120 y35_kto := g35_kto; have y9c12 : (0 : Int32).toInt = 0 := (by decide); have y9c13 : (1 : Int32).toInt = 1 := (by decide); omega)) hKK hP hD hS hA 0 (ci := 12) rfl rfl (cwV 1 hts gX12_bracketsRead_X12_pointRead rfl rfl rfl (by decide +kernel) ⟨Nat.le_of_ble_eq_true rfl, Nat.le_of_ble_eq_true rfl⟩) rfl hl.1 rfl (Nat.le_of_ble_eq_true rfl) dX12_bracketsRead_55 ⟨Nat.le_of_ble_eq_true rfl, Nat.le_of_ble_eq_true rfl⟩ (fun r24701 q9 H locs hr24701 hP hD hS => ?_)
        obtain ⟨r24702, r24703, r24704, v⟩ := q9
        have hr24701 : TyV v ∧ Rg (-1) 11 r24701 ∧ Rg 0 120 r24702 ∧ (y35_kto.toInt ≤ r24702.toInt ∧ r24702.toInt ≤ l_tp.toInt ∧ (¬ r24701.toInt = -1 → y35_ktk.toInt = 1 ∧ (¬ r24703.toInt = 0 → y35_kto.toInt < r24702.toInt)) ∧ (r24701.toInt = -1 → r24702.toInt = y35_kto.toInt ∧ r24703.toInt = y35_ktk.toInt)) := hr24701
        have hV := hr24701.1
        have hP : va_P D cls (wM cI b (mkM l_m l_z l_tp l_hs r24702 r24703 r24704 l_so l_sz l_kp) v) H := hP
        have hD : va_D A (wM cI b (mkM l_m l_z l_tp l_hs r24702 r24703 r24704 l_so l_sz l_kp) v) := hD
        have kr24701_0 := hr24701.2.2.2
        refine lv_istore (lv' := [(7, .int r24701), (0, .ref (b 0)), (1, .int x0), (2, .int y35_l2), (3, .int y35_l3), (4, .int y35_l4), (5, .int y35_l5), (6, .int y35_l6)]) hx hb dX12_bracketsRead_58 hl (by decide) rfl (fun ls hl => ?_)
        refine lv_iload hx hb dX12_bracketsRead_60 (lv_at hl 0 rfl) ?_
        refine lv_iconst (v := (-1)) hx hb dX12_bracketsRead_62 (by decide) ?_
        refine lv_icmp_ne (tgt := 68) hx hb dX12_bracketsRead_63 (by decide) (fun c24705 => ?_) (fun c24705 => ?_)
        · have g24706 : Rg 0 11 r24701 := rg_ne_lo (k := (-1)) hr24701.2.1 (by decide) c24705 (by decide)
          refine lv_iconst (v := 0) hx hb dX12_bracketsRead_68 (by decide) ?_
          refine lv_istore (lv' := [(8, .int 0), (7, .int r24701), (0, .ref (b 0)), (1, .int x0), (2, .int y35_l2), (3, .int y35_l3), (4, .int y35_l4), (5, .int y35_l5), (6, .int y35_l6)]) hx hb dX12_bracketsRead_69 hl (by decide) rfl (fun ls hl => ?_)
          exact lp71 13 r24701 (0 : Int32) r24702 r24703 r24704 v _ _ ls g35_l1 g35_l2 g35_l3 g35_l4 g35_l5 g35_l6 g24706 (by decide : Rg 0 12 (0 : Int32)) hr24701.2.2.1 (show (l_to.toInt ≤ r24702.toInt ∧ r24702.toInt ≤ l_tp.toInt ∧ (¬ r24703.toInt = 0 → l_to.toInt < r24702.toInt ∨ ¬ l_tk.toInt = 0)) from by have y90 : r24698.toInt < y35_l3.toInt := (lz_lt _ _).mp c24699; have y91 : ¬ r24701.toInt = ((-1) : Int32).toInt := fun z => c24705 (Int32.toInt_inj.mp z); have y92 : Rg (-2147483648) 2 r24698 := g24700; have y93 : Rg 0 11 r24701 := g24706; have y94 : Rg 0 1 x0 := g35_l1; have y95 : Rg 41 93 y35_l2 := g35_l2; have y96 : Rg 2 3 y35_l3 := g35_l3; have y97 : Rg 0 4095 y35_l4 := g35_l4; have y98 : Rg (-1) 11 y35_l5 := g35_l5; have y99 : Rg (-1) 11 y35_l6 := g35_l6; have y910 : Rg 0 11 r24701 := g24706; have y911 : Rg 0 12 l_m := p_m; have y912 : Rg 0 120 l_tp := p_tp; have y913 : Rg 0 120 r24702 := hr24701.2.2.1; have y9c14 : ((-1) : Int32).toInt = -1 := (by decide); have y9c15 : (0 : Int32).toInt = 0 := (by decide); have y9c16 : (1 : Int32).toInt = 1 := (by decide); omega) (show (y35_kto.toInt ≤ r24702.toInt ∧ y35_ktk.toInt = 1 ∧ (¬ r24703.toInt = 0 → y35_kto.toInt < r24702.toInt)) from by have y90 : r24698.toInt < y35_l3.toInt := (lz_lt _ _).mp c24699; have y91 : ¬ r24701.toInt = ((-1) : Int32).toInt := fun z => c24705 (Int32.toInt_inj.mp z); have y92 : Rg (-2147483648) 2 r24698 := g24700; have y93 : Rg 0 11 r24701 := g24706; have y94 : Rg 0 1 x0 := g35_l1; have y95 : Rg 41 93 y35_l2 := g35_l2; have y96 : Rg 2 3 y35_l3 := g35_l3; have y97 : Rg 0 4095 y35_l4 := g35_l4; have y98 : Rg (-1) 11 y35_l5 := g35_l5; have y99 : Rg (-1) 11 y35_l6 := g35_l6; have y910 : Rg 0 11 r24701 := g24706; have y911 : Rg 0 12 l_m := p_m; have y912 : Rg 0 120 l_tp := p_tp; have y913 : Rg 0 120 r24702 := hr24701.2.2.1; have y9c14 : ((-1) : Int32).toInt = -1 := (by decide); have y9c15 : (0 : Int32).toInt = 0 := (by decide); have y9c16 : (1 : Int32).toInt = 1 := (by decide); omega) hV hP hD hS (lv_sub (l' := [(0, .ref (b 0)), (1, .int x0), (2, .int y35_l2), (3, .int y35_l3), (4, .int y35_l4), (5, .int y35_l5), (6, .int y35_l6), (7, .int r24701), (8, .int 0)]) hl [2, 3, 4, 5, 6, 7, 8, 1, 0] rfl) (me_i (by decide : Rg 0 12 (0 : Int32)) (by decide))
        · have g24707 : Rg (-1) (-1) r24701 := wk_eql hr24701.2.1 (by decide : Rg (-1) (-1) ((-1) : Int32)) c24705 (by decide)
          refine lv_iconst (v := 0) hx hb dX12_bracketsRead_66 (by decide) ?_
          subst hAe
          exact W.zret (v := 0) hx hb hr (by decide) (fun t ht hW => ⟨⟨_, (r24702, r24703, r24704, v), rfl, ⟨hV, (by decide : Rg 0 1 (0 : Int32)), hr24701.2.2.1, (show l_to.toInt ≤ r24702.toInt ∧ r24702.toInt ≤ l_tp.toInt ∧ (¬ r24703.toInt = 0 → l_to.toInt < r24702.toInt ∨ ¬ l_tk.toInt = 0) from by have y90 : r24698.toInt < y35_l3.toInt := (lz_lt _ _).mp c24699; have y91 : r24701.toInt = ((-1) : Int32).toInt := congrArg Int32.toInt c24705; have y92 : Rg (-2147483648) 2 r24698 := g24700; have y93 : Rg (-1) (-1) r24701 := g24707; have y94 : Rg 0 1 x0 := g35_l1; have y95 : Rg 41 93 y35_l2 := g35_l2; have y96 : Rg 2 3 y35_l3 := g35_l3; have y97 : Rg 0 4095 y35_l4 := g35_l4; have y98 : Rg (-1) 11 y35_l5 := g35_l5; have y99 : Rg (-1) 11 y35_l6 := g35_l6; have y910 : Rg (-1) (-1) r24701 := g24707; have y911 : Rg 0 12 l_m := p_m; have y912 : Rg 0 120 l_tp := p_tp; have y913 : Rg 0 120 r24702 := hr24701.2.2.1; have y9c14 : ((-1) : Int32).toInt = -1 := (by decide); have y9c15 : (0 : Int32).toInt = 0 := (by decide); have y9c16 : (1 : Int32).toInt = 1 := (by decide); omega)⟩, by rw [ht]; exact hP, hD⟩, hS.F ht⟩) hS.2.2 dX12_bracketsRead_67
      · have g24708 : Rg 2 2147483647 r24698 := rg_ler g35_l3 hr24698.1 (rg_nlt c24699) (by decide)
        refine lv_aload_n hx hb dX12_bracketsRead_44 rfl (lv_at hl 0 rfl) ?_
        refine va_get (D := D) (ci := 12) (v := .int y35_ktk) (C := RX12) (T := TX12) (N := 24) hx hb hts hin12 hown hK hP 0 rfl rfl 13 (by decide) (hts (.fieldLink RX12 181 "MissedPointsModel" "token" "I") (by decide +kernel)) (fun _ h9 => h9) rfl dX12_bracketsRead_45 ?_
        refine lv_iload_n hx hb dX12_bracketsRead_48 rfl (lv_at hl 2 rfl) ?_
        refine lv_icmp_eq (tgt := 149) hx hb dX12_bracketsRead_49 (by decide) (fun c24709 => ?_) (fun c24709 => ?_)
        · have g24710 : Rg 41 93 y35_ktk := wk_eql (rg_any y35_ktk) g35_l2 c24709 (by decide)
          refine lv_iload_n hx hb dX12_bracketsRead_149 rfl (lv_at hl 1 rfl) ?_
          refine lv_if_eq (tgt := 161) hx hb dX12_bracketsRead_150 (by decide) (fun c24711 => ?_) (fun c24711 => ?_)
          · have g24712 : Rg 0 0 x0 := wk_eql g35_l1 (by decide : Rg 0 0 (0 : Int32)) c24711 (by decide)
            refine lv_aload_n hx hb dX12_bracketsRead_161 rfl (lv_at hl 0 rfl) ?_
            refine wk_qv (S := Int32 × Int32 × Int32 × SU) (fun q => wM cI b (mkM l_m l_z l_tp l_hs q.1 q.2.1 q.2.2.1 l_so l_sz l_kp) q.2.2.2) (y35_kto, y35_ktk, y35_kwo, v) (As := []) (rest := []) ⟨hx, hb, hml, hown, hts⟩ (w_X12_goesOn l D cI cS _ b l_m l_z l_tp l_hs y35_kto y35_ktk y35_kwo l_so l_sz l_kp v (show TyL (mkM l_m l_z l_tp l_hs y35_kto y35_ktk y35_kwo l_so l_sz l_kp) from ⟨p_m, p_tp, p_so, p_sz, p_kp, g35_kto⟩) hV (by have y90 : y35_l3.toInt ≤ r24698.toInt := (lz_le _ _).mp (rg_nlt c24699); have y91 : y35_ktk.toInt = y35_l2.toInt := congrArg Int32.toInt c24709; have y92 : x0.toInt = (0 : Int32).toInt := congrArg Int32.toInt c24711; have y93 : Rg 2 2147483647 r24698 := g24708; have y94 : Rg 41 93 y35_ktk := g24710; have y95 : Rg 0 0 x0 := g24712; have y96 : Rg 0 0 x0 := g24712; have y97 : Rg 41 93 y35_l2 := g35_l2; have y98 : Rg 2 3 y35_l3 := g35_l3; have y99 : Rg 0 4095 y35_l4 := g35_l4; have y910 : Rg (-1) 11 y35_l5 := g35_l5; have y911 : Rg (-1) 11 y35_l6 := g35_l6; have y912 : Rg 0 12 l_m := p_m; have y913 : Rg 0 120 l_tp := p_tp; have y914 : Rg 0 120 y35_kto := g35_kto; have y915 : Rg 41 93 y35_ktk := g24710; have y9c16 : (0 : Int32).toInt = 0 := (by decide); have y9c17 : (1 : Int32).toInt = 1 := (by decide); omega)) hKK hP hD hS hA 0 (ci := 12) rfl rfl (cwV 0 hts gX12_bracketsRead_X12_goesOn rfl rfl rfl (by decide +kernel) ⟨Nat.le_of_ble_eq_true rfl, Nat.le_of_ble_eq_true rfl⟩) rfl hl.1 rfl (Nat.le_of_ble_eq_true rfl) dX12_bracketsRead_162 ⟨Nat.le_of_ble_eq_true rfl, Nat.le_of_ble_eq_true rfl⟩ (fun q9 H locs hr24713 hP hD hS => ?_)
            obtain ⟨r24714, r24715, r24716, v⟩ := q9
            have hr24713 : TyV v ∧ Rg 0 120 r24714 ∧ (y35_kto.toInt ≤ r24714.toInt ∧ r24714.toInt ≤ l_tp.toInt ∧ (¬ r24715.toInt = 0 → y35_kto.toInt < r24714.toInt)) := hr24713
            have hV := hr24713.1
            have hP : va_P D cls (wM cI b (mkM l_m l_z l_tp l_hs r24714 r24715 r24716 l_so l_sz l_kp) v) H := hP
            have hD : va_D A (wM cI b (mkM l_m l_z l_tp l_hs r24714 r24715 r24716 l_so l_sz l_kp) v) := hD
            have kr24713_0 := hr24713.2.2
            refine lv_iconst (v := 1) hx hb dX12_bracketsRead_165 (by decide) ?_
            subst hAe
            exact W.zret (v := 1) hx hb hr (by decide) (fun t ht hW => ⟨⟨_, (r24714, r24715, r24716, v), rfl, ⟨hV, (by decide : Rg 0 1 (1 : Int32)), hr24713.2.1, (show l_to.toInt ≤ r24714.toInt ∧ r24714.toInt ≤ l_tp.toInt ∧ (¬ r24715.toInt = 0 → l_to.toInt < r24714.toInt ∨ ¬ l_tk.toInt = 0) from by have y90 : y35_l3.toInt ≤ r24698.toInt := (lz_le _ _).mp (rg_nlt c24699); have y91 : y35_ktk.toInt = y35_l2.toInt := congrArg Int32.toInt c24709; have y92 : x0.toInt = (0 : Int32).toInt := congrArg Int32.toInt c24711; have y93 : Rg 2 2147483647 r24698 := g24708; have y94 : Rg 41 93 y35_ktk := g24710; have y95 : Rg 0 0 x0 := g24712; have y96 : Rg 0 0 x0 := g24712; have y97 : Rg 41 93 y35_l2 := g35_l2; have y98 : Rg 2 3 y35_l3 := g35_l3; have y99 : Rg 0 4095 y35_l4 := g35_l4; have y910 : Rg (-1) 11 y35_l5 := g35_l5; have y911 : Rg (-1) 11 y35_l6 := g35_l6; have y912 : Rg 0 12 l_m := p_m; have y913 : Rg 0 120 l_tp := p_tp; have y914 : Rg 0 120 r24714 := hr24713.2.1; have y9c15 : (0 : Int32).toInt = 0 := (by decide); have y9c16 : (1 : Int32).toInt = 1 := (by decide); omega)⟩, by rw [ht]; exact hP, hD⟩, hS.F ht⟩) hS.2.2 dX12_bracketsRead_166
          · have g24717 : Rg 1 1 x0 := rg_ne_lo (k := 0) g35_l1 (by decide) c24711 (by decide)
            have g24718 : Rg 0 11 y35_l5 ∧ Rg 0 11 y35_l6 := x35_1.resolve_left (fun z => by have z2 := congrArg Int32.toInt (hr24698.2 z); have y90 : y35_l3.toInt ≤ r24698.toInt := (lz_le _ _).mp (rg_nlt c24699); have y91 : y35_ktk.toInt = y35_l2.toInt := congrArg Int32.toInt c24709; have y92 : ¬ x0.toInt = (0 : Int32).toInt := fun z => c24711 (Int32.toInt_inj.mp z); have y93 : Rg 2 2147483647 r24698 := g24708; have y94 : Rg 41 93 y35_ktk := g24710; have y95 : Rg 1 1 x0 := g24717; have y96 : Rg 1 1 x0 := g24717; have y97 : Rg 41 93 y35_l2 := g35_l2; have y98 : Rg 2 3 y35_l3 := g35_l3; have y99 : Rg 0 4095 y35_l4 := g35_l4; have y910 : Rg (-1) 11 y35_l5 := g35_l5; have y911 : Rg (-1) 11 y35_l6 := g35_l6; have y912 : Rg 0 12 l_m := p_m; have y913 : Rg 0 120 l_tp := p_tp; have y914 : Rg 0 120 y35_kto := g35_kto; have y915 : Rg 41 93 y35_ktk := g24710; have y9c16 : (0 : Int32).toInt = 0 := (by decide); have y9c17 : (1 : Int32).toInt = 1 := (by decide); have z3 : (0 : Int32).toInt = 0 := (by decide); omega)
            refine lv_aload_n hx hb dX12_bracketsRead_153 rfl (lv_at hl 0 rfl) ?_
            refine lv_iload hx hb dX12_bracketsRead_154 (lv_at hl 5 rfl) ?_
            refine lv_iload hx hb dX12_bracketsRead_156 (lv_at hl 6 rfl) ?_
            refine wk_qv (wM cI b (mkM l_m l_z l_tp l_hs y35_kto y35_ktk y35_kwo l_so l_sz l_kp)) v (As := [.int y35_l5, .int y35_l6]) (rest := []) ⟨hx, hb, hml, hown, hts⟩ (w_X12_joins l D cI cS _ b (mkM l_m l_z l_tp l_hs y35_kto y35_ktk y35_kwo l_so l_sz l_kp) v (show TyL (mkM l_m l_z l_tp l_hs y35_kto y35_ktk y35_kwo l_so l_sz l_kp) from ⟨p_m, p_tp, p_so, p_sz, p_kp, g35_kto⟩) hV y35_l5 y35_l6 g24718.1 g24718.2) hKK hP hD hS hA 0 (ci := 12) rfl rfl (cwV 2 hts gX12_bracketsRead_X12_joins rfl rfl rfl (by decide +kernel) ⟨Nat.le_of_ble_eq_true rfl, Nat.le_of_ble_eq_true rfl⟩) rfl hl.1 rfl (Nat.le_of_ble_eq_true rfl) dX12_bracketsRead_158 ⟨Nat.le_of_ble_eq_true rfl, Nat.le_of_ble_eq_true rfl⟩ (fun v H locs hr24719 hP hD hS => ?_)
            have hV := hr24719.1
            refine lv_aload_n hx hb dX12_bracketsRead_161 rfl (lv_at hl 0 rfl) ?_
            refine wk_qv (S := Int32 × Int32 × Int32 × SU) (fun q => wM cI b (mkM l_m l_z l_tp l_hs q.1 q.2.1 q.2.2.1 l_so l_sz l_kp) q.2.2.2) (y35_kto, y35_ktk, y35_kwo, v) (As := []) (rest := []) ⟨hx, hb, hml, hown, hts⟩ (w_X12_goesOn l D cI cS _ b l_m l_z l_tp l_hs y35_kto y35_ktk y35_kwo l_so l_sz l_kp v (show TyL (mkM l_m l_z l_tp l_hs y35_kto y35_ktk y35_kwo l_so l_sz l_kp) from ⟨p_m, p_tp, p_so, p_sz, p_kp, g35_kto⟩) hV (by have y90 : y35_l3.toInt ≤ r24698.toInt := (lz_le _ _).mp (rg_nlt c24699); have y91 : y35_ktk.toInt = y35_l2.toInt := congrArg Int32.toInt c24709; have y92 : ¬ x0.toInt = (0 : Int32).toInt := fun z => c24711 (Int32.toInt_inj.mp z); have y93 : Rg 2 2147483647 r24698 := g24708; have y94 : Rg 41 93 y35_ktk := g24710; have y95 : Rg 1 1 x0 := g24717; have y96 : Rg 0 11 y35_l5 := g24718.1; have y97 : Rg 0 11 y35_l6 := g24718.2; have y98 : Rg 1 1 x0 := g24717; have y99 : Rg 41 93 y35_l2 := g35_l2; have y910 : Rg 2 3 y35_l3 := g35_l3; have y911 : Rg 0 4095 y35_l4 := g35_l4; have y912 : Rg 0 11 y35_l5 := g24718.1; have y913 : Rg 0 11 y35_l6 := g24718.2; have y914 : Rg 0 12 l_m := p_m; have y915 : Rg 0 120 l_tp := p_tp; have y916 : Rg 0 120 y35_kto := g35_kto; have y917 : Rg 41 93 y35_ktk := g24710; have y9c18 : (0 : Int32).toInt = 0 := (by decide); have y9c19 : (1 : Int32).toInt = 1 := (by decide); omega)) hKK hP hD hS hA 0 (ci := 12) rfl rfl (cwV 0 hts gX12_bracketsRead_X12_goesOn rfl rfl rfl (by decide +kernel) ⟨Nat.le_of_ble_eq_true rfl, Nat.le_of_ble_eq_true rfl⟩) rfl hl.1 rfl (Nat.le_of_ble_eq_true rfl) dX12_bracketsRead_162 ⟨Nat.le_of_ble_eq_true rfl, Nat.le_of_ble_eq_true rfl⟩ (fun q9 H locs hr24720 hP hD hS => ?_)
            obtain ⟨r24721, r24722, r24723, v⟩ := q9
            have hr24720 : TyV v ∧ Rg 0 120 r24721 ∧ (y35_kto.toInt ≤ r24721.toInt ∧ r24721.toInt ≤ l_tp.toInt ∧ (¬ r24722.toInt = 0 → y35_kto.toInt < r24721.toInt)) := hr24720
            have hV := hr24720.1
            have hP : va_P D cls (wM cI b (mkM l_m l_z l_tp l_hs r24721 r24722 r24723 l_so l_sz l_kp) v) H := hP
            have hD : va_D A (wM cI b (mkM l_m l_z l_tp l_hs r24721 r24722 r24723 l_so l_sz l_kp) v) := hD
            have kr24720_0 := hr24720.2.2
            refine lv_iconst (v := 1) hx hb dX12_bracketsRead_165 (by decide) ?_
            subst hAe
            exact W.zret (v := 1) hx hb hr (by decide) (fun t ht hW => ⟨⟨_, (r24721, r24722, r24723, v), rfl, ⟨hV, (by decide : Rg 0 1 (1 : Int32)), hr24720.2.1, (show l_to.toInt ≤ r24721.toInt ∧ r24721.toInt ≤ l_tp.toInt ∧ (¬ r24722.toInt = 0 → l_to.toInt < r24721.toInt ∨ ¬ l_tk.toInt = 0) from by have y90 : y35_l3.toInt ≤ r24698.toInt := (lz_le _ _).mp (rg_nlt c24699); have y91 : y35_ktk.toInt = y35_l2.toInt := congrArg Int32.toInt c24709; have y92 : ¬ x0.toInt = (0 : Int32).toInt := fun z => c24711 (Int32.toInt_inj.mp z); have y93 : Rg 2 2147483647 r24698 := g24708; have y94 : Rg 41 93 y35_ktk := g24710; have y95 : Rg 1 1 x0 := g24717; have y96 : Rg 0 11 y35_l5 := g24718.1; have y97 : Rg 0 11 y35_l6 := g24718.2; have y98 : Rg 1 1 x0 := g24717; have y99 : Rg 41 93 y35_l2 := g35_l2; have y910 : Rg 2 3 y35_l3 := g35_l3; have y911 : Rg 0 4095 y35_l4 := g35_l4; have y912 : Rg 0 11 y35_l5 := g24718.1; have y913 : Rg 0 11 y35_l6 := g24718.2; have y914 : Rg 0 12 l_m := p_m; have y915 : Rg 0 120 l_tp := p_tp; have y916 : Rg 0 120 r24721 := hr24720.2.1; have y9c17 : (0 : Int32).toInt = 0 := (by decide); have y9c18 : (1 : Int32).toInt = 1 := (by decide); omega)⟩, by rw [ht]; exact hP, hD⟩, hS.F ht⟩) hS.2.2 dX12_bracketsRead_166
        · refine lv_aload_n hx hb dX12_bracketsRead_52 rfl (lv_at hl 0 rfl) ?_
          refine lv_iload hx hb dX12_bracketsRead_53 (lv_at hl 4 rfl) ?_
          refine wk_qi (S := Int32 × Int32 × Int32 × SU) (fun q => wM cI b (mkM l_m l_z l_tp l_hs q.1 q.2.1 q.2.2.1 l_so l_sz l_kp) q.2.2.2) (y35_kto, y35_ktk, y35_kwo, v) (As := [.int y35_l4]) (rest := []) ⟨hx, hb, hml, hown, hts⟩ (w_X12_pointRead l D cI cS _ b l_m l_z l_tp l_hs y35_kto y35_ktk y35_kwo l_so l_sz l_kp v (show TyL (mkM l_m l_z l_tp l_hs y35_kto y35_ktk y35_kwo l_so l_sz l_kp) from ⟨p_m, p_tp, p_so, p_sz, p_kp, g35_kto⟩) hV y35_l4 (by have y90 : y35_l3.toInt ≤ r24698.toInt := (lz_le _ _).mp (rg_nlt c24699); have y91 : ¬ y35_ktk.toInt = y35_l2.toInt := fun z => c24709 (Int32.toInt_inj.mp z); have y92 : Rg 2 2147483647 r24698 := g24708; have y93 : Rg 0 1 x0 := g35_l1; have y94 : Rg 41 93 y35_l2 := g35_l2; have y95 : Rg 2 3 y35_l3 := g35_l3; have y96 : Rg 0 4095 y35_l4 := g35_l4; have y97 : Rg (-1) 11 y35_l5 := g35_l5; have y98 : Rg (-1) 11 y35_l6 := g35_l6; have y99 : Rg 0 4095 y35_l4 := g35_l4; have y910 : Rg 0 12 l_m := p_m; have y911 : Rg 0 120 l_tp := p_tp; have y912 : Rg 0 120 y35_kto := g35_kto; have y9c13 : (0 : Int32).toInt = 0 := (by decide); have y9c14 : (1 : Int32).toInt = 1 := (by decide); omega)) hKK hP hD hS hA 0 (ci := 12) rfl rfl (cwV 1 hts gX12_bracketsRead_X12_pointRead rfl rfl rfl (by decide +kernel) ⟨Nat.le_of_ble_eq_true rfl, Nat.le_of_ble_eq_true rfl⟩) rfl hl.1 rfl (Nat.le_of_ble_eq_true rfl) dX12_bracketsRead_55 ⟨Nat.le_of_ble_eq_true rfl, Nat.le_of_ble_eq_true rfl⟩ (fun r24724 q9 H locs hr24724 hP hD hS => ?_)
          obtain ⟨r24725, r24726, r24727, v⟩ := q9
          have hr24724 : TyV v ∧ Rg (-1) 11 r24724 ∧ Rg 0 120 r24725 ∧ (y35_kto.toInt ≤ r24725.toInt ∧ r24725.toInt ≤ l_tp.toInt ∧ (¬ r24724.toInt = -1 → y35_ktk.toInt = 1 ∧ (¬ r24726.toInt = 0 → y35_kto.toInt < r24725.toInt)) ∧ (r24724.toInt = -1 → r24725.toInt = y35_kto.toInt ∧ r24726.toInt = y35_ktk.toInt)) := hr24724
          have hV := hr24724.1
          have hP : va_P D cls (wM cI b (mkM l_m l_z l_tp l_hs r24725 r24726 r24727 l_so l_sz l_kp) v) H := hP
          have hD : va_D A (wM cI b (mkM l_m l_z l_tp l_hs r24725 r24726 r24727 l_so l_sz l_kp) v) := hD
          have kr24724_0 := hr24724.2.2.2
          refine lv_istore (lv' := [(7, .int r24724), (0, .ref (b 0)), (1, .int x0), (2, .int y35_l2), (3, .int y35_l3), (4, .int y35_l4), (5, .int y35_l5), (6, .int y35_l6)]) hx hb dX12_bracketsRead_58 hl (by decide) rfl (fun ls hl => ?_)
          refine lv_iload hx hb dX12_bracketsRead_60 (lv_at hl 0 rfl) ?_
          refine lv_iconst (v := (-1)) hx hb dX12_bracketsRead_62 (by decide) ?_
          refine lv_icmp_ne (tgt := 68) hx hb dX12_bracketsRead_63 (by decide) (fun c24728 => ?_) (fun c24728 => ?_)
          · have g24729 : Rg 0 11 r24724 := rg_ne_lo (k := (-1)) hr24724.2.1 (by decide) c24728 (by decide)
            refine lv_iconst (v := 0) hx hb dX12_bracketsRead_68 (by decide) ?_
            refine lv_istore (lv' := [(8, .int 0), (7, .int r24724), (0, .ref (b 0)), (1, .int x0), (2, .int y35_l2), (3, .int y35_l3), (4, .int y35_l4), (5, .int y35_l5), (6, .int y35_l6)]) hx hb dX12_bracketsRead_69 hl (by decide) rfl (fun ls hl => ?_)
            exact lp71 13 r24724 (0 : Int32) r24725 r24726 r24727 v _ _ ls g35_l1 g35_l2 g35_l3 g35_l4 g35_l5 g35_l6 g24729 (by decide : Rg 0 12 (0 : Int32)) hr24724.2.2.1 (show (l_to.toInt ≤ r24725.toInt ∧ r24725.toInt ≤ l_tp.toInt ∧ (¬ r24726.toInt = 0 → l_to.toInt < r24725.toInt ∨ ¬ l_tk.toInt = 0)) from by have y90 : y35_l3.toInt ≤ r24698.toInt := (lz_le _ _).mp (rg_nlt c24699); have y91 : ¬ y35_ktk.toInt = y35_l2.toInt := fun z => c24709 (Int32.toInt_inj.mp z); have y92 : ¬ r24724.toInt = ((-1) : Int32).toInt := fun z => c24728 (Int32.toInt_inj.mp z); have y93 : Rg 2 2147483647 r24698 := g24708; have y94 : Rg 0 11 r24724 := g24729; have y95 : Rg 0 1 x0 := g35_l1; have y96 : Rg 41 93 y35_l2 := g35_l2; have y97 : Rg 2 3 y35_l3 := g35_l3; have y98 : Rg 0 4095 y35_l4 := g35_l4; have y99 : Rg (-1) 11 y35_l5 := g35_l5; have y910 : Rg (-1) 11 y35_l6 := g35_l6; have y911 : Rg 0 11 r24724 := g24729; have y912 : Rg 0 12 l_m := p_m; have y913 : Rg 0 120 l_tp := p_tp; have y914 : Rg 0 120 r24725 := hr24724.2.2.1; have y9c15 : ((-1) : Int32).toInt = -1 := (by decide); have y9c16 : (0 : Int32).toInt = 0 := (by decide); have y9c17 : (1 : Int32).toInt = 1 := (by decide); omega) (show (y35_kto.toInt ≤ r24725.toInt ∧ y35_ktk.toInt = 1 ∧ (¬ r24726.toInt = 0 → y35_kto.toInt < r24725.toInt)) from by have y90 : y35_l3.toInt ≤ r24698.toInt := (lz_le _ _).mp (rg_nlt c24699); have y91 : ¬ y35_ktk.toInt = y35_l2.toInt := fun z => c24709 (Int32.toInt_inj.mp z); have y92 : ¬ r24724.toInt = ((-1) : Int32).toInt := fun z => c24728 (Int32.toInt_inj.mp z); have y93 : Rg 2 2147483647 r24698 := g24708; have y94 : Rg 0 11 r24724 := g24729; have y95 : Rg 0 1 x0 := g35_l1; have y96 : Rg 41 93 y35_l2 := g35_l2; have y97 : Rg 2 3 y35_l3 := g35_l3; have y98 : Rg 0 4095 y35_l4 := g35_l4; have y99 : Rg (-1) 11 y35_l5 := g35_l5; have y910 : Rg (-1) 11 y35_l6 := g35_l6; have y911 : Rg 0 11 r24724 := g24729; have y912 : Rg 0 12 l_m := p_m; have y913 : Rg 0 120 l_tp := p_tp; have y914 : Rg 0 120 r24725 := hr24724.2.2.1; have y9c15 : ((-1) : Int32).toInt = -1 := (by decide); have y9c16 : (0 : Int32).toInt = 0 := (by decide); have y9c17 : (1 : Int32).toInt = 1 := (by decide); omega) hV hP hD hS (lv_sub (l' := [(0, .ref (b 0)), (1, .int x0), (2, .int y35_l2), (3, .int y35_l3), (4, .int y35_l4), (5, .int y35_l5), (6, .int y35_l6), (7, .int r24724), (8, .int 0)]) hl [2, 3, 4, 5, 6, 7, 8, 1, 0] rfl) (me_i (by decide : Rg 0 12 (0 : Int32)) (by decide))
          · have g24730 : Rg (-1) (-1) r24724 := wk_eql hr24724.2.1 (by decide : Rg (-1) (-1) ((-1) : Int32)) c24728 (by decide)
            refine lv_iconst (v := 0) hx hb dX12_bracketsRead_66 (by decide) ?_
            subst hAe
            exact W.zret (v := 0) hx hb hr (by decide) (fun t ht hW => ⟨⟨_, (r24725, r24726, r24727, v), rfl, ⟨hV, (by decide : Rg 0 1 (0 : Int32)), hr24724.2.2.1, (show l_to.toInt ≤ r24725.toInt ∧ r24725.toInt ≤ l_tp.toInt ∧ (¬ r24726.toInt = 0 → l_to.toInt < r24725.toInt ∨ ¬ l_tk.toInt = 0) from by have y90 : y35_l3.toInt ≤ r24698.toInt := (lz_le _ _).mp (rg_nlt c24699); have y91 : ¬ y35_ktk.toInt = y35_l2.toInt := fun z => c24709 (Int32.toInt_inj.mp z); have y92 : r24724.toInt = ((-1) : Int32).toInt := congrArg Int32.toInt c24728; have y93 : Rg 2 2147483647 r24698 := g24708; have y94 : Rg (-1) (-1) r24724 := g24730; have y95 : Rg 0 1 x0 := g35_l1; have y96 : Rg 41 93 y35_l2 := g35_l2; have y97 : Rg 2 3 y35_l3 := g35_l3; have y98 : Rg 0 4095 y35_l4 := g35_l4; have y99 : Rg (-1) 11 y35_l5 := g35_l5; have y910 : Rg (-1) 11 y35_l6 := g35_l6; have y911 : Rg (-1) (-1) r24724 := g24730; have y912 : Rg 0 12 l_m := p_m; have y913 : Rg 0 120 l_tp := p_tp; have y914 : Rg 0 120 r24725 := hr24724.2.2.1; have y9c15 : ((-1) : Int32).toInt = -1 := (by decide); have y9c16 : (0 : Int32).toInt = 0 := (by decide); have y9c17 : (1 : Int32).toInt = 1 := (by decide); omega)⟩, by rw [ht]; exact hP, hD⟩, hS.F ht⟩) hS.2.2 dX12_bracketsRead_67
  have ct11 : ∀ (y11_s0 : Int32) (v : SU) (H : Heap) (locs : List Loc) (ls : Array Slot), Rg 0 1 x0 → Rg 41 93 y11_s0 → Rg 0 120 l_to → TyV v → va_P D cls (wM cI b (mkM l_m l_z l_tp l_hs l_to l_tk l_wo l_so l_sz l_kp) v) H → va_D A (wM cI b (mkM l_m l_z l_tp l_hs l_to l_tk l_wo l_so l_sz l_kp) v) → va_S A s.heap H locs → lv_has ls 9 [(0, .ref (b 0)), (1, .int x0)] → W p l e (headSpec wsX12_bracketsRead ({ frames := 4, cells := 0, slots := 0, locals := 160 })).room s m ([.ref (b 0), .int x0]).toArray below meth c H locs 0 0 (MQ below (QF (S := Int32 × Int32 × Int32 × SU) D (wM cI b (mkM l_m l_z l_tp l_hs l_to l_tk l_wo l_so l_sz l_kp) v0) (fun q => wM cI b (mkM l_m l_z l_tp l_hs q.1 q.2.1 q.2.2.1 l_so l_sz l_kp) q.2.2.2) s.heap.size (fun r q => TyV q.2.2.2 ∧ Rg 0 1 r ∧ Rg 0 120 q.1 ∧ (l_to.toInt ≤ q.1.toInt ∧ q.1.toInt ≤ l_tp.toInt ∧ (¬ q.2.1.toInt = 0 → l_to.toInt < q.1.toInt ∨ ¬ l_tk.toInt = 0)))) ([.ref (b 0), .int x0]).toArray s 0 0 (va_A (wM cI b (mkM l_m l_z l_tp l_hs l_to l_tk l_wo l_so l_sz l_kp) v0) s.heap.size)) (F0 m 11 ls [.int y11_s0]) := by
    intro y11_s0 v H locs ls g11_l1 g11_s0 g11_kto hV hP hD hS hl
    refine lv_istore_n (lv' := [(2, .int y11_s0), (0, .ref (b 0)), (1, .int x0)]) hx hb dX12_bracketsRead_11 rfl hl (by decide) rfl (fun ls hl => ?_)
    refine lv_iload_n hx hb dX12_bracketsRead_12 rfl (lv_at hl 2 rfl) ?_
    refine lv_if_eq (tgt := 20) hx hb dX12_bracketsRead_13 (by decide) (fun c24731 => ?_) (fun c24731 => ?_)
    · have g24732 : Rg 0 0 x0 := wk_eql g11_l1 (by decide : Rg 0 0 (0 : Int32)) c24731 (by decide)
      refine lv_iconst (v := 2) hx hb dX12_bracketsRead_20 (by decide) ?_
      refine lv_istore_n (lv' := [(3, .int 2), (2, .int y11_s0), (0, .ref (b 0)), (1, .int x0)]) hx hb dX12_bracketsRead_21 rfl hl (by decide) rfl (fun ls hl => ?_)
      refine lv_iconst (v := 0) hx hb dX12_bracketsRead_22 (by decide) ?_
      refine lv_istore (lv' := [(4, .int 0), (3, .int 2), (2, .int y11_s0), (0, .ref (b 0)), (1, .int x0)]) hx hb dX12_bracketsRead_23 hl (by decide) rfl (fun ls hl => ?_)
      refine lv_iconst (v := (-1)) hx hb dX12_bracketsRead_25 (by decide) ?_
      refine lv_istore (lv' := [(5, .int (-1)), (4, .int 0), (3, .int 2), (2, .int y11_s0), (0, .ref (b 0)), (1, .int x0)]) hx hb dX12_bracketsRead_26 hl (by decide) rfl (fun ls hl => ?_)
      refine lv_iconst (v := (-1)) hx hb dX12_bracketsRead_28 (by decide) ?_
      refine lv_istore (lv' := [(6, .int (-1)), (5, .int (-1)), (4, .int 0), (3, .int 2), (2, .int y11_s0), (0, .ref (b 0)), (1, .int x0)]) hx hb dX12_bracketsRead_29 hl (by decide) rfl (fun ls hl => ?_)
      refine lv_aload_n hx hb dX12_bracketsRead_31 rfl (lv_at hl 5 rfl) ?_
      refine wk_qv (S := Int32 × Int32 × Int32 × SU) (fun q => wM cI b (mkM l_m l_z l_tp l_hs q.1 q.2.1 q.2.2.1 l_so l_sz l_kp) q.2.2.2) (l_to, l_tk, l_wo, v) (As := []) (rest := []) ⟨hx, hb, hml, hown, hts⟩ (w_X12_goesOn l D cI cS _ b l_m l_z l_tp l_hs l_to l_tk l_wo l_so l_sz l_kp v (show TyL (mkM l_m l_z l_tp l_hs l_to l_tk l_wo l_so l_sz l_kp) from ⟨p_m, p_tp, p_so, p_sz, p_kp, g11_kto⟩) hV (by have y90 : x0.toInt = (0 : Int32).toInt := congrArg Int32.toInt c24731; have y91 : Rg 0 0 x0 := g24732; have y92 : Rg 0 0 x0 := g24732; have y93 : Rg 41 93 y11_s0 := g11_s0; have y94 : Rg 0 12 l_m := p_m; have y95 : Rg 0 120 l_tp := p_tp; have y96 : Rg 0 120 l_to := g11_kto; have y9c7 : ((-1) : Int32).toInt = -1 := (by decide); have y9c8 : (0 : Int32).toInt = 0 := (by decide); have y9c9 : (1 : Int32).toInt = 1 := (by decide); have y9c10 : (2 : Int32).toInt = 2 := (by decide); omega)) hKK hP hD hS hA 0 (ci := 12) rfl rfl (cwV 0 hts gX12_bracketsRead_X12_goesOn rfl rfl rfl (by decide +kernel) ⟨Nat.le_of_ble_eq_true rfl, Nat.le_of_ble_eq_true rfl⟩) rfl hl.1 rfl (Nat.le_of_ble_eq_true rfl) dX12_bracketsRead_32 ⟨Nat.le_of_ble_eq_true rfl, Nat.le_of_ble_eq_true rfl⟩ (fun q9 H locs hr24733 hP hD hS => ?_)
      obtain ⟨r24734, r24735, r24736, v⟩ := q9
      have hr24733 : TyV v ∧ Rg 0 120 r24734 ∧ (l_to.toInt ≤ r24734.toInt ∧ r24734.toInt ≤ l_tp.toInt ∧ (¬ r24735.toInt = 0 → l_to.toInt < r24734.toInt)) := hr24733
      have hV := hr24733.1
      have hP : va_P D cls (wM cI b (mkM l_m l_z l_tp l_hs r24734 r24735 r24736 l_so l_sz l_kp) v) H := hP
      have hD : va_D A (wM cI b (mkM l_m l_z l_tp l_hs r24734 r24735 r24736 l_so l_sz l_kp) v) := hD
      have kr24733_0 := hr24733.2.2
      exact lp35 242 y11_s0 (2 : Int32) (0 : Int32) (((-1) : Int32)) (((-1) : Int32)) r24734 r24735 r24736 v _ _ ls (show Rg 0 1 x0 from rg_w g24732 (by decide) (by decide)) g11_s0 (by decide : Rg 2 3 (2 : Int32)) (by decide : Rg 0 4095 (0 : Int32)) (by decide : Rg (-1) 11 ((-1) : Int32)) (by decide : Rg (-1) 11 ((-1) : Int32)) hr24733.2.1 (show (l_to.toInt ≤ r24734.toInt ∧ r24734.toInt ≤ l_tp.toInt ∧ (¬ r24735.toInt = 0 → l_to.toInt < r24734.toInt ∨ ¬ l_tk.toInt = 0)) from by have y90 : x0.toInt = (0 : Int32).toInt := congrArg Int32.toInt c24731; have y91 : Rg 0 0 x0 := g24732; have y92 : Rg 0 0 x0 := g24732; have y93 : Rg 41 93 y11_s0 := g11_s0; have y94 : Rg 0 12 l_m := p_m; have y95 : Rg 0 120 l_tp := p_tp; have y96 : Rg 0 120 r24734 := hr24733.2.1; have y9c7 : ((-1) : Int32).toInt = -1 := (by decide); have y9c8 : (0 : Int32).toInt = 0 := (by decide); have y9c9 : (1 : Int32).toInt = 1 := (by decide); have y9c10 : (2 : Int32).toInt = 2 := (by decide); omega) (by exact Or.inl rfl) hV hP hD hS (lv_sub (l' := [(0, .ref (b 0)), (1, .int x0), (2, .int y11_s0), (3, .int 2), (4, .int 0), (5, .int (-1)), (6, .int (-1))]) hl [5, 6, 4, 3, 2, 1, 0] rfl) (show (2 * (l_tp.toInt - r24734.toInt) + (if r24735.toInt = 0 then 0 else 1)) < _ from by have y90 : x0.toInt = (0 : Int32).toInt := congrArg Int32.toInt c24731; have y91 : Rg 0 0 x0 := g24732; have y92 : Rg 0 0 x0 := g24732; have y93 : Rg 41 93 y11_s0 := g11_s0; have y94 : Rg 0 12 l_m := p_m; have y95 : Rg 0 120 l_tp := p_tp; have y96 : Rg 0 120 r24734 := hr24733.2.1; have y9c7 : ((-1) : Int32).toInt = -1 := (by decide); have y9c8 : (0 : Int32).toInt = 0 := (by decide); have y9c9 : (1 : Int32).toInt = 1 := (by decide); have y9c10 : (2 : Int32).toInt = 2 := (by decide); split <;> omega)
    · have g24737 : Rg 1 1 x0 := rg_ne_lo (k := 0) g11_l1 (by decide) c24731 (by decide)
      refine lv_iconst (v := 3) hx hb dX12_bracketsRead_16 (by decide) ?_
      refine lv_goto (tgt := 21) hx hb dX12_bracketsRead_17 (by decide) ?_
      refine lv_istore_n (lv' := [(3, .int 3), (2, .int y11_s0), (0, .ref (b 0)), (1, .int x0)]) hx hb dX12_bracketsRead_21 rfl hl (by decide) rfl (fun ls hl => ?_)
      refine lv_iconst (v := 0) hx hb dX12_bracketsRead_22 (by decide) ?_
      refine lv_istore (lv' := [(4, .int 0), (3, .int 3), (2, .int y11_s0), (0, .ref (b 0)), (1, .int x0)]) hx hb dX12_bracketsRead_23 hl (by decide) rfl (fun ls hl => ?_)
      refine lv_iconst (v := (-1)) hx hb dX12_bracketsRead_25 (by decide) ?_
      refine lv_istore (lv' := [(5, .int (-1)), (4, .int 0), (3, .int 3), (2, .int y11_s0), (0, .ref (b 0)), (1, .int x0)]) hx hb dX12_bracketsRead_26 hl (by decide) rfl (fun ls hl => ?_)
      refine lv_iconst (v := (-1)) hx hb dX12_bracketsRead_28 (by decide) ?_
      refine lv_istore (lv' := [(6, .int (-1)), (5, .int (-1)), (4, .int 0), (3, .int 3), (2, .int y11_s0), (0, .ref (b 0)), (1, .int x0)]) hx hb dX12_bracketsRead_29 hl (by decide) rfl (fun ls hl => ?_)
      refine lv_aload_n hx hb dX12_bracketsRead_31 rfl (lv_at hl 5 rfl) ?_
      refine wk_qv (S := Int32 × Int32 × Int32 × SU) (fun q => wM cI b (mkM l_m l_z l_tp l_hs q.1 q.2.1 q.2.2.1 l_so l_sz l_kp) q.2.2.2) (l_to, l_tk, l_wo, v) (As := []) (rest := []) ⟨hx, hb, hml, hown, hts⟩ (w_X12_goesOn l D cI cS _ b l_m l_z l_tp l_hs l_to l_tk l_wo l_so l_sz l_kp v (show TyL (mkM l_m l_z l_tp l_hs l_to l_tk l_wo l_so l_sz l_kp) from ⟨p_m, p_tp, p_so, p_sz, p_kp, g11_kto⟩) hV (by have y90 : ¬ x0.toInt = (0 : Int32).toInt := fun z => c24731 (Int32.toInt_inj.mp z); have y91 : Rg 1 1 x0 := g24737; have y92 : Rg 1 1 x0 := g24737; have y93 : Rg 41 93 y11_s0 := g11_s0; have y94 : Rg 0 12 l_m := p_m; have y95 : Rg 0 120 l_tp := p_tp; have y96 : Rg 0 120 l_to := g11_kto; have y9c7 : ((-1) : Int32).toInt = -1 := (by decide); have y9c8 : (0 : Int32).toInt = 0 := (by decide); have y9c9 : (1 : Int32).toInt = 1 := (by decide); have y9c10 : (3 : Int32).toInt = 3 := (by decide); omega)) hKK hP hD hS hA 0 (ci := 12) rfl rfl (cwV 0 hts gX12_bracketsRead_X12_goesOn rfl rfl rfl (by decide +kernel) ⟨Nat.le_of_ble_eq_true rfl, Nat.le_of_ble_eq_true rfl⟩) rfl hl.1 rfl (Nat.le_of_ble_eq_true rfl) dX12_bracketsRead_32 ⟨Nat.le_of_ble_eq_true rfl, Nat.le_of_ble_eq_true rfl⟩ (fun q9 H locs hr24738 hP hD hS => ?_)
      obtain ⟨r24739, r24740, r24741, v⟩ := q9
      have hr24738 : TyV v ∧ Rg 0 120 r24739 ∧ (l_to.toInt ≤ r24739.toInt ∧ r24739.toInt ≤ l_tp.toInt ∧ (¬ r24740.toInt = 0 → l_to.toInt < r24739.toInt)) := hr24738
      have hV := hr24738.1
      have hP : va_P D cls (wM cI b (mkM l_m l_z l_tp l_hs r24739 r24740 r24741 l_so l_sz l_kp) v) H := hP
      have hD : va_D A (wM cI b (mkM l_m l_z l_tp l_hs r24739 r24740 r24741 l_so l_sz l_kp) v) := hD
      have kr24738_0 := hr24738.2.2
      exact lp35 242 y11_s0 (3 : Int32) (0 : Int32) (((-1) : Int32)) (((-1) : Int32)) r24739 r24740 r24741 v _ _ ls (show Rg 0 1 x0 from rg_w g24737 (by decide) (by decide)) g11_s0 (by decide : Rg 2 3 (3 : Int32)) (by decide : Rg 0 4095 (0 : Int32)) (by decide : Rg (-1) 11 ((-1) : Int32)) (by decide : Rg (-1) 11 ((-1) : Int32)) hr24738.2.1 (show (l_to.toInt ≤ r24739.toInt ∧ r24739.toInt ≤ l_tp.toInt ∧ (¬ r24740.toInt = 0 → l_to.toInt < r24739.toInt ∨ ¬ l_tk.toInt = 0)) from by have y90 : ¬ x0.toInt = (0 : Int32).toInt := fun z => c24731 (Int32.toInt_inj.mp z); have y91 : Rg 1 1 x0 := g24737; have y92 : Rg 1 1 x0 := g24737; have y93 : Rg 41 93 y11_s0 := g11_s0; have y94 : Rg 0 12 l_m := p_m; have y95 : Rg 0 120 l_tp := p_tp; have y96 : Rg 0 120 r24739 := hr24738.2.1; have y9c7 : ((-1) : Int32).toInt = -1 := (by decide); have y9c8 : (0 : Int32).toInt = 0 := (by decide); have y9c9 : (1 : Int32).toInt = 1 := (by decide); have y9c10 : (3 : Int32).toInt = 3 := (by decide); omega) (by exact Or.inl rfl) hV hP hD hS (lv_sub (l' := [(0, .ref (b 0)), (1, .int x0), (2, .int y11_s0), (3, .int 3), (4, .int 0), (5, .int (-1)), (6, .int (-1))]) hl [5, 6, 4, 3, 2, 1, 0] rfl) (show (2 * (l_tp.toInt - r24739.toInt) + (if r24740.toInt = 0 then 0 else 1)) < _ from by have y90 : ¬ x0.toInt = (0 : Int32).toInt := fun z => c24731 (Int32.toInt_inj.mp z); have y91 : Rg 1 1 x0 := g24737; have y92 : Rg 1 1 x0 := g24737; have y93 : Rg 41 93 y11_s0 := g11_s0; have y94 : Rg 0 12 l_m := p_m; have y95 : Rg 0 120 l_tp := p_tp; have y96 : Rg 0 120 r24739 := hr24738.2.1; have y9c7 : ((-1) : Int32).toInt = -1 := (by decide); have y9c8 : (0 : Int32).toInt = 0 := (by decide); have y9c9 : (1 : Int32).toInt = 1 := (by decide); have y9c10 : (3 : Int32).toInt = 3 := (by decide); split <;> omega)
  refine lv_iload_n hx hb dX12_bracketsRead_0 rfl (lv_at hl 1 rfl) ?_
  refine lv_if_eq (tgt := 9) hx hb dX12_bracketsRead_1 (by decide) (fun c24742 => ?_) (fun c24742 => ?_)
  · have g24743 : Rg 0 0 x0 := wk_eql px0 (by decide : Rg 0 0 (0 : Int32)) c24742 (by decide)
    refine lv_bipush (v := 93) hx hb dX12_bracketsRead_9 (by decide) ?_
    exact ct11 (93 : Int32) v _ _ ls (show Rg 0 1 x0 from rg_w g24743 (by decide) (by decide)) (by decide : Rg 41 93 (93 : Int32)) p_to hV hP hD hS (lv_sub (l' := [(0, .ref (b 0)), (1, .int x0)]) hl [0, 1] rfl)
  · have g24744 : Rg 1 1 x0 := rg_ne_lo (k := 0) px0 (by decide) c24742 (by decide)
    refine lv_bipush (v := 41) hx hb dX12_bracketsRead_4 (by decide) ?_
    refine lv_goto (tgt := 11) hx hb dX12_bracketsRead_6 (by decide) ?_
    exact ct11 (41 : Int32) v _ _ ls (show Rg 0 1 x0 from rg_w g24744 (by decide) (by decide)) (by decide : Rg 41 93 (41 : Int32)) p_to hV hP hD hS (lv_sub (l' := [(0, .ref (b 0)), (1, .int x0)]) hl [0, 1] rfl)
set_option maxRecDepth 20000 in
theorem ggX12_isText_X12_bracketsRead : GoodIn wsX12_isText wsX12_bracketsRead := goodIn_r _ [22, 2, 23, 3, 4, 5, 6, 7, 1, 8, 9, 10, 11, 12, 13, 14, 15, 16, 17, 18, 24, 25, 26, 27, 28, 29, 30, 31, 32, 33, 34, 35, 36, 37, 38, 39, 40, 41, 42, 43, 44, 45, 46, 47, 52, 53, 54, 55, 56, 57, 58, 59, 60, 61, 62, 63, 64, 65, 66, 67, 68, 69, 70, 71, 72, 73, 74, 75] rfl (by decide +kernel)
set_option maxRecDepth 20000 in
theorem gX12_isText_X12_bracketsRead : GoodIn wsX12_isText (wsV RX12 197 RX12 yX12_bracketsRead wsX12_bracketsRead) := goodIn_app (goodIn_of _ (by decide +kernel)) ggX12_isText_X12_bracketsRead
theorem dX12_isText_18 : decode cX12_isText 18 = .ok (.aload_n 0, 1) := by decide +kernel
theorem dX12_isText_19 : decode cX12_isText 19 = .ok (.iconst 1, 1) := by decide +kernel
theorem dX12_isText_20 : decode cX12_isText 20 = .ok (.invokevirtual 197, 3) := by decide +kernel
theorem dX12_isText_23 : decode cX12_isText 23 = .ok (.ifCond .eq 33, 3) := by decide +kernel
theorem dX12_isText_26 : decode cX12_isText 26 = .ok (.goto 32, 3) := by decide +kernel
theorem dX12_isText_38 : decode cX12_isText 38 = .ok (.aload_n 0, 1) := by decide +kernel
theorem dX12_isText_39 : decode cX12_isText 39 = .ok (.iconst 0, 1) := by decide +kernel
theorem dX12_isText_40 : decode cX12_isText 40 = .ok (.invokevirtual 197, 3) := by decide +kernel
theorem dX12_isText_43 : decode cX12_isText 43 = .ok (.ifCond .eq 13, 3) := by decide +kernel
theorem dX12_isText_46 : decode cX12_isText 46 = .ok (.goto 12, 3) := by decide +kernel
theorem dX12_isText_58 : decode cX12_isText 58 = .ok (.aload_n 0, 1) := by decide +kernel
theorem dX12_isText_59 : decode cX12_isText 59 = .ok (.getfield 181, 3) := by decide +kernel
theorem dX12_isText_62 : decode cX12_isText 62 = .ok (.ifCond .ne 5, 3) := by decide +kernel
theorem dX12_isText_65 : decode cX12_isText 65 = .ok (.iconst 1, 1) := by decide +kernel
theorem dX12_isText_66 : decode cX12_isText 66 = .ok (.ireturn, 1) := by decide +kernel
theorem dX12_isText_67 : decode cX12_isText 67 = .ok (.aload_n 0, 1) := by decide +kernel
theorem dX12_isText_68 : decode cX12_isText 68 = .ok (.getfield 181, 3) := by decide +kernel
theorem dX12_isText_71 : decode cX12_isText 71 = .ok (.bipush 44, 2) := by decide +kernel
theorem dX12_isText_73 : decode cX12_isText 73 = .ok (.if_icmp .eq 5, 3) := by decide +kernel
theorem dX12_isText_76 : decode cX12_isText 76 = .ok (.iconst 0, 1) := by decide +kernel
theorem dX12_isText_77 : decode cX12_isText 77 = .ok (.ireturn, 1) := by decide +kernel
theorem dX12_isText_78 : decode cX12_isText 78 = .ok (.aload_n 0, 1) := by decide +kernel
theorem dX12_isText_79 : decode cX12_isText 79 = .ok (.invokevirtual 187, 3) := by decide +kernel
theorem dX12_isText_82 : decode cX12_isText 82 = .ok (.goto (-73), 3) := by decide +kernel
set_option maxHeartbeats 4000000 in
set_option maxRecDepth 100000 in
theorem w_X12_isText (l : Launch) (D : va_G) (cI cS : ClassId) (sz : Nat) (b : Nat → Nat) (l_m l_z l_tp l_hs l_to l_tk l_wo : Int32) (l_so l_sz l_kp : Nat → Int32) (v0 : SU) (hL : TyL (mkM l_m l_z l_tp l_hs l_to l_tk l_wo l_so l_sz l_kp)) (hV : TyV v0) : Met l yX12_isText wsX12_isText ({ frames := 5, cells := 0, slots := 0, locals := 200 }) (PQ D cI cS (wM cI b (mkM l_m l_z l_tp l_hs l_to l_tk l_wo l_so l_sz l_kp) v0) sz [.ref (b 0)]) (QF (S := Int32 × Int32 × Int32 × SU) D (wM cI b (mkM l_m l_z l_tp l_hs l_to l_tk l_wo l_so l_sz l_kp) v0) (fun q => wM cI b (mkM l_m l_z l_tp l_hs q.1 q.2.1 q.2.2.1 l_so l_sz l_kp) q.2.2.2) sz (fun r q => TyV q.2.2.2 ∧ Rg 0 1 r ∧ Rg 0 120 q.1 ∧ (True))) 0 0 (va_A (wM cI b (mkM l_m l_z l_tp l_hs l_to l_tk l_wo l_so l_sz l_kp) v0) sz) := by
  refine Met.ofW (cc := cX12_isText) (maxL := 1) (ret := (some .boolean)) (by decide) rfl ?_
  intro p e s m args below meth c s₁ B hml hv
  obtain ⟨rfl, hsz, hP, hKK, hD0⟩ := hv
  have hx := B.exec
  have hb := B.bytes
  have hr := B.returns
  have hts := atoms_spec (ws := wsX12_isText) B.pre
  have hown : s.vm.findClass RX12 = some m.cls := findClass_of_methodNamed B.named
  have hlocks := B.notSynchronized
  have hK := hKK.1
  have hin12 : ∀ w ∈ wsX120, w ∈ wsX12_isText := by decide +kernel
  subst hsz
  have hD := hD0.self (sz := s.heap.size)
  obtain ⟨A, hAe⟩ : ∃ A, A = va_A (wM cI b (mkM l_m l_z l_tp l_hs l_to l_tk l_wo l_so l_sz l_kp) v0) s.heap.size := ⟨_, rfl⟩
  rw [← hAe] at hD
  have hA : ∀ q : Nat, s.heap.size ≤ q → A q := fun q h => by rw [hAe]; exact Or.inr h
  have hS : va_S A s.heap s.heap [] := va_S.rf
  have hl := lv_entry ([.ref (b 0)]) (n := 1) (Nat.le_of_ble_eq_true rfl)
  rw [lg_entry_eq]
  generalize (lg_sl ([.ref (b 0)]) ++ List.replicate (1 - (lg_sl ([.ref (b 0)])).length) Slot.unset).toArray = ls at hl ⊢
  have hl : lv_has ls 1 [(0, .ref (b 0))] := hl
  obtain ⟨v, hv9⟩ : ∃ v : SU, v = v0 := ⟨_, rfl⟩
  rw [← hv9] at hP hD hV
  have p_m : Rg 0 12 l_m := hL.1
  have p_tp : Rg 0 120 l_tp := hL.2.1
  have p_so : Ar (-1) 1 l_so := hL.2.2.1
  have p_sz : Ar 0 40 l_sz := hL.2.2.2.1
  have p_kp : Kp l_kp := hL.2.2.2.2.1
  have p_to : Rg 0 120 l_to := hL.2.2.2.2.2
  have lp9 : ∀ (n9 : Nat) (y9_kto : Int32) (y9_ktk : Int32) (y9_kwo : Int32) (v : SU) (H : Heap) (locs : List Loc) (ls : Array Slot), Rg 0 120 y9_kto → (0 ≤ y9_kto.toInt ∧ y9_kto.toInt ≤ l_tp.toInt) → TyV v → va_P D cls (wM cI b (mkM l_m l_z l_tp l_hs y9_kto y9_ktk y9_kwo l_so l_sz l_kp) v) H → va_D A (wM cI b (mkM l_m l_z l_tp l_hs y9_kto y9_ktk y9_kwo l_so l_sz l_kp) v) → va_S A s.heap H locs → lv_has ls 1 [(0, .ref (b 0))] → (2 * (l_tp.toInt - y9_kto.toInt) + (if y9_ktk.toInt = 0 then 0 else 1)) < (n9 : Int) → W p l e (headSpec wsX12_isText ({ frames := 5, cells := 0, slots := 0, locals := 200 })).room s m ([.ref (b 0)]).toArray below meth c H locs 0 0 (MQ below (QF (S := Int32 × Int32 × Int32 × SU) D (wM cI b (mkM l_m l_z l_tp l_hs l_to l_tk l_wo l_so l_sz l_kp) v0) (fun q => wM cI b (mkM l_m l_z l_tp l_hs q.1 q.2.1 q.2.2.1 l_so l_sz l_kp) q.2.2.2) s.heap.size (fun r q => TyV q.2.2.2 ∧ Rg 0 1 r ∧ Rg 0 120 q.1 ∧ (True))) ([.ref (b 0)]).toArray s 0 0 (va_A (wM cI b (mkM l_m l_z l_tp l_hs l_to l_tk l_wo l_so l_sz l_kp) v0) s.heap.size)) (F0 m 9 ls []) := by
    intro n9
    induction n9 with
    | zero =>
      intro y9_kto y9_ktk y9_kwo v H locs ls g9_kto x9_0 hV hP hD hS hl hm9
      exact False.elim (by have z8 := hm9; have z7 := x9_0; revert z8; split <;> omega)
    | succ n9 ih9 =>
      intro y9_kto y9_ktk y9_kwo v H locs ls g9_kto x9_0 hV hP hD hS hl hm9
      refine lv_aload_n hx hb dX12_isText_9 rfl (lv_at hl 0 rfl) ?_
      refine va_get (D := D) (ci := 12) (v := .int y9_ktk) (C := RX12) (T := TX12) (N := 24) hx hb hts hin12 hown hK hP 0 rfl rfl 13 (by decide) (hts (.fieldLink RX12 181 "MissedPointsModel" "token" "I") (by decide +kernel)) (fun _ h9 => h9) rfl dX12_isText_10 ?_
      refine lv_bipush (v := 40) hx hb dX12_isText_13 (by decide) ?_
      refine lv_icmp_ne (tgt := 29) hx hb dX12_isText_15 (by decide) (fun c24851 => ?_) (fun c24851 => ?_)
      · refine lv_aload_n hx hb dX12_isText_29 rfl (lv_at hl 0 rfl) ?_
        refine va_get (D := D) (ci := 12) (v := .int y9_ktk) (C := RX12) (T := TX12) (N := 24) hx hb hts hin12 hown hK hP 0 rfl rfl 13 (by decide) (hts (.fieldLink RX12 181 "MissedPointsModel" "token" "I") (by decide +kernel)) (fun _ h9 => h9) rfl dX12_isText_30 ?_
        refine lv_bipush (v := 91) hx hb dX12_isText_33 (by decide) ?_
        refine lv_icmp_ne (tgt := 49) hx hb dX12_isText_35 (by decide) (fun c24852 => ?_) (fun c24852 => ?_)
        · refine lv_aload_n hx hb dX12_isText_49 rfl (lv_at hl 0 rfl) ?_
          refine wk_qi (S := Int32 × Int32 × Int32 × SU) (fun q => wM cI b (mkM l_m l_z l_tp l_hs q.1 q.2.1 q.2.2.1 l_so l_sz l_kp) q.2.2.2) (y9_kto, y9_ktk, y9_kwo, v) (As := []) (rest := []) ⟨hx, hb, hml, hown, hts⟩ (w_X12_rowRead l D cI cS _ b l_m l_z l_tp l_hs y9_kto y9_ktk y9_kwo l_so l_sz l_kp v (show TyL (mkM l_m l_z l_tp l_hs y9_kto y9_ktk y9_kwo l_so l_sz l_kp) from ⟨p_m, p_tp, p_so, p_sz, p_kp, g9_kto⟩) hV (by have y90 : ¬ y9_ktk.toInt = (40 : Int32).toInt := fun z => c24851 (Int32.toInt_inj.mp z); have y91 : ¬ y9_ktk.toInt = (91 : Int32).toInt := fun z => c24852 (Int32.toInt_inj.mp z); have y92 : Rg 0 12 l_m := p_m; have y93 : Rg 0 120 l_tp := p_tp; have y94 : Rg 0 120 y9_kto := g9_kto; have y9c5 : (0 : Int32).toInt = 0 := (by decide); have y9c6 : (1 : Int32).toInt = 1 := (by decide); have y9c7 : (40 : Int32).toInt = 40 := (by decide); have y9c8 : (91 : Int32).toInt = 91 := (by decide); omega)) hKK hP hD hS hA 0 (ci := 12) rfl rfl (cwV 0 hts gX12_isText_X12_rowRead rfl rfl rfl (by decide +kernel) ⟨Nat.le_of_ble_eq_true rfl, Nat.le_of_ble_eq_true rfl⟩) rfl hl.1 rfl (Nat.le_of_ble_eq_true rfl) dX12_isText_50 ⟨Nat.le_of_ble_eq_true rfl, Nat.le_of_ble_eq_true rfl⟩ (fun r24853 q9 H locs hr24853 hP hD hS => ?_)
          obtain ⟨r24854, r24855, r24856, v⟩ := q9
          have hr24853 : TyV v ∧ Rg 0 1 r24853 ∧ Rg 0 120 r24854 ∧ (y9_kto.toInt ≤ r24854.toInt ∧ r24854.toInt ≤ l_tp.toInt ∧ (¬ r24855.toInt = 0 → y9_kto.toInt < r24854.toInt ∨ ¬ y9_ktk.toInt = 0)) := hr24853
          have hV := hr24853.1
          have hP : va_P D cls (wM cI b (mkM l_m l_z l_tp l_hs r24854 r24855 r24856 l_so l_sz l_kp) v) H := hP
          have hD : va_D A (wM cI b (mkM l_m l_z l_tp l_hs r24854 r24855 r24856 l_so l_sz l_kp) v) := hD
          have kr24853_0 := hr24853.2.2.2
          refine lv_if_ne (tgt := 58) hx hb dX12_isText_53 (by decide) (fun c24857 => ?_) (fun c24857 => ?_)
          · have g24858 : Rg 1 1 r24853 := rg_ne_lo (k := 0) hr24853.2.1 (by decide) c24857 (by decide)
            refine lv_aload_n hx hb dX12_isText_58 rfl (lv_at hl 0 rfl) ?_
            refine va_get (D := D) (ci := 12) (v := .int r24855) (C := RX12) (T := TX12) (N := 24) hx hb hts hin12 hown hK hP 0 rfl rfl 13 (by decide) (hts (.fieldLink RX12 181 "MissedPointsModel" "token" "I") (by decide +kernel)) (fun _ h9 => h9) rfl dX12_isText_59 ?_
            refine lv_if_ne (tgt := 67) hx hb dX12_isText_62 (by decide) (fun c24859 => ?_) (fun c24859 => ?_)
            · refine lv_aload_n hx hb dX12_isText_67 rfl (lv_at hl 0 rfl) ?_
              refine va_get (D := D) (ci := 12) (v := .int r24855) (C := RX12) (T := TX12) (N := 24) hx hb hts hin12 hown hK hP 0 rfl rfl 13 (by decide) (hts (.fieldLink RX12 181 "MissedPointsModel" "token" "I") (by decide +kernel)) (fun _ h9 => h9) rfl dX12_isText_68 ?_
              refine lv_bipush (v := 44) hx hb dX12_isText_71 (by decide) ?_
              refine lv_icmp_eq (tgt := 78) hx hb dX12_isText_73 (by decide) (fun c24860 => ?_) (fun c24860 => ?_)
              · have g24861 : Rg 44 44 r24855 := wk_eql (rg_any r24855) (by decide : Rg 44 44 (44 : Int32)) c24860 (by decide)
                refine lv_aload_n hx hb dX12_isText_78 rfl (lv_at hl 0 rfl) ?_
                refine wk_qv (S := Int32 × Int32 × Int32 × SU) (fun q => wM cI b (mkM l_m l_z l_tp l_hs q.1 q.2.1 q.2.2.1 l_so l_sz l_kp) q.2.2.2) (r24854, r24855, r24856, v) (As := []) (rest := []) ⟨hx, hb, hml, hown, hts⟩ (w_X12_goesOn l D cI cS _ b l_m l_z l_tp l_hs r24854 r24855 r24856 l_so l_sz l_kp v (show TyL (mkM l_m l_z l_tp l_hs r24854 r24855 r24856 l_so l_sz l_kp) from ⟨p_m, p_tp, p_so, p_sz, p_kp, hr24853.2.2.1⟩) hV (by have y90 : ¬ y9_ktk.toInt = (40 : Int32).toInt := fun z => c24851 (Int32.toInt_inj.mp z); have y91 : ¬ y9_ktk.toInt = (91 : Int32).toInt := fun z => c24852 (Int32.toInt_inj.mp z); have y92 : ¬ r24853.toInt = (0 : Int32).toInt := fun z => c24857 (Int32.toInt_inj.mp z); have y93 : ¬ r24855.toInt = (0 : Int32).toInt := fun z => c24859 (Int32.toInt_inj.mp z); have y94 : r24855.toInt = (44 : Int32).toInt := congrArg Int32.toInt c24860; have y95 : Rg 1 1 r24853 := g24858; have y96 : Rg 44 44 r24855 := g24861; have y97 : Rg 0 12 l_m := p_m; have y98 : Rg 0 120 l_tp := p_tp; have y99 : Rg 0 120 r24854 := hr24853.2.2.1; have y910 : Rg 44 44 r24855 := g24861; have y9c11 : (0 : Int32).toInt = 0 := (by decide); have y9c12 : (1 : Int32).toInt = 1 := (by decide); have y9c13 : (40 : Int32).toInt = 40 := (by decide); have y9c14 : (44 : Int32).toInt = 44 := (by decide); have y9c15 : (91 : Int32).toInt = 91 := (by decide); omega)) hKK hP hD hS hA 0 (ci := 12) rfl rfl (cwV 0 hts gX12_isText_X12_goesOn rfl rfl rfl (by decide +kernel) ⟨Nat.le_of_ble_eq_true rfl, Nat.le_of_ble_eq_true rfl⟩) rfl hl.1 rfl (Nat.le_of_ble_eq_true rfl) dX12_isText_79 ⟨Nat.le_of_ble_eq_true rfl, Nat.le_of_ble_eq_true rfl⟩ (fun q9 H locs hr24862 hP hD hS => ?_)
                obtain ⟨r24863, r24864, r24865, v⟩ := q9
                have hr24862 : TyV v ∧ Rg 0 120 r24863 ∧ (r24854.toInt ≤ r24863.toInt ∧ r24863.toInt ≤ l_tp.toInt ∧ (¬ r24864.toInt = 0 → r24854.toInt < r24863.toInt)) := hr24862
                have hV := hr24862.1
                have hP : va_P D cls (wM cI b (mkM l_m l_z l_tp l_hs r24863 r24864 r24865 l_so l_sz l_kp) v) H := hP
                have hD : va_D A (wM cI b (mkM l_m l_z l_tp l_hs r24863 r24864 r24865 l_so l_sz l_kp) v) := hD
                have kr24862_0 := hr24862.2.2
                refine lv_goto (tgt := 9) hx hb dX12_isText_82 (by decide) ?_
                exact ih9 r24863 r24864 r24865 v _ _ ls hr24862.2.1 (show (0 ≤ r24863.toInt ∧ r24863.toInt ≤ l_tp.toInt) from by have y90 : ¬ y9_ktk.toInt = (40 : Int32).toInt := fun z => c24851 (Int32.toInt_inj.mp z); have y91 : ¬ y9_ktk.toInt = (91 : Int32).toInt := fun z => c24852 (Int32.toInt_inj.mp z); have y92 : ¬ r24853.toInt = (0 : Int32).toInt := fun z => c24857 (Int32.toInt_inj.mp z); have y93 : ¬ r24855.toInt = (0 : Int32).toInt := fun z => c24859 (Int32.toInt_inj.mp z); have y94 : r24855.toInt = (44 : Int32).toInt := congrArg Int32.toInt c24860; have y95 : Rg 1 1 r24853 := g24858; have y96 : Rg 44 44 r24855 := g24861; have y97 : Rg 0 12 l_m := p_m; have y98 : Rg 0 120 l_tp := p_tp; have y99 : Rg 0 120 r24863 := hr24862.2.1; have y9c10 : (0 : Int32).toInt = 0 := (by decide); have y9c11 : (1 : Int32).toInt = 1 := (by decide); have y9c12 : (40 : Int32).toInt = 40 := (by decide); have y9c13 : (44 : Int32).toInt = 44 := (by decide); have y9c14 : (91 : Int32).toInt = 91 := (by decide); omega) hV hP hD hS (lv_sub (l' := [(0, .ref (b 0))]) hl [0] rfl) (show (2 * (l_tp.toInt - r24863.toInt) + (if r24864.toInt = 0 then 0 else 1)) < _ from by have z8 := hm9; have y90 : ¬ y9_ktk.toInt = (40 : Int32).toInt := fun z => c24851 (Int32.toInt_inj.mp z); have y91 : ¬ y9_ktk.toInt = (91 : Int32).toInt := fun z => c24852 (Int32.toInt_inj.mp z); have y92 : ¬ r24853.toInt = (0 : Int32).toInt := fun z => c24857 (Int32.toInt_inj.mp z); have y93 : ¬ r24855.toInt = (0 : Int32).toInt := fun z => c24859 (Int32.toInt_inj.mp z); have y94 : r24855.toInt = (44 : Int32).toInt := congrArg Int32.toInt c24860; have y95 : Rg 1 1 r24853 := g24858; have y96 : Rg 44 44 r24855 := g24861; have y97 : Rg 0 12 l_m := p_m; have y98 : Rg 0 120 l_tp := p_tp; have y99 : Rg 0 120 r24863 := hr24862.2.1; have y9c10 : (0 : Int32).toInt = 0 := (by decide); have y9c11 : (1 : Int32).toInt = 1 := (by decide); have y9c12 : (40 : Int32).toInt = 40 := (by decide); have y9c13 : (44 : Int32).toInt = 44 := (by decide); have y9c14 : (91 : Int32).toInt = 91 := (by decide); revert z8; split <;> split <;> omega)
              · refine lv_iconst (v := 0) hx hb dX12_isText_76 (by decide) ?_
                subst hAe
                exact W.zret (v := 0) hx hb hr (by decide) (fun t ht hW => ⟨⟨_, (r24854, r24855, r24856, v), rfl, ⟨hV, (by decide : Rg 0 1 (0 : Int32)), hr24853.2.2.1, trivial⟩, by rw [ht]; exact hP, hD⟩, hS.F ht⟩) hS.2.2 dX12_isText_77
            · have g24866 : Rg 0 0 r24855 := wk_eql (rg_any r24855) (by decide : Rg 0 0 (0 : Int32)) c24859 (by decide)
              refine lv_iconst (v := 1) hx hb dX12_isText_65 (by decide) ?_
              subst hAe
              exact W.zret (v := 1) hx hb hr (by decide) (fun t ht hW => ⟨⟨_, (r24854, r24855, r24856, v), rfl, ⟨hV, (by decide : Rg 0 1 (1 : Int32)), hr24853.2.2.1, trivial⟩, by rw [ht]; exact hP, hD⟩, hS.F ht⟩) hS.2.2 dX12_isText_66
          · have g24867 : Rg 0 0 r24853 := wk_eql hr24853.2.1 (by decide : Rg 0 0 (0 : Int32)) c24857 (by decide)
            refine lv_iconst (v := 0) hx hb dX12_isText_56 (by decide) ?_
            subst hAe
            exact W.zret (v := 0) hx hb hr (by decide) (fun t ht hW => ⟨⟨_, (r24854, r24855, r24856, v), rfl, ⟨hV, (by decide : Rg 0 1 (0 : Int32)), hr24853.2.2.1, trivial⟩, by rw [ht]; exact hP, hD⟩, hS.F ht⟩) hS.2.2 dX12_isText_57
        · have g24868 : Rg 91 91 y9_ktk := wk_eql (rg_any y9_ktk) (by decide : Rg 91 91 (91 : Int32)) c24852 (by decide)
          refine lv_aload_n hx hb dX12_isText_38 rfl (lv_at hl 0 rfl) ?_
          refine lv_iconst (v := 0) hx hb dX12_isText_39 (by decide) ?_
          refine wk_qi (S := Int32 × Int32 × Int32 × SU) (fun q => wM cI b (mkM l_m l_z l_tp l_hs q.1 q.2.1 q.2.2.1 l_so l_sz l_kp) q.2.2.2) (y9_kto, y9_ktk, y9_kwo, v) (As := [.int 0]) (rest := []) ⟨hx, hb, hml, hown, hts⟩ (w_X12_bracketsRead l D cI cS _ b l_m l_z l_tp l_hs y9_kto y9_ktk y9_kwo l_so l_sz l_kp v (show TyL (mkM l_m l_z l_tp l_hs y9_kto y9_ktk y9_kwo l_so l_sz l_kp) from ⟨p_m, p_tp, p_so, p_sz, p_kp, g9_kto⟩) hV (0 : Int32) (by decide : Rg 0 1 (0 : Int32)) (by have y90 : ¬ y9_ktk.toInt = (40 : Int32).toInt := fun z => c24851 (Int32.toInt_inj.mp z); have y91 : y9_ktk.toInt = (91 : Int32).toInt := congrArg Int32.toInt c24852; have y92 : Rg 91 91 y9_ktk := g24868; have y93 : Rg 0 12 l_m := p_m; have y94 : Rg 0 120 l_tp := p_tp; have y95 : Rg 0 120 y9_kto := g9_kto; have y96 : Rg 91 91 y9_ktk := g24868; have y9c7 : (0 : Int32).toInt = 0 := (by decide); have y9c8 : (1 : Int32).toInt = 1 := (by decide); have y9c9 : (40 : Int32).toInt = 40 := (by decide); have y9c10 : (91 : Int32).toInt = 91 := (by decide); omega)) hKK hP hD hS hA 0 (ci := 12) rfl rfl (cwV 1 hts gX12_isText_X12_bracketsRead rfl rfl rfl (by decide +kernel) ⟨Nat.le_of_ble_eq_true rfl, Nat.le_of_ble_eq_true rfl⟩) rfl hl.1 rfl (Nat.le_of_ble_eq_true rfl) dX12_isText_40 ⟨Nat.le_of_ble_eq_true rfl, Nat.le_of_ble_eq_true rfl⟩ (fun r24869 q9 H locs hr24869 hP hD hS => ?_)
          obtain ⟨r24870, r24871, r24872, v⟩ := q9
          have hr24869 : TyV v ∧ Rg 0 1 r24869 ∧ Rg 0 120 r24870 ∧ (y9_kto.toInt ≤ r24870.toInt ∧ r24870.toInt ≤ l_tp.toInt ∧ (¬ r24871.toInt = 0 → y9_kto.toInt < r24870.toInt ∨ ¬ y9_ktk.toInt = 0)) := hr24869
          have hV := hr24869.1
          have hP : va_P D cls (wM cI b (mkM l_m l_z l_tp l_hs r24870 r24871 r24872 l_so l_sz l_kp) v) H := hP
          have hD : va_D A (wM cI b (mkM l_m l_z l_tp l_hs r24870 r24871 r24872 l_so l_sz l_kp) v) := hD
          have kr24869_0 := hr24869.2.2.2
          refine lv_if_eq (tgt := 56) hx hb dX12_isText_43 (by decide) (fun c24873 => ?_) (fun c24873 => ?_)
          · have g24874 : Rg 0 0 r24869 := wk_eql hr24869.2.1 (by decide : Rg 0 0 (0 : Int32)) c24873 (by decide)
            refine lv_iconst (v := 0) hx hb dX12_isText_56 (by decide) ?_
            subst hAe
            exact W.zret (v := 0) hx hb hr (by decide) (fun t ht hW => ⟨⟨_, (r24870, r24871, r24872, v), rfl, ⟨hV, (by decide : Rg 0 1 (0 : Int32)), hr24869.2.2.1, trivial⟩, by rw [ht]; exact hP, hD⟩, hS.F ht⟩) hS.2.2 dX12_isText_57
          · have g24875 : Rg 1 1 r24869 := rg_ne_lo (k := 0) hr24869.2.1 (by decide) c24873 (by decide)
            refine lv_goto (tgt := 58) hx hb dX12_isText_46 (by decide) ?_
            refine lv_aload_n hx hb dX12_isText_58 rfl (lv_at hl 0 rfl) ?_
            refine va_get (D := D) (ci := 12) (v := .int r24871) (C := RX12) (T := TX12) (N := 24) hx hb hts hin12 hown hK hP 0 rfl rfl 13 (by decide) (hts (.fieldLink RX12 181 "MissedPointsModel" "token" "I") (by decide +kernel)) (fun _ h9 => h9) rfl dX12_isText_59 ?_
            refine lv_if_ne (tgt := 67) hx hb dX12_isText_62 (by decide) (fun c24876 => ?_) (fun c24876 => ?_)
            · refine lv_aload_n hx hb dX12_isText_67 rfl (lv_at hl 0 rfl) ?_
              refine va_get (D := D) (ci := 12) (v := .int r24871) (C := RX12) (T := TX12) (N := 24) hx hb hts hin12 hown hK hP 0 rfl rfl 13 (by decide) (hts (.fieldLink RX12 181 "MissedPointsModel" "token" "I") (by decide +kernel)) (fun _ h9 => h9) rfl dX12_isText_68 ?_
              refine lv_bipush (v := 44) hx hb dX12_isText_71 (by decide) ?_
              refine lv_icmp_eq (tgt := 78) hx hb dX12_isText_73 (by decide) (fun c24877 => ?_) (fun c24877 => ?_)
              · have g24878 : Rg 44 44 r24871 := wk_eql (rg_any r24871) (by decide : Rg 44 44 (44 : Int32)) c24877 (by decide)
                refine lv_aload_n hx hb dX12_isText_78 rfl (lv_at hl 0 rfl) ?_
                refine wk_qv (S := Int32 × Int32 × Int32 × SU) (fun q => wM cI b (mkM l_m l_z l_tp l_hs q.1 q.2.1 q.2.2.1 l_so l_sz l_kp) q.2.2.2) (r24870, r24871, r24872, v) (As := []) (rest := []) ⟨hx, hb, hml, hown, hts⟩ (w_X12_goesOn l D cI cS _ b l_m l_z l_tp l_hs r24870 r24871 r24872 l_so l_sz l_kp v (show TyL (mkM l_m l_z l_tp l_hs r24870 r24871 r24872 l_so l_sz l_kp) from ⟨p_m, p_tp, p_so, p_sz, p_kp, hr24869.2.2.1⟩) hV (by have y90 : ¬ y9_ktk.toInt = (40 : Int32).toInt := fun z => c24851 (Int32.toInt_inj.mp z); have y91 : y9_ktk.toInt = (91 : Int32).toInt := congrArg Int32.toInt c24852; have y92 : ¬ r24869.toInt = (0 : Int32).toInt := fun z => c24873 (Int32.toInt_inj.mp z); have y93 : ¬ r24871.toInt = (0 : Int32).toInt := fun z => c24876 (Int32.toInt_inj.mp z); have y94 : r24871.toInt = (44 : Int32).toInt := congrArg Int32.toInt c24877; have y95 : Rg 91 91 y9_ktk := g24868; have y96 : Rg 1 1 r24869 := g24875; have y97 : Rg 44 44 r24871 := g24878; have y98 : Rg 0 12 l_m := p_m; have y99 : Rg 0 120 l_tp := p_tp; have y910 : Rg 0 120 r24870 := hr24869.2.2.1; have y911 : Rg 44 44 r24871 := g24878; have y9c12 : (0 : Int32).toInt = 0 := (by decide); have y9c13 : (1 : Int32).toInt = 1 := (by decide); have y9c14 : (40 : Int32).toInt = 40 := (by decide); have y9c15 : (44 : Int32).toInt = 44 := (by decide); have y9c16 : (91 : Int32).toInt = 91 := (by decide); omega)) hKK hP hD hS hA 0 (ci := 12) rfl rfl (cwV 0 hts gX12_isText_X12_goesOn rfl rfl rfl (by decide +kernel) ⟨Nat.le_of_ble_eq_true rfl, Nat.le_of_ble_eq_true rfl⟩) rfl hl.1 rfl (Nat.le_of_ble_eq_true rfl) dX12_isText_79 ⟨Nat.le_of_ble_eq_true rfl, Nat.le_of_ble_eq_true rfl⟩ (fun q9 H locs hr24879 hP hD hS => ?_)
                obtain ⟨r24880, r24881, r24882, v⟩ := q9
                have hr24879 : TyV v ∧ Rg 0 120 r24880 ∧ (r24870.toInt ≤ r24880.toInt ∧ r24880.toInt ≤ l_tp.toInt ∧ (¬ r24881.toInt = 0 → r24870.toInt < r24880.toInt)) := hr24879
                have hV := hr24879.1
                have hP : va_P D cls (wM cI b (mkM l_m l_z l_tp l_hs r24880 r24881 r24882 l_so l_sz l_kp) v) H := hP
                have hD : va_D A (wM cI b (mkM l_m l_z l_tp l_hs r24880 r24881 r24882 l_so l_sz l_kp) v) := hD
                have kr24879_0 := hr24879.2.2
                refine lv_goto (tgt := 9) hx hb dX12_isText_82 (by decide) ?_
                exact ih9 r24880 r24881 r24882 v _ _ ls hr24879.2.1 (show (0 ≤ r24880.toInt ∧ r24880.toInt ≤ l_tp.toInt) from by have y90 : ¬ y9_ktk.toInt = (40 : Int32).toInt := fun z => c24851 (Int32.toInt_inj.mp z); have y91 : y9_ktk.toInt = (91 : Int32).toInt := congrArg Int32.toInt c24852; have y92 : ¬ r24869.toInt = (0 : Int32).toInt := fun z => c24873 (Int32.toInt_inj.mp z); have y93 : ¬ r24871.toInt = (0 : Int32).toInt := fun z => c24876 (Int32.toInt_inj.mp z); have y94 : r24871.toInt = (44 : Int32).toInt := congrArg Int32.toInt c24877; have y95 : Rg 91 91 y9_ktk := g24868; have y96 : Rg 1 1 r24869 := g24875; have y97 : Rg 44 44 r24871 := g24878; have y98 : Rg 0 12 l_m := p_m; have y99 : Rg 0 120 l_tp := p_tp; have y910 : Rg 0 120 r24880 := hr24879.2.1; have y9c11 : (0 : Int32).toInt = 0 := (by decide); have y9c12 : (1 : Int32).toInt = 1 := (by decide); have y9c13 : (40 : Int32).toInt = 40 := (by decide); have y9c14 : (44 : Int32).toInt = 44 := (by decide); have y9c15 : (91 : Int32).toInt = 91 := (by decide); omega) hV hP hD hS (lv_sub (l' := [(0, .ref (b 0))]) hl [0] rfl) (show (2 * (l_tp.toInt - r24880.toInt) + (if r24881.toInt = 0 then 0 else 1)) < _ from by have z8 := hm9; have y90 : ¬ y9_ktk.toInt = (40 : Int32).toInt := fun z => c24851 (Int32.toInt_inj.mp z); have y91 : y9_ktk.toInt = (91 : Int32).toInt := congrArg Int32.toInt c24852; have y92 : ¬ r24869.toInt = (0 : Int32).toInt := fun z => c24873 (Int32.toInt_inj.mp z); have y93 : ¬ r24871.toInt = (0 : Int32).toInt := fun z => c24876 (Int32.toInt_inj.mp z); have y94 : r24871.toInt = (44 : Int32).toInt := congrArg Int32.toInt c24877; have y95 : Rg 91 91 y9_ktk := g24868; have y96 : Rg 1 1 r24869 := g24875; have y97 : Rg 44 44 r24871 := g24878; have y98 : Rg 0 12 l_m := p_m; have y99 : Rg 0 120 l_tp := p_tp; have y910 : Rg 0 120 r24880 := hr24879.2.1; have y9c11 : (0 : Int32).toInt = 0 := (by decide); have y9c12 : (1 : Int32).toInt = 1 := (by decide); have y9c13 : (40 : Int32).toInt = 40 := (by decide); have y9c14 : (44 : Int32).toInt = 44 := (by decide); have y9c15 : (91 : Int32).toInt = 91 := (by decide); revert z8; split <;> split <;> omega)
              · refine lv_iconst (v := 0) hx hb dX12_isText_76 (by decide) ?_
                subst hAe
                exact W.zret (v := 0) hx hb hr (by decide) (fun t ht hW => ⟨⟨_, (r24870, r24871, r24872, v), rfl, ⟨hV, (by decide : Rg 0 1 (0 : Int32)), hr24869.2.2.1, trivial⟩, by rw [ht]; exact hP, hD⟩, hS.F ht⟩) hS.2.2 dX12_isText_77
            · have g24883 : Rg 0 0 r24871 := wk_eql (rg_any r24871) (by decide : Rg 0 0 (0 : Int32)) c24876 (by decide)
              refine lv_iconst (v := 1) hx hb dX12_isText_65 (by decide) ?_
              subst hAe
              exact W.zret (v := 1) hx hb hr (by decide) (fun t ht hW => ⟨⟨_, (r24870, r24871, r24872, v), rfl, ⟨hV, (by decide : Rg 0 1 (1 : Int32)), hr24869.2.2.1, trivial⟩, by rw [ht]; exact hP, hD⟩, hS.F ht⟩) hS.2.2 dX12_isText_66
      · have g24884 : Rg 40 40 y9_ktk := wk_eql (rg_any y9_ktk) (by decide : Rg 40 40 (40 : Int32)) c24851 (by decide)
        refine lv_aload_n hx hb dX12_isText_18 rfl (lv_at hl 0 rfl) ?_
        refine lv_iconst (v := 1) hx hb dX12_isText_19 (by decide) ?_
        refine wk_qi (S := Int32 × Int32 × Int32 × SU) (fun q => wM cI b (mkM l_m l_z l_tp l_hs q.1 q.2.1 q.2.2.1 l_so l_sz l_kp) q.2.2.2) (y9_kto, y9_ktk, y9_kwo, v) (As := [.int 1]) (rest := []) ⟨hx, hb, hml, hown, hts⟩ (w_X12_bracketsRead l D cI cS _ b l_m l_z l_tp l_hs y9_kto y9_ktk y9_kwo l_so l_sz l_kp v (show TyL (mkM l_m l_z l_tp l_hs y9_kto y9_ktk y9_kwo l_so l_sz l_kp) from ⟨p_m, p_tp, p_so, p_sz, p_kp, g9_kto⟩) hV (1 : Int32) (by decide : Rg 0 1 (1 : Int32)) (by have y90 : y9_ktk.toInt = (40 : Int32).toInt := congrArg Int32.toInt c24851; have y91 : Rg 40 40 y9_ktk := g24884; have y92 : Rg 0 12 l_m := p_m; have y93 : Rg 0 120 l_tp := p_tp; have y94 : Rg 0 120 y9_kto := g9_kto; have y95 : Rg 40 40 y9_ktk := g24884; have y9c6 : (0 : Int32).toInt = 0 := (by decide); have y9c7 : (1 : Int32).toInt = 1 := (by decide); have y9c8 : (40 : Int32).toInt = 40 := (by decide); omega)) hKK hP hD hS hA 0 (ci := 12) rfl rfl (cwV 1 hts gX12_isText_X12_bracketsRead rfl rfl rfl (by decide +kernel) ⟨Nat.le_of_ble_eq_true rfl, Nat.le_of_ble_eq_true rfl⟩) rfl hl.1 rfl (Nat.le_of_ble_eq_true rfl) dX12_isText_20 ⟨Nat.le_of_ble_eq_true rfl, Nat.le_of_ble_eq_true rfl⟩ (fun r24885 q9 H locs hr24885 hP hD hS => ?_)
        obtain ⟨r24886, r24887, r24888, v⟩ := q9
        have hr24885 : TyV v ∧ Rg 0 1 r24885 ∧ Rg 0 120 r24886 ∧ (y9_kto.toInt ≤ r24886.toInt ∧ r24886.toInt ≤ l_tp.toInt ∧ (¬ r24887.toInt = 0 → y9_kto.toInt < r24886.toInt ∨ ¬ y9_ktk.toInt = 0)) := hr24885
        have hV := hr24885.1
        have hP : va_P D cls (wM cI b (mkM l_m l_z l_tp l_hs r24886 r24887 r24888 l_so l_sz l_kp) v) H := hP
        have hD : va_D A (wM cI b (mkM l_m l_z l_tp l_hs r24886 r24887 r24888 l_so l_sz l_kp) v) := hD
        have kr24885_0 := hr24885.2.2.2
        refine lv_if_eq (tgt := 56) hx hb dX12_isText_23 (by decide) (fun c24889 => ?_) (fun c24889 => ?_)
        · have g24890 : Rg 0 0 r24885 := wk_eql hr24885.2.1 (by decide : Rg 0 0 (0 : Int32)) c24889 (by decide)
          refine lv_iconst (v := 0) hx hb dX12_isText_56 (by decide) ?_
          subst hAe
          exact W.zret (v := 0) hx hb hr (by decide) (fun t ht hW => ⟨⟨_, (r24886, r24887, r24888, v), rfl, ⟨hV, (by decide : Rg 0 1 (0 : Int32)), hr24885.2.2.1, trivial⟩, by rw [ht]; exact hP, hD⟩, hS.F ht⟩) hS.2.2 dX12_isText_57
        · have g24891 : Rg 1 1 r24885 := rg_ne_lo (k := 0) hr24885.2.1 (by decide) c24889 (by decide)
          refine lv_goto (tgt := 58) hx hb dX12_isText_26 (by decide) ?_
          refine lv_aload_n hx hb dX12_isText_58 rfl (lv_at hl 0 rfl) ?_
          refine va_get (D := D) (ci := 12) (v := .int r24887) (C := RX12) (T := TX12) (N := 24) hx hb hts hin12 hown hK hP 0 rfl rfl 13 (by decide) (hts (.fieldLink RX12 181 "MissedPointsModel" "token" "I") (by decide +kernel)) (fun _ h9 => h9) rfl dX12_isText_59 ?_
          refine lv_if_ne (tgt := 67) hx hb dX12_isText_62 (by decide) (fun c24892 => ?_) (fun c24892 => ?_)
          · refine lv_aload_n hx hb dX12_isText_67 rfl (lv_at hl 0 rfl) ?_
            refine va_get (D := D) (ci := 12) (v := .int r24887) (C := RX12) (T := TX12) (N := 24) hx hb hts hin12 hown hK hP 0 rfl rfl 13 (by decide) (hts (.fieldLink RX12 181 "MissedPointsModel" "token" "I") (by decide +kernel)) (fun _ h9 => h9) rfl dX12_isText_68 ?_
            refine lv_bipush (v := 44) hx hb dX12_isText_71 (by decide) ?_
            refine lv_icmp_eq (tgt := 78) hx hb dX12_isText_73 (by decide) (fun c24893 => ?_) (fun c24893 => ?_)
            · have g24894 : Rg 44 44 r24887 := wk_eql (rg_any r24887) (by decide : Rg 44 44 (44 : Int32)) c24893 (by decide)
              refine lv_aload_n hx hb dX12_isText_78 rfl (lv_at hl 0 rfl) ?_
              refine wk_qv (S := Int32 × Int32 × Int32 × SU) (fun q => wM cI b (mkM l_m l_z l_tp l_hs q.1 q.2.1 q.2.2.1 l_so l_sz l_kp) q.2.2.2) (r24886, r24887, r24888, v) (As := []) (rest := []) ⟨hx, hb, hml, hown, hts⟩ (w_X12_goesOn l D cI cS _ b l_m l_z l_tp l_hs r24886 r24887 r24888 l_so l_sz l_kp v (show TyL (mkM l_m l_z l_tp l_hs r24886 r24887 r24888 l_so l_sz l_kp) from ⟨p_m, p_tp, p_so, p_sz, p_kp, hr24885.2.2.1⟩) hV (by have y90 : y9_ktk.toInt = (40 : Int32).toInt := congrArg Int32.toInt c24851; have y91 : ¬ r24885.toInt = (0 : Int32).toInt := fun z => c24889 (Int32.toInt_inj.mp z); have y92 : ¬ r24887.toInt = (0 : Int32).toInt := fun z => c24892 (Int32.toInt_inj.mp z); have y93 : r24887.toInt = (44 : Int32).toInt := congrArg Int32.toInt c24893; have y94 : Rg 40 40 y9_ktk := g24884; have y95 : Rg 1 1 r24885 := g24891; have y96 : Rg 44 44 r24887 := g24894; have y97 : Rg 0 12 l_m := p_m; have y98 : Rg 0 120 l_tp := p_tp; have y99 : Rg 0 120 r24886 := hr24885.2.2.1; have y910 : Rg 44 44 r24887 := g24894; have y9c11 : (0 : Int32).toInt = 0 := (by decide); have y9c12 : (1 : Int32).toInt = 1 := (by decide); have y9c13 : (40 : Int32).toInt = 40 := (by decide); have y9c14 : (44 : Int32).toInt = 44 := (by decide); omega)) hKK hP hD hS hA 0 (ci := 12) rfl rfl (cwV 0 hts gX12_isText_X12_goesOn rfl rfl rfl (by decide +kernel) ⟨Nat.le_of_ble_eq_true rfl, Nat.le_of_ble_eq_true rfl⟩) rfl hl.1 rfl (Nat.le_of_ble_eq_true rfl) dX12_isText_79 ⟨Nat.le_of_ble_eq_true rfl, Nat.le_of_ble_eq_true rfl⟩ (fun q9 H locs hr24895 hP hD hS => ?_)
              obtain ⟨r24896, r24897, r24898, v⟩ := q9
              have hr24895 : TyV v ∧ Rg 0 120 r24896 ∧ (r24886.toInt ≤ r24896.toInt ∧ r24896.toInt ≤ l_tp.toInt ∧ (¬ r24897.toInt = 0 → r24886.toInt < r24896.toInt)) := hr24895
              have hV := hr24895.1
              have hP : va_P D cls (wM cI b (mkM l_m l_z l_tp l_hs r24896 r24897 r24898 l_so l_sz l_kp) v) H := hP
              have hD : va_D A (wM cI b (mkM l_m l_z l_tp l_hs r24896 r24897 r24898 l_so l_sz l_kp) v) := hD
              have kr24895_0 := hr24895.2.2
              refine lv_goto (tgt := 9) hx hb dX12_isText_82 (by decide) ?_
              exact ih9 r24896 r24897 r24898 v _ _ ls hr24895.2.1 (show (0 ≤ r24896.toInt ∧ r24896.toInt ≤ l_tp.toInt) from by have y90 : y9_ktk.toInt = (40 : Int32).toInt := congrArg Int32.toInt c24851; have y91 : ¬ r24885.toInt = (0 : Int32).toInt := fun z => c24889 (Int32.toInt_inj.mp z); have y92 : ¬ r24887.toInt = (0 : Int32).toInt := fun z => c24892 (Int32.toInt_inj.mp z); have y93 : r24887.toInt = (44 : Int32).toInt := congrArg Int32.toInt c24893; have y94 : Rg 40 40 y9_ktk := g24884; have y95 : Rg 1 1 r24885 := g24891; have y96 : Rg 44 44 r24887 := g24894; have y97 : Rg 0 12 l_m := p_m; have y98 : Rg 0 120 l_tp := p_tp; have y99 : Rg 0 120 r24896 := hr24895.2.1; have y9c10 : (0 : Int32).toInt = 0 := (by decide); have y9c11 : (1 : Int32).toInt = 1 := (by decide); have y9c12 : (40 : Int32).toInt = 40 := (by decide); have y9c13 : (44 : Int32).toInt = 44 := (by decide); omega) hV hP hD hS (lv_sub (l' := [(0, .ref (b 0))]) hl [0] rfl) (show (2 * (l_tp.toInt - r24896.toInt) + (if r24897.toInt = 0 then 0 else 1)) < _ from by have z8 := hm9; have y90 : y9_ktk.toInt = (40 : Int32).toInt := congrArg Int32.toInt c24851; have y91 : ¬ r24885.toInt = (0 : Int32).toInt := fun z => c24889 (Int32.toInt_inj.mp z); have y92 : ¬ r24887.toInt = (0 : Int32).toInt := fun z => c24892 (Int32.toInt_inj.mp z); have y93 : r24887.toInt = (44 : Int32).toInt := congrArg Int32.toInt c24893; have y94 : Rg 40 40 y9_ktk := g24884; have y95 : Rg 1 1 r24885 := g24891; have y96 : Rg 44 44 r24887 := g24894; have y97 : Rg 0 12 l_m := p_m; have y98 : Rg 0 120 l_tp := p_tp; have y99 : Rg 0 120 r24896 := hr24895.2.1; have y9c10 : (0 : Int32).toInt = 0 := (by decide); have y9c11 : (1 : Int32).toInt = 1 := (by decide); have y9c12 : (40 : Int32).toInt = 40 := (by decide); have y9c13 : (44 : Int32).toInt = 44 := (by decide); revert z8; split <;> split <;> omega)
            · refine lv_iconst (v := 0) hx hb dX12_isText_76 (by decide) ?_
              subst hAe
              exact W.zret (v := 0) hx hb hr (by decide) (fun t ht hW => ⟨⟨_, (r24886, r24887, r24888, v), rfl, ⟨hV, (by decide : Rg 0 1 (0 : Int32)), hr24885.2.2.1, trivial⟩, by rw [ht]; exact hP, hD⟩, hS.F ht⟩) hS.2.2 dX12_isText_77
          · have g24899 : Rg 0 0 r24887 := wk_eql (rg_any r24887) (by decide : Rg 0 0 (0 : Int32)) c24892 (by decide)
            refine lv_iconst (v := 1) hx hb dX12_isText_65 (by decide) ?_
            subst hAe
            exact W.zret (v := 1) hx hb hr (by decide) (fun t ht hW => ⟨⟨_, (r24886, r24887, r24888, v), rfl, ⟨hV, (by decide : Rg 0 1 (1 : Int32)), hr24885.2.2.1, trivial⟩, by rw [ht]; exact hP, hD⟩, hS.F ht⟩) hS.2.2 dX12_isText_66
  refine lv_aload_n hx hb dX12_isText_0 rfl (lv_at hl 0 rfl) ?_
  refine lv_iconst (v := 0) hx hb dX12_isText_1 (by decide) ?_
  refine va_put (D := D) (ci := 12) (v := .int 0) (ty := .int) (C := RX12) (T := TX12) (N := 24) hx hb hts hin12 tyX12 tyX12_ok nmX12 hown hK hP hD hS 0 rfl rfl 12 (by decide) (hts (.fieldLink RX12 169 "MissedPointsModel" "to" "I") (by decide +kernel)) (fun _ h9 => h9) rfl (by decide +kernel) rfl rfl (Nat.le_of_ble_eq_true rfl) dX12_isText_2 (fun H locs hP hD hS => ?_)
  have hP : va_P D cls (wM cI b (mkM l_m l_z l_tp l_hs (0 : Int32) l_tk l_wo l_so l_sz l_kp) v) H := hP
  have hD : va_D A (wM cI b (mkM l_m l_z l_tp l_hs (0 : Int32) l_tk l_wo l_so l_sz l_kp) v) := hD
  refine lv_aload_n hx hb dX12_isText_5 rfl (lv_at hl 0 rfl) ?_
  refine wk_qv (S := Int32 × Int32 × Int32 × SU) (fun q => wM cI b (mkM l_m l_z l_tp l_hs q.1 q.2.1 q.2.2.1 l_so l_sz l_kp) q.2.2.2) ((0 : Int32), l_tk, l_wo, v) (As := []) (rest := []) ⟨hx, hb, hml, hown, hts⟩ (w_X12_goesOn l D cI cS _ b l_m l_z l_tp l_hs (0 : Int32) l_tk l_wo l_so l_sz l_kp v (show TyL (mkM l_m l_z l_tp l_hs (0 : Int32) l_tk l_wo l_so l_sz l_kp) from ⟨p_m, p_tp, p_so, p_sz, p_kp, (by decide : Rg 0 120 (0 : Int32))⟩) hV (by have y90 : Rg 0 12 l_m := p_m; have y91 : Rg 0 120 l_tp := p_tp; have y9c2 : (0 : Int32).toInt = 0 := (by decide); have y9c3 : (1 : Int32).toInt = 1 := (by decide); omega)) hKK hP hD hS hA 0 (ci := 12) rfl rfl (cwV 0 hts gX12_isText_X12_goesOn rfl rfl rfl (by decide +kernel) ⟨Nat.le_of_ble_eq_true rfl, Nat.le_of_ble_eq_true rfl⟩) rfl hl.1 rfl (Nat.le_of_ble_eq_true rfl) dX12_isText_6 ⟨Nat.le_of_ble_eq_true rfl, Nat.le_of_ble_eq_true rfl⟩ (fun q9 H locs hr24900 hP hD hS => ?_)
  obtain ⟨r24901, r24902, r24903, v⟩ := q9
  have hr24900 : TyV v ∧ Rg 0 120 r24901 ∧ ((0 : Int32).toInt ≤ r24901.toInt ∧ r24901.toInt ≤ l_tp.toInt ∧ (¬ r24902.toInt = 0 → (0 : Int32).toInt < r24901.toInt)) := hr24900
  have hV := hr24900.1
  have hP : va_P D cls (wM cI b (mkM l_m l_z l_tp l_hs r24901 r24902 r24903 l_so l_sz l_kp) v) H := hP
  have hD : va_D A (wM cI b (mkM l_m l_z l_tp l_hs r24901 r24902 r24903 l_so l_sz l_kp) v) := hD
  have kr24900_0 := hr24900.2.2
  exact lp9 242 r24901 r24902 r24903 v _ _ ls hr24900.2.1 (show (0 ≤ r24901.toInt ∧ r24901.toInt ≤ l_tp.toInt) from by have y90 : Rg 0 12 l_m := p_m; have y91 : Rg 0 120 l_tp := p_tp; have y92 : Rg 0 120 r24901 := hr24900.2.1; have y9c3 : (0 : Int32).toInt = 0 := (by decide); have y9c4 : (1 : Int32).toInt = 1 := (by decide); omega) hV hP hD hS (lv_sub (l' := [(0, .ref (b 0))]) hl [0] rfl) (show (2 * (l_tp.toInt - r24901.toInt) + (if r24902.toInt = 0 then 0 else 1)) < _ from by have y90 : Rg 0 12 l_m := p_m; have y91 : Rg 0 120 l_tp := p_tp; have y92 : Rg 0 120 r24901 := hr24900.2.1; have y9c3 : (0 : Int32).toInt = 0 := (by decide); have y9c4 : (1 : Int32).toInt = 1 := (by decide); split <;> omega)
theorem dX12_text_24 : decode cX12_text 24 = .ok (.aload_n 0, 1) := by decide +kernel
theorem dX12_text_25 : decode cX12_text 25 = .ok (.getfield 184, 3) := by decide +kernel
theorem dX12_text_28 : decode cX12_text 28 = .ok (.ireturn, 1) := by decide +kernel
set_option maxHeartbeats 4000000 in
set_option maxRecDepth 100000 in
theorem w_X12_text (l : Launch) (D : va_G) (cI cS : ClassId) (sz : Nat) (b : Nat → Nat) (l_m l_z l_tp l_hs l_to l_tk l_wo : Int32) (l_so l_sz l_kp : Nat → Int32) (v0 : SU) (hL : TyL (mkM l_m l_z l_tp l_hs l_to l_tk l_wo l_so l_sz l_kp)) (hV : TyV v0) : Met l yX12_text wsX12_text ({ frames := 6, cells := 0, slots := 0, locals := 240 }) (PQ D cI cS (wM cI b (mkM l_m l_z l_tp l_hs l_to l_tk l_wo l_so l_sz l_kp) v0) sz [.ref (b 0)]) (QF (S := Int32 × Int32 × Int32 × Int32 × Int32 × Int32 × (Nat → Int32) × SU) D (wM cI b (mkM l_m l_z l_tp l_hs l_to l_tk l_wo l_so l_sz l_kp) v0) (fun q => wM cI b (mkM q.1 q.2.1 q.2.2.1 l_hs q.2.2.2.1 q.2.2.2.2.1 q.2.2.2.2.2.1 l_so l_sz q.2.2.2.2.2.2.1) q.2.2.2.2.2.2.2) sz (fun r q => TyV q.2.2.2.2.2.2.2 ∧ Rg (-2147483648) 2147483647 r ∧ Rg 0 12 q.1 ∧ Rg 0 0 q.2.2.1 ∧ Rg 0 120 q.2.2.2.1 ∧ Kp q.2.2.2.2.2.2.1 ∧ (q.1.toInt = l_m.toInt ∧ q.2.1.toInt = l_z.toInt ∧ (q.2.2.2.2.2.2.1 0).toInt = (l_kp 0).toInt ∧ (q.2.2.2.2.2.2.1 1).toInt = (l_kp 1).toInt ∧ q.2.2.1.toInt = 0))) 0 0 (va_A (wM cI b (mkM l_m l_z l_tp l_hs l_to l_tk l_wo l_so l_sz l_kp) v0) sz) := by
  refine Met.ofW (cc := cX12_text) (maxL := 2) (ret := (some .int)) (by decide) rfl ?_
  intro p e s m args below meth c s₁ B hml hv
  obtain ⟨rfl, hsz, hP, hKK, hD0⟩ := hv
  have hx := B.exec
  have hb := B.bytes
  have hr := B.returns
  have hts := atoms_spec (ws := wsX12_text) B.pre
  have hown : s.vm.findClass RX12 = some m.cls := findClass_of_methodNamed B.named
  have hlocks := B.notSynchronized
  have hK := hKK.1
  have hin12 : ∀ w ∈ wsX120, w ∈ wsX12_text := by decide +kernel
  subst hsz
  have hD := hD0.self (sz := s.heap.size)
  obtain ⟨A, hAe⟩ : ∃ A, A = va_A (wM cI b (mkM l_m l_z l_tp l_hs l_to l_tk l_wo l_so l_sz l_kp) v0) s.heap.size := ⟨_, rfl⟩
  rw [← hAe] at hD
  have hA : ∀ q : Nat, s.heap.size ≤ q → A q := fun q h => by rw [hAe]; exact Or.inr h
  have hS : va_S A s.heap s.heap [] := va_S.rf
  have hl := lv_entry ([.ref (b 0)]) (n := 2) (Nat.le_of_ble_eq_true rfl)
  rw [lg_entry_eq]
  generalize (lg_sl ([.ref (b 0)]) ++ List.replicate (2 - (lg_sl ([.ref (b 0)])).length) Slot.unset).toArray = ls at hl ⊢
  have hl : lv_has ls 2 [(0, .ref (b 0))] := hl
  obtain ⟨v, hv9⟩ : ∃ v : SU, v = v0 := ⟨_, rfl⟩
  rw [← hv9] at hP hD hV
  have p_m : Rg 0 12 l_m := hL.1
  have p_tp : Rg 0 120 l_tp := hL.2.1
  have p_so : Ar (-1) 1 l_so := hL.2.2.1
  have p_sz : Ar 0 40 l_sz := hL.2.2.2.1
  have p_kp : Kp l_kp := hL.2.2.2.2.1
  have p_to : Rg 0 120 l_to := hL.2.2.2.2.2
  refine lv_aload_n hx hb dX12_text_0 rfl (lv_at hl 0 rfl) ?_
  refine lv_iconst (v := 1) hx hb dX12_text_1 (by decide) ?_
  refine wk_qv (S := (Nat → Int32) × SU) (fun q => wM cI b (mkM l_m l_z l_tp l_hs l_to l_tk l_wo l_so l_sz q.1) q.2) (l_kp, v) (As := [.int 1]) (rest := []) ⟨hx, hb, hml, hown, hts⟩ (w_X12_keeps_1 l D cI cS _ b l_m l_z l_tp l_hs l_to l_tk l_wo l_so l_sz l_kp v (show TyL (mkM l_m l_z l_tp l_hs l_to l_tk l_wo l_so l_sz l_kp) from ⟨p_m, p_tp, p_so, p_sz, p_kp, p_to⟩) hV) hKK hP hD hS hA 0 (ci := 12) rfl rfl (cwV 1 hts gX12_text_X12_keeps rfl rfl rfl (by decide +kernel) ⟨Nat.le_of_ble_eq_true rfl, Nat.le_of_ble_eq_true rfl⟩) rfl hl.1 rfl (Nat.le_of_ble_eq_true rfl) dX12_text_2 ⟨Nat.le_of_ble_eq_true rfl, Nat.le_of_ble_eq_true rfl⟩ (fun q9 H locs hr24920 hP hD hS => ?_)
  obtain ⟨f24921, v⟩ := q9
  have hr24920 : TyV v ∧ Kp f24921 ∧ ((f24921 14).toInt = l_m.toInt ∧ (f24921 15).toInt = l_z.toInt ∧ (f24921 0).toInt = (l_kp 0).toInt ∧ (f24921 1).toInt = (l_kp 1).toInt) := hr24920
  have hV := hr24920.1
  have hP : va_P D cls (wM cI b (mkM l_m l_z l_tp l_hs l_to l_tk l_wo l_so l_sz f24921) v) H := hP
  have hD : va_D A (wM cI b (mkM l_m l_z l_tp l_hs l_to l_tk l_wo l_so l_sz f24921) v) := hD
  have kr24920_0 := hr24920.2.2
  refine lv_aload_n hx hb dX12_text_5 rfl (lv_at hl 0 rfl) ?_
  refine lv_iconst (v := 0) hx hb dX12_text_6 (by decide) ?_
  refine mp_15 hx hb hts hin12 hown hK hP hD hS hV (hts (.fieldLink RX12 184 "MissedPointsModel" "news" "I") (by decide +kernel)) dX12_text_7 (fun v H locs hV ev24922 hP hD hS => ?_)
  refine lv_aload_n hx hb dX12_text_10 rfl (lv_at hl 0 rfl) ?_
  refine wk_qi (S := Int32 × Int32 × Int32 × SU) (fun q => wM cI b (mkM l_m l_z l_tp l_hs q.1 q.2.1 q.2.2.1 l_so l_sz f24921) q.2.2.2) (l_to, l_tk, l_wo, v) (As := []) (rest := []) ⟨hx, hb, hml, hown, hts⟩ (w_X12_isText l D cI cS _ b l_m l_z l_tp l_hs l_to l_tk l_wo l_so l_sz f24921 v (show TyL (mkM l_m l_z l_tp l_hs l_to l_tk l_wo l_so l_sz f24921) from ⟨p_m, p_tp, p_so, p_sz, hr24920.2.1, p_to⟩) hV) hKK hP hD hS hA 0 (ci := 12) rfl rfl (cwV 0 hts gX12_text_X12_isText rfl rfl rfl (by decide +kernel) ⟨Nat.le_of_ble_eq_true rfl, Nat.le_of_ble_eq_true rfl⟩) rfl hl.1 rfl (Nat.le_of_ble_eq_true rfl) dX12_text_11 ⟨Nat.le_of_ble_eq_true rfl, Nat.le_of_ble_eq_true rfl⟩ (fun r24923 q9 H locs hr24923 hP hD hS => ?_)
  obtain ⟨r24924, r24925, r24926, v⟩ := q9
  have hr24923 : TyV v ∧ Rg 0 1 r24923 ∧ Rg 0 120 r24924 ∧ (True) := hr24923
  have hV := hr24923.1
  have hP : va_P D cls (wM cI b (mkM l_m l_z l_tp l_hs r24924 r24925 r24926 l_so l_sz f24921) v) H := hP
  have hD : va_D A (wM cI b (mkM l_m l_z l_tp l_hs r24924 r24925 r24926 l_so l_sz f24921) v) := hD
  have kr24923_0 := hr24923.2.2.2
  refine lv_istore_n (lv' := [(1, .int r24923), (0, .ref (b 0))]) hx hb dX12_text_14 rfl hl (by decide) rfl (fun ls hl => ?_)
  refine lv_aload_n hx hb dX12_text_15 rfl (lv_at hl 1 rfl) ?_
  refine lv_iconst (v := 0) hx hb dX12_text_16 (by decide) ?_
  refine va_put (D := D) (ci := 12) (v := .int 0) (ty := .int) (C := RX12) (T := TX12) (N := 24) hx hb hts hin12 tyX12 tyX12_ok nmX12 hown hK hP hD hS 0 rfl rfl 10 (by decide) (hts (.fieldLink RX12 101 "MissedPointsModel" "taped" "I") (by decide +kernel)) (fun _ h9 => h9) rfl (by decide +kernel) rfl rfl (Nat.le_of_ble_eq_true rfl) dX12_text_17 (fun H locs hP hD hS => ?_)
  have hP : va_P D cls (wM cI b (mkM l_m l_z (0 : Int32) l_hs r24924 r24925 r24926 l_so l_sz f24921) v) H := hP
  have hD : va_D A (wM cI b (mkM l_m l_z (0 : Int32) l_hs r24924 r24925 r24926 l_so l_sz f24921) v) := hD
  refine lv_iload_n hx hb dX12_text_20 rfl (lv_at hl 0 rfl) ?_
  refine lv_if_eq (tgt := 29) hx hb dX12_text_21 (by decide) (fun c24927 => ?_) (fun c24927 => ?_)
  · have g24928 : Rg 0 0 r24923 := wk_eql hr24923.2.1 (by decide : Rg 0 0 (0 : Int32)) c24927 (by decide)
    refine lv_aload_n hx hb dX12_text_29 rfl (lv_at hl 1 rfl) ?_
    refine lv_iconst (v := 1) hx hb dX12_text_30 (by decide) ?_
    refine wk_qv (S := Int32 × Int32 × SU) (fun q => wM cI b (mkM q.1 q.2.1 (0 : Int32) l_hs r24924 r24925 r24926 l_so l_sz f24921) q.2.2) (l_m, l_z, v) (As := [.int 1]) (rest := []) ⟨hx, hb, hml, hown, hts⟩ (w_X12_putsBack_1 l D cI cS _ b l_m l_z (0 : Int32) l_hs r24924 r24925 r24926 l_so l_sz f24921 v (show TyL (mkM l_m l_z (0 : Int32) l_hs r24924 r24925 r24926 l_so l_sz f24921) from ⟨p_m, (by decide : Rg 0 120 (0 : Int32)), p_so, p_sz, hr24920.2.1, hr24923.2.2.1⟩) hV) hKK hP hD hS hA 0 (ci := 12) rfl rfl (cwV 1 hts gX12_text_X12_putsBack rfl rfl rfl (by decide +kernel) ⟨Nat.le_of_ble_eq_true rfl, Nat.le_of_ble_eq_true rfl⟩) rfl hl.1 rfl (Nat.le_of_ble_eq_true rfl) dX12_text_31 ⟨Nat.le_of_ble_eq_true rfl, Nat.le_of_ble_eq_true rfl⟩ (fun q9 H locs hr24929 hP hD hS => ?_)
    obtain ⟨r24930, r24931, v⟩ := q9
    have hr24929 : TyV v ∧ Rg 0 12 r24930 ∧ (r24930.toInt = (f24921 14).toInt ∧ r24931.toInt = (f24921 15).toInt) := hr24929
    have hV := hr24929.1
    have hP : va_P D cls (wM cI b (mkM r24930 r24931 (0 : Int32) l_hs r24924 r24925 r24926 l_so l_sz f24921) v) H := hP
    have hD : va_D A (wM cI b (mkM r24930 r24931 (0 : Int32) l_hs r24924 r24925 r24926 l_so l_sz f24921) v) := hD
    have kr24929_0 := hr24929.2.2
    refine lv_bipush (v := (-100)) hx hb dX12_text_34 (by decide) ?_
    refine lv_aload_n hx hb dX12_text_36 rfl (lv_at hl 1 rfl) ?_
    refine va_get (D := D) (ci := 12) (v := .int (v 0 11)) (C := RX12) (T := TX12) (N := 24) hx hb hts hin12 hown hK hP 0 rfl rfl 11 (by decide) (hts (.fieldLink RX12 175 "MissedPointsModel" "from" "I") (by decide +kernel)) (fun _ h9 => h9) rfl dX12_text_37 ?_
    refine wk_topP (P := fun r => r = v 0 11) rfl (fun r24932 hr24932 => ?_)
    refine lv_isub hx hb dX12_text_40 ?_
    refine wk_topP (P := fun r => r = ((-100) : Int32) - r24932) rfl (fun r24933 qr24933 => ?_)
    subst hAe
    exact W.iret (v := r24933) hx hb hr (fun t ht hW => ⟨⟨_, (r24930, r24931, (0 : Int32), r24924, r24925, r24926, f24921, v), rfl, ⟨hV, (rg_any r24933), hr24929.2.1, (by decide : Rg 0 0 (0 : Int32)), hr24923.2.2.1, hr24920.2.1, (show r24930.toInt = l_m.toInt ∧ r24931.toInt = l_z.toInt ∧ (f24921 0).toInt = (l_kp 0).toInt ∧ (f24921 1).toInt = (l_kp 1).toInt ∧ (0 : Int32).toInt = 0 from by have y90 : r24923.toInt = (0 : Int32).toInt := congrArg Int32.toInt c24927; have y91 : Rg 0 0 r24923 := g24928; have y92 : Rg 0 0 r24923 := g24928; have y93 : Rg 0 12 r24930 := hr24929.2.1; have y94 : Rg 0 120 r24924 := hr24923.2.2.1; have y9c5 : ((-100) : Int32).toInt = -100 := (by decide); have y9c6 : (0 : Int32).toInt = 0 := (by decide); have y9c7 : (1 : Int32).toInt = 1 := (by decide); omega)⟩, by rw [ht]; exact hP, hD⟩, hS.F ht⟩) hS.2.2 dX12_text_41
  · have g24934 : Rg 1 1 r24923 := rg_ne_lo (k := 0) hr24923.2.1 (by decide) c24927 (by decide)
    refine lv_aload_n hx hb dX12_text_24 rfl (lv_at hl 1 rfl) ?_
    refine va_get (D := D) (ci := 12) (v := .int (v 0 15)) (C := RX12) (T := TX12) (N := 24) hx hb hts hin12 hown hK hP 0 rfl rfl 15 (by decide) (hts (.fieldLink RX12 184 "MissedPointsModel" "news" "I") (by decide +kernel)) (fun _ h9 => h9) rfl dX12_text_25 ?_
    refine wk_topP (P := fun r => r = v 0 15) rfl (fun r24935 hr24935 => ?_)
    subst hAe
    exact W.iret (v := r24935) hx hb hr (fun t ht hW => ⟨⟨_, (l_m, l_z, (0 : Int32), r24924, r24925, r24926, f24921, v), rfl, ⟨hV, (rg_any r24935), p_m, (by decide : Rg 0 0 (0 : Int32)), hr24923.2.2.1, hr24920.2.1, (show l_m.toInt = l_m.toInt ∧ l_z.toInt = l_z.toInt ∧ (f24921 0).toInt = (l_kp 0).toInt ∧ (f24921 1).toInt = (l_kp 1).toInt ∧ (0 : Int32).toInt = 0 from by have y90 : ¬ r24923.toInt = (0 : Int32).toInt := fun z => c24927 (Int32.toInt_inj.mp z); have y91 : Rg 1 1 r24923 := g24934; have y92 : Rg 1 1 r24923 := g24934; have y93 : Rg 0 12 l_m := p_m; have y94 : Rg 0 120 r24924 := hr24923.2.2.1; have y9c5 : (0 : Int32).toInt = 0 := (by decide); have y9c6 : (1 : Int32).toInt = 1 := (by decide); omega)⟩, by rw [ht]; exact hP, hD⟩, hS.F ht⟩) hS.2.2 dX12_text_28
set_option maxRecDepth 20000 in
theorem ggX12_goes_X12_has : GoodIn wsX12_goes wsX12_has := goodIn_r _ [8] rfl (by decide +kernel)
set_option maxRecDepth 20000 in
theorem gX12_goes_X12_has : GoodIn wsX12_goes (va_wsS RX12 59 yX12_has wsX12_has) := goodIn_app (goodIn_of _ (by decide +kernel)) ggX12_goes_X12_has
set_option maxRecDepth 20000 in
theorem ggX12_goes_X12_goes : GoodIn wsX12_goes wsX12_goes := goodIn_r _ [0, 1, 2, 3, 4, 5, 6, 7, 8, 9, 10, 11, 12, 13, 14, 15, 16, 17, 18, 19, 20, 21, 22, 23, 24, 25, 26, 27, 28, 29, 30, 31, 32, 33, 34, 35] rfl (by decide +kernel)
set_option maxRecDepth 20000 in
theorem gX12_goes_X12_goes : GoodIn wsX12_goes (wsV RX12 163 RX12 yX12_goes wsX12_goes) := goodIn_app (goodIn_of _ (by decide +kernel)) ggX12_goes_X12_goes
theorem dX12_goes_0 : decode cX12_goes 0 = .ok (.aload_n 0, 1) := by decide +kernel
theorem dX12_goes_1 : decode cX12_goes 1 = .ok (.getfield 29, 3) := by decide +kernel
theorem dX12_goes_11 : decode cX12_goes 11 = .ok (.iload 5, 2) := by decide +kernel
theorem dX12_goes_13 : decode cX12_goes 13 = .ok (.aload_n 0, 1) := by decide +kernel
theorem dX12_goes_14 : decode cX12_goes 14 = .ok (.getfield 63, 3) := by decide +kernel
theorem dX12_goes_153 : decode cX12_goes 153 = .ok (.iinc 5 1, 3) := by decide +kernel
theorem dX12_goes_156 : decode cX12_goes 156 = .ok (.goto (-145), 3) := by decide +kernel
theorem dX12_goes_159 : decode cX12_goes 159 = .ok (.iconst 0, 1) := by decide +kernel
theorem dX12_goes_160 : decode cX12_goes 160 = .ok (.ireturn, 1) := by decide +kernel
theorem dX12_goes_17 : decode cX12_goes 17 = .ok (.if_icmp .ge 142, 3) := by decide +kernel
theorem dX12_goes_20 : decode cX12_goes 20 = .ok (.aload_n 0, 1) := by decide +kernel
theorem dX12_goes_21 : decode cX12_goes 21 = .ok (.getfield 13, 3) := by decide +kernel
theorem dX12_goes_24 : decode cX12_goes 24 = .ok (.iload 4, 2) := by decide +kernel
theorem dX12_goes_26 : decode cX12_goes 26 = .ok (.iaload, 1) := by decide +kernel
theorem dX12_goes_27 : decode cX12_goes 27 = .ok (.iload_n 2, 1) := by decide +kernel
theorem dX12_goes_28 : decode cX12_goes 28 = .ok (.iconst (-1), 1) := by decide +kernel
theorem dX12_goes_29 : decode cX12_goes 29 = .ok (.ixor, 1) := by decide +kernel
theorem dX12_goes_30 : decode cX12_goes 30 = .ok (.iand, 1) := by decide +kernel
theorem dX12_goes_31 : decode cX12_goes 31 = .ok (.iload 5, 2) := by decide +kernel
theorem dX12_goes_33 : decode cX12_goes 33 = .ok (.invokestatic 59, 3) := by decide +kernel
theorem dX12_goes_36 : decode cX12_goes 36 = .ok (.ifCond .eq 117, 3) := by decide +kernel
theorem dX12_goes_39 : decode cX12_goes 39 = .ok (.aload_n 0, 1) := by decide +kernel
theorem dX12_goes_4 : decode cX12_goes 4 = .ok (.iload_n 1, 1) := by decide +kernel
theorem dX12_goes_40 : decode cX12_goes 40 = .ok (.getfield 26, 3) := by decide +kernel
theorem dX12_goes_43 : decode cX12_goes 43 = .ok (.iload 4, 2) := by decide +kernel
theorem dX12_goes_45 : decode cX12_goes 45 = .ok (.iaload, 1) := by decide +kernel
theorem dX12_goes_46 : decode cX12_goes 46 = .ok (.iload 5, 2) := by decide +kernel
theorem dX12_goes_48 : decode cX12_goes 48 = .ok (.if_icmp .ne 6, 3) := by decide +kernel
theorem dX12_goes_5 : decode cX12_goes 5 = .ok (.iaload, 1) := by decide +kernel
theorem dX12_goes_51 : decode cX12_goes 51 = .ok (.goto 102, 3) := by decide +kernel
theorem dX12_goes_54 : decode cX12_goes 54 = .ok (.aload_n 0, 1) := by decide +kernel
theorem dX12_goes_55 : decode cX12_goes 55 = .ok (.getfield 29, 3) := by decide +kernel
theorem dX12_goes_58 : decode cX12_goes 58 = .ok (.iload_n 1, 1) := by decide +kernel
theorem dX12_goes_59 : decode cX12_goes 59 = .ok (.iconst 1, 1) := by decide +kernel
theorem dX12_goes_6 : decode cX12_goes 6 = .ok (.istore 4, 2) := by decide +kernel
theorem dX12_goes_60 : decode cX12_goes 60 = .ok (.iadd, 1) := by decide +kernel
theorem dX12_goes_61 : decode cX12_goes 61 = .ok (.iload 5, 2) := by decide +kernel
theorem dX12_goes_63 : decode cX12_goes 63 = .ok (.iastore, 1) := by decide +kernel
theorem dX12_goes_64 : decode cX12_goes 64 = .ok (.iload_n 1, 1) := by decide +kernel
theorem dX12_goes_65 : decode cX12_goes 65 = .ok (.iconst 2, 1) := by decide +kernel
theorem dX12_goes_66 : decode cX12_goes 66 = .ok (.iadd, 1) := by decide +kernel
theorem dX12_goes_67 : decode cX12_goes 67 = .ok (.iload_n 3, 1) := by decide +kernel
theorem dX12_goes_68 : decode cX12_goes 68 = .ok (.if_icmp .ne 16, 3) := by decide +kernel
theorem dX12_goes_71 : decode cX12_goes 71 = .ok (.aload_n 0, 1) := by decide +kernel
theorem dX12_goes_72 : decode cX12_goes 72 = .ok (.getfield 26, 3) := by decide +kernel
theorem dX12_goes_75 : decode cX12_goes 75 = .ok (.iload 5, 2) := by decide +kernel
theorem dX12_goes_77 : decode cX12_goes 77 = .ok (.iaload, 1) := by decide +kernel
theorem dX12_goes_78 : decode cX12_goes 78 = .ok (.iconst (-1), 1) := by decide +kernel
theorem dX12_goes_79 : decode cX12_goes 79 = .ok (.if_icmp .ne 74, 3) := by decide +kernel
theorem dX12_goes_8 : decode cX12_goes 8 = .ok (.iconst 0, 1) := by decide +kernel
theorem dX12_goes_82 : decode cX12_goes 82 = .ok (.iconst 1, 1) := by decide +kernel
theorem dX12_goes_83 : decode cX12_goes 83 = .ok (.ireturn, 1) := by decide +kernel
theorem dX12_goes_84 : decode cX12_goes 84 = .ok (.aload_n 0, 1) := by decide +kernel
theorem dX12_goes_9 : decode cX12_goes 9 = .ok (.istore 5, 2) := by decide +kernel
theorem dX12_goes_100 : decode cX12_goes 100 = .ok (.iload 5, 2) := by decide +kernel
theorem dX12_goes_102 : decode cX12_goes 102 = .ok (.iaload, 1) := by decide +kernel
theorem dX12_goes_103 : decode cX12_goes 103 = .ok (.invokestatic 59, 3) := by decide +kernel
theorem dX12_goes_106 : decode cX12_goes 106 = .ok (.ifCond .ne 47, 3) := by decide +kernel
theorem dX12_goes_109 : decode cX12_goes 109 = .ok (.aload_n 0, 1) := by decide +kernel
theorem dX12_goes_110 : decode cX12_goes 110 = .ok (.getfield 29, 3) := by decide +kernel
theorem dX12_goes_113 : decode cX12_goes 113 = .ok (.iload_n 1, 1) := by decide +kernel
theorem dX12_goes_114 : decode cX12_goes 114 = .ok (.iconst 2, 1) := by decide +kernel
theorem dX12_goes_115 : decode cX12_goes 115 = .ok (.iadd, 1) := by decide +kernel
theorem dX12_goes_116 : decode cX12_goes 116 = .ok (.aload_n 0, 1) := by decide +kernel
theorem dX12_goes_117 : decode cX12_goes 117 = .ok (.getfield 26, 3) := by decide +kernel
theorem dX12_goes_120 : decode cX12_goes 120 = .ok (.iload 5, 2) := by decide +kernel
theorem dX12_goes_122 : decode cX12_goes 122 = .ok (.iaload, 1) := by decide +kernel
theorem dX12_goes_123 : decode cX12_goes 123 = .ok (.iastore, 1) := by decide +kernel
theorem dX12_goes_124 : decode cX12_goes 124 = .ok (.aload_n 0, 1) := by decide +kernel
theorem dX12_goes_125 : decode cX12_goes 125 = .ok (.iload_n 1, 1) := by decide +kernel
theorem dX12_goes_126 : decode cX12_goes 126 = .ok (.iconst 2, 1) := by decide +kernel
theorem dX12_goes_127 : decode cX12_goes 127 = .ok (.iadd, 1) := by decide +kernel
theorem dX12_goes_128 : decode cX12_goes 128 = .ok (.iload_n 2, 1) := by decide +kernel
theorem dX12_goes_129 : decode cX12_goes 129 = .ok (.iconst 1, 1) := by decide +kernel
theorem dX12_goes_130 : decode cX12_goes 130 = .ok (.iload 5, 2) := by decide +kernel
theorem dX12_goes_132 : decode cX12_goes 132 = .ok (.ishl, 1) := by decide +kernel
theorem dX12_goes_133 : decode cX12_goes 133 = .ok (.ior, 1) := by decide +kernel
theorem dX12_goes_134 : decode cX12_goes 134 = .ok (.iconst 1, 1) := by decide +kernel
theorem dX12_goes_135 : decode cX12_goes 135 = .ok (.aload_n 0, 1) := by decide +kernel
theorem dX12_goes_136 : decode cX12_goes 136 = .ok (.getfield 26, 3) := by decide +kernel
theorem dX12_goes_139 : decode cX12_goes 139 = .ok (.iload 5, 2) := by decide +kernel
theorem dX12_goes_141 : decode cX12_goes 141 = .ok (.iaload, 1) := by decide +kernel
theorem dX12_goes_142 : decode cX12_goes 142 = .ok (.ishl, 1) := by decide +kernel
theorem dX12_goes_143 : decode cX12_goes 143 = .ok (.ior, 1) := by decide +kernel
theorem dX12_goes_144 : decode cX12_goes 144 = .ok (.iload_n 3, 1) := by decide +kernel
theorem dX12_goes_145 : decode cX12_goes 145 = .ok (.invokevirtual 163, 3) := by decide +kernel
theorem dX12_goes_148 : decode cX12_goes 148 = .ok (.ifCond .eq 5, 3) := by decide +kernel
theorem dX12_goes_151 : decode cX12_goes 151 = .ok (.iconst 1, 1) := by decide +kernel
theorem dX12_goes_152 : decode cX12_goes 152 = .ok (.ireturn, 1) := by decide +kernel
theorem dX12_goes_85 : decode cX12_goes 85 = .ok (.getfield 26, 3) := by decide +kernel
theorem dX12_goes_88 : decode cX12_goes 88 = .ok (.iload 5, 2) := by decide +kernel
theorem dX12_goes_90 : decode cX12_goes 90 = .ok (.iaload, 1) := by decide +kernel
theorem dX12_goes_91 : decode cX12_goes 91 = .ok (.iconst (-1), 1) := by decide +kernel
theorem dX12_goes_92 : decode cX12_goes 92 = .ok (.if_icmp .eq 61, 3) := by decide +kernel
theorem dX12_goes_95 : decode cX12_goes 95 = .ok (.iload_n 2, 1) := by decide +kernel
theorem dX12_goes_96 : decode cX12_goes 96 = .ok (.aload_n 0, 1) := by decide +kernel
theorem dX12_goes_97 : decode cX12_goes 97 = .ok (.getfield 26, 3) := by decide +kernel
set_option maxHeartbeats 8000000 in
set_option maxRecDepth 100000 in
theorem w_X12_goes_r (l : Launch) (D : va_G) (cI cS : ClassId) (b : Nat → Nat) (L : SU) (hL : TyL L) : ∀ (n sz : Nat) (v0 : SU) (hV : TyV v0) (x0 x1 x2 : Int32), Rg 0 10 x0 → Rg 2 12 x2 → (x2.toInt - x0.toInt) % 2 = 0 → x0.toInt + 2 ≤ x2.toInt → x2.toInt - x0.toInt ≤ 2 * (n : Int) + 2 → Met l yX12_goes wsX12_goes ({ frames := n + 1, cells := 0, slots := 0, locals := 40 * (n + 1) }) (PQ D cI cS (wM cI b L v0) sz [.ref (b 0), .int x0, .int x1, .int x2]) (QF (S := SU) D (wM cI b L v0) (wM cI b L) sz (fun r u => TyV u ∧ Rg 0 1 r ∧ True)) 0 0 (va_A (wM cI b L v0) sz) := by
  intro n
  induction n with
  | zero =>
    intro sz v0 hV x0 x1 x2 px0 px2 hpar hle hrk
    refine Met.ofW (cc := cX12_goes) (maxL := 6) (ret := (some .boolean)) (by decide) rfl ?_
    intro p e s m args below meth c s₁ B hml hv
    obtain ⟨rfl, hsz, hP, hKK, hD0⟩ := hv
    have hx := B.exec
    have hb := B.bytes
    have hr := B.returns
    have hts := atoms_spec (ws := wsX12_goes) B.pre
    have hown : s.vm.findClass RX12 = some m.cls := findClass_of_methodNamed B.named
    have hlocks := B.notSynchronized
    have hK := hKK.1
    have hin12 : ∀ w ∈ wsX120, w ∈ wsX12_goes := by decide +kernel
    subst hsz
    have hD := hD0.self (sz := s.heap.size)
    obtain ⟨A, hAe⟩ : ∃ A, A = va_A (wM cI b L v0) s.heap.size := ⟨_, rfl⟩
    rw [← hAe] at hD
    have hA : ∀ q : Nat, s.heap.size ≤ q → A q := fun q h => by rw [hAe]; exact Or.inr h
    have hS : va_S A s.heap s.heap [] := va_S.rf
    have hl := lv_entry ([.ref (b 0), .int x0, .int x1, .int x2]) (n := 6) (Nat.le_of_ble_eq_true rfl)
    rw [lg_entry_eq]
    generalize (lg_sl ([.ref (b 0), .int x0, .int x1, .int x2]) ++ List.replicate (6 - (lg_sl ([.ref (b 0), .int x0, .int x1, .int x2])).length) Slot.unset).toArray = ls at hl ⊢
    have hl : lv_has ls 6 [(0, .ref (b 0)), (1, .int x0), (2, .int x1), (3, .int x2)] := hl
    obtain ⟨v, hv9⟩ : ∃ v : SU, v = v0 := ⟨_, rfl⟩
    rw [← hv9] at hP hD hV
    have lp11 : ∀ (n11 : Nat) (y11_l4 : Int32) (y11_l5 : Int32) (v : SU) (H : Heap) (locs : List Loc) (ls : Array Slot), Rg 0 10 x0 → Rg 2 12 x2 → Rg 0 11 y11_l4 → Rg 0 12 y11_l5 → TyV v → va_P D cls (wM cI b L v) H → va_D A (wM cI b L v) → va_S A s.heap H locs → lv_has ls 6 [(0, .ref (b 0)), (1, .int x0), (2, .int x1), (3, .int x2), (4, .int y11_l4), (5, .int y11_l5)] → 12 - y11_l5.toInt < (n11 : Int) → W p l e (headSpec wsX12_goes ({ frames := 0 + 1, cells := 0, slots := 0, locals := 40 * (0 + 1) })).room s m ([.ref (b 0), .int x0, .int x1, .int x2]).toArray below meth c H locs 0 0 (MQ below (QF (S := SU) D (wM cI b L v0) (wM cI b L) s.heap.size (fun r u => TyV u ∧ Rg 0 1 r ∧ True)) ([.ref (b 0), .int x0, .int x1, .int x2]).toArray s 0 0 (va_A (wM cI b L v0) s.heap.size)) (F0 m 11 ls []) := by
      intro n11
      induction n11 with
      | zero =>
        intro y11_l4 y11_l5 v H locs ls g11_l1 g11_l3 g11_l4 g11_l5 hV hP hD hS hl hm11
        exact absurd rfl (me_z g11_l5 hm11)
      | succ n11 ih11 =>
        intro y11_l4 y11_l5 v H locs ls g11_l1 g11_l3 g11_l4 g11_l5 hV hP hD hS hl hm11
        refine lv_iload hx hb dX12_goes_11 (lv_at hl 5 rfl) ?_
        refine lv_aload_n hx hb dX12_goes_13 rfl (lv_at hl 0 rfl) ?_
        refine va_get (D := D) (ci := 12) (v := .int (L 0 0)) (C := RX12) (T := TX12) (N := 24) hx hb hts hin12 hown hK hP 0 rfl rfl 0 (by decide) (hts (.fieldLink RX12 63 "MissedPointsModel" "many" "I") (by decide +kernel)) (fun _ h9 => h9) rfl dX12_goes_14 ?_
        refine lv_icmp_ge (tgt := 159) hx hb dX12_goes_17 (by decide) (fun c25147 => ?_) (fun c25147 => ?_)
        · refine lv_iconst (v := 0) hx hb dX12_goes_159 (by decide) ?_
          subst hAe
          exact W.zret (v := 0) hx hb hr (by decide) (fun t ht hW => ⟨⟨_, v, rfl, ⟨hV, (by decide : Rg 0 1 (0 : Int32)), trivial⟩, by rw [ht]; exact hP, hD⟩, hS.F ht⟩) hS.2.2 dX12_goes_160
        · have g25148 : Rg 1 12 (L 0 0) := rg_ltr g11_l5 hL.1 (rg_nle c25147) (by decide)
          have g25149 : Rg 0 11 y11_l5 := rg_ltl g11_l5 hL.1 (rg_nle c25147) (by decide)
          refine lv_aload_n hx hb dX12_goes_20 rfl (lv_at hl 0 rfl) ?_
          refine va_get (D := D) (ci := 12) (v := .ref (b 1)) (C := RX12) (T := TX12) (N := 24) hx hb hts hin12 hown hK hP 0 rfl rfl 2 (by decide) (hts (.fieldLink RX12 13 "MissedPointsModel" "near" "[I") (by decide +kernel)) (fun _ h9 => h9) rfl dX12_goes_21 ?_
          refine lv_iload hx hb dX12_goes_24 (lv_at hl 4 rfl) ?_
          refine wk_ald hx hb hK hP 1 0 rfl rfl (rg_in g11_l4 (by decide) (by decide)) dX12_goes_26 hV.1 (fun r25150 hr25150 => ?_)
          refine lv_iload_n hx hb dX12_goes_27 rfl (lv_at hl 2 rfl) ?_
          refine lv_iconst (v := (-1)) hx hb dX12_goes_28 (by decide) ?_
          refine lv_ixor hx hb dX12_goes_29 ?_
          refine wk_topP (P := fun r => r = x1 ^^^ ((-1) : Int32)) rfl (fun r25151 qr25151 => ?_)
          refine wk_iandl hx hb dX12_goes_30 hr25150 (by decide) (fun r25152 hr25152 qr25152 => ?_)
          refine lv_iload hx hb dX12_goes_31 (lv_at hl 5 rfl) ?_
          refine lz_ss (As := [.int r25152, .int y11_l5]) (rest := []) ⟨hx, hb, hml, hown, hts⟩ (w_X12_has l D cI cS r25152 y11_l5) hKK (hP.sub (ws' := []) [] rfl) (va_cwS 2 hts gX12_goes_X12_has rfl rfl rfl (by decide +kernel) ⟨by show 0 + 1 ≤ 0 + 1; omega, by show 8 + (2 + 11) + 0 ≤ 40 * (0 + 1); omega⟩) rfl hl.1 rfl (Nat.le_of_ble_eq_true rfl) dX12_goes_33 ⟨Nat.le_of_ble_eq_true rfl, Nat.le_of_ble_eq_true rfl⟩ (fun r25153 hr25153 => ?_)
          refine lv_if_eq (tgt := 153) hx hb dX12_goes_36 (by decide) (fun c25154 => ?_) (fun c25154 => ?_)
          · have g25155 : Rg 0 0 r25153 := wk_eql hr25153.1 (by decide : Rg 0 0 (0 : Int32)) c25154 (by decide)
            refine wk_iinc (lv' := fun r => [(5, .int r), (0, .ref (b 0)), (1, .int x0), (2, .int x1), (3, .int x2), (4, .int y11_l4)]) (e1 := 1) (f := 12) hx hb dX12_goes_153 hl (k := 5) rfl (by decide) g25149 (by decide) (fun _ => rfl) (fun r25156 ls hr25156 er25156 hl => ?_)
            refine lv_goto (tgt := 11) hx hb dX12_goes_156 (by decide) ?_
            exact ih11 y11_l4 r25156 v _ _ ls g11_l1 g11_l3 g11_l4 (show Rg 0 12 r25156 from rg_w hr25156 (by decide) (by decide)) hV hP hD hS (lv_sub (l' := [(0, .ref (b 0)), (1, .int x0), (2, .int x1), (3, .int x2), (4, .int y11_l4), (5, .int r25156)]) hl [1, 2, 3, 4, 5, 0] rfl) (me_up hm11 er25156 (by decide))
          · have g25157 : Rg 1 1 r25153 := rg_ne_lo (k := 0) hr25153.1 (by decide) c25154 (by decide)
            refine lv_aload_n hx hb dX12_goes_39 rfl (lv_at hl 0 rfl) ?_
            refine va_get (D := D) (ci := 12) (v := .ref (b 5)) (C := RX12) (T := TX12) (N := 24) hx hb hts hin12 hown hK hP 0 rfl rfl 6 (by decide) (hts (.fieldLink RX12 26 "MissedPointsModel" "mates" "[I") (by decide +kernel)) (fun _ h9 => h9) rfl dX12_goes_40 ?_
            refine lv_iload hx hb dX12_goes_43 (lv_at hl 4 rfl) ?_
            refine va_iald hx hb hK hP 5 0 rfl rfl (rg_in g11_l4 (by decide) (by decide)) dX12_goes_45 ?_
            refine lz_top (y := (v 5 y11_l4.toNatClampNeg)) rfl ?_
            refine lv_iload hx hb dX12_goes_46 (lv_at hl 5 rfl) ?_
            refine lv_icmp_ne (tgt := 54) hx hb dX12_goes_48 (by decide) (fun c25159 => ?_) (fun c25159 => ?_)
            · refine lv_aload_n hx hb dX12_goes_54 rfl (lv_at hl 0 rfl) ?_
              refine va_get (D := D) (ci := 12) (v := .ref (b 6)) (C := RX12) (T := TX12) (N := 24) hx hb hts hin12 hown hK hP 0 rfl rfl 7 (by decide) (hts (.fieldLink RX12 29 "MissedPointsModel" "way" "[I") (by decide +kernel)) (fun _ h9 => h9) rfl dX12_goes_55 ?_
              refine lv_iload_n hx hb dX12_goes_58 rfl (lv_at hl 1 rfl) ?_
              refine lv_iconst (v := 1) hx hb dX12_goes_59 (by decide) ?_
              refine wk_iadd (e1 := 1) (f := 11) hx hb dX12_goes_60 g11_l1 (by decide : Rg 1 1 (1 : Int32)) (by decide) (fun r25160 hr25160 er25160 qr25160 => ?_)
              refine lv_iload hx hb dX12_goes_61 (lv_at hl 5 rfl) ?_
              refine ms_6 hx hb hK hP hD hS hV rfl (rg_in hr25160 (by decide) (by decide)) g25149 dX12_goes_63 (fun v H locs hV ev25161 hP hD hS => ?_)
              refine lv_iload_n hx hb dX12_goes_64 rfl (lv_at hl 1 rfl) ?_
              refine lv_iconst (v := 2) hx hb dX12_goes_65 (by decide) ?_
              refine wk_iadd (e1 := 2) (f := 12) hx hb dX12_goes_66 g11_l1 (by decide : Rg 2 2 (2 : Int32)) (by decide) (fun r25162 hr25162 er25162 qr25162 => ?_)
              refine lv_iload_n hx hb dX12_goes_67 rfl (lv_at hl 3 rfl) ?_
              refine lv_icmp_ne (tgt := 84) hx hb dX12_goes_68 (by decide) (fun c25163 => ?_) (fun c25163 => ?_)
              · exact False.elim (by have y90 : y11_l5.toInt < (L 0 0).toInt := (lz_lt _ _).mp (rg_nle c25147); have y91 : ¬ r25153.toInt = (0 : Int32).toInt := fun z => c25154 (Int32.toInt_inj.mp z); have y92 : ¬ r25162.toInt = x2.toInt := fun z => c25163 (Int32.toInt_inj.mp z); have y93 : Rg 1 12 (L 0 0) := g25148; have y94 : Rg 0 11 y11_l5 := g25149; have y95 : Rg 1 1 r25153 := g25157; have y96 : Rg 0 10 x0 := g11_l1; have y97 : Rg 2 12 x2 := g11_l3; have y98 : Rg 0 11 y11_l4 := g11_l4; have y99 : Rg 0 11 y11_l5 := g25149; have y9c10 : (0 : Int32).toInt = 0 := (by decide); have y9c11 : (1 : Int32).toInt = 1 := (by decide); have y9c12 : (2 : Int32).toInt = 2 := (by decide); omega)
              · refine lv_aload_n hx hb dX12_goes_71 rfl (lv_at hl 0 rfl) ?_
                refine va_get (D := D) (ci := 12) (v := .ref (b 5)) (C := RX12) (T := TX12) (N := 24) hx hb hts hin12 hown hK hP 0 rfl rfl 6 (by decide) (hts (.fieldLink RX12 26 "MissedPointsModel" "mates" "[I") (by decide +kernel)) (fun _ h9 => h9) rfl dX12_goes_72 ?_
                refine lv_iload hx hb dX12_goes_75 (lv_at hl 5 rfl) ?_
                refine va_iald hx hb hK hP 5 0 rfl rfl (rg_in g25149 (by decide) (by decide)) dX12_goes_77 ?_
                refine lz_top (y := (v 5 y11_l5.toNatClampNeg)) rfl ?_
                refine lv_iconst (v := (-1)) hx hb dX12_goes_78 (by decide) ?_
                refine lv_icmp_ne (tgt := 153) hx hb dX12_goes_79 (by decide) (fun c25165 => ?_) (fun c25165 => ?_)
                · have g25166 : Rg 0 11 (v 5 y11_l5.toNatClampNeg) := rg_ne_lo (k := (-1)) (hV.2.2.1 y11_l5.toNatClampNeg) (by decide) c25165 (by decide)
                  refine wk_iinc (lv' := fun r => [(5, .int r), (0, .ref (b 0)), (1, .int x0), (2, .int x1), (3, .int x2), (4, .int y11_l4)]) (e1 := 1) (f := 12) hx hb dX12_goes_153 hl (k := 5) rfl (by decide) g25149 (by decide) (fun _ => rfl) (fun r25167 ls hr25167 er25167 hl => ?_)
                  refine lv_goto (tgt := 11) hx hb dX12_goes_156 (by decide) ?_
                  exact ih11 y11_l4 r25167 v _ _ ls g11_l1 g11_l3 g11_l4 (show Rg 0 12 r25167 from rg_w hr25167 (by decide) (by decide)) hV hP hD hS (lv_sub (l' := [(0, .ref (b 0)), (1, .int x0), (2, .int x1), (3, .int x2), (4, .int y11_l4), (5, .int r25167)]) hl [1, 2, 3, 4, 5, 0] rfl) (me_up hm11 er25167 (by decide))
                · have g25168 : Rg (-1) (-1) (v 5 y11_l5.toNatClampNeg) := wk_eql (hV.2.2.1 y11_l5.toNatClampNeg) (by decide : Rg (-1) (-1) ((-1) : Int32)) c25165 (by decide)
                  refine lv_iconst (v := 1) hx hb dX12_goes_82 (by decide) ?_
                  subst hAe
                  exact W.zret (v := 1) hx hb hr (by decide) (fun t ht hW => ⟨⟨_, v, rfl, ⟨hV, (by decide : Rg 0 1 (1 : Int32)), trivial⟩, by rw [ht]; exact hP, hD⟩, hS.F ht⟩) hS.2.2 dX12_goes_83
            · have g25169 : Rg 0 11 (v 5 y11_l4.toNatClampNeg) := wk_eql (hV.2.2.1 y11_l4.toNatClampNeg) g25149 c25159 (by decide)
              refine lv_goto (tgt := 153) hx hb dX12_goes_51 (by decide) ?_
              refine wk_iinc (lv' := fun r => [(5, .int r), (0, .ref (b 0)), (1, .int x0), (2, .int x1), (3, .int x2), (4, .int y11_l4)]) (e1 := 1) (f := 12) hx hb dX12_goes_153 hl (k := 5) rfl (by decide) g25149 (by decide) (fun _ => rfl) (fun r25170 ls hr25170 er25170 hl => ?_)
              refine lv_goto (tgt := 11) hx hb dX12_goes_156 (by decide) ?_
              exact ih11 y11_l4 r25170 v _ _ ls g11_l1 g11_l3 g11_l4 (show Rg 0 12 r25170 from rg_w hr25170 (by decide) (by decide)) hV hP hD hS (lv_sub (l' := [(0, .ref (b 0)), (1, .int x0), (2, .int x1), (3, .int x2), (4, .int y11_l4), (5, .int r25170)]) hl [1, 2, 3, 4, 5, 0] rfl) (me_up hm11 er25170 (by decide))
    refine lv_aload_n hx hb dX12_goes_0 rfl (lv_at hl 0 rfl) ?_
    refine va_get (D := D) (ci := 12) (v := .ref (b 6)) (C := RX12) (T := TX12) (N := 24) hx hb hts hin12 hown hK hP 0 rfl rfl 7 (by decide) (hts (.fieldLink RX12 29 "MissedPointsModel" "way" "[I") (by decide +kernel)) (fun _ h9 => h9) rfl dX12_goes_1 ?_
    refine lv_iload_n hx hb dX12_goes_4 rfl (lv_at hl 1 rfl) ?_
    refine wk_ald hx hb hK hP 6 0 rfl rfl (rg_in px0 (by decide) (by decide)) dX12_goes_5 hV.2.2.2.1 (fun r25171 hr25171 => ?_)
    refine lv_istore (lv' := [(4, .int r25171), (0, .ref (b 0)), (1, .int x0), (2, .int x1), (3, .int x2)]) hx hb dX12_goes_6 hl (by decide) rfl (fun ls hl => ?_)
    refine lv_iconst (v := 0) hx hb dX12_goes_8 (by decide) ?_
    refine lv_istore (lv' := [(5, .int 0), (4, .int r25171), (0, .ref (b 0)), (1, .int x0), (2, .int x1), (3, .int x2)]) hx hb dX12_goes_9 hl (by decide) rfl (fun ls hl => ?_)
    exact lp11 13 r25171 (0 : Int32) v _ _ ls px0 px2 hr25171 (by decide : Rg 0 12 (0 : Int32)) hV hP hD hS (lv_sub (l' := [(0, .ref (b 0)), (1, .int x0), (2, .int x1), (3, .int x2), (4, .int r25171), (5, .int 0)]) hl [2, 3, 4, 5, 1, 0] rfl) (me_i (by decide : Rg 0 12 (0 : Int32)) (by decide))
  | succ n ih =>
    intro sz v0 hV x0 x1 x2 px0 px2 hpar hle hrk
    refine Met.ofW (cc := cX12_goes) (maxL := 6) (ret := (some .boolean)) (by decide) rfl ?_
    intro p e s m args below meth c s₁ B hml hv
    obtain ⟨rfl, hsz, hP, hKK, hD0⟩ := hv
    have hx := B.exec
    have hb := B.bytes
    have hr := B.returns
    have hts := atoms_spec (ws := wsX12_goes) B.pre
    have hown : s.vm.findClass RX12 = some m.cls := findClass_of_methodNamed B.named
    have hlocks := B.notSynchronized
    have hK := hKK.1
    have hin12 : ∀ w ∈ wsX120, w ∈ wsX12_goes := by decide +kernel
    subst hsz
    have hD := hD0.self (sz := s.heap.size)
    obtain ⟨A, hAe⟩ : ∃ A, A = va_A (wM cI b L v0) s.heap.size := ⟨_, rfl⟩
    rw [← hAe] at hD
    have hA : ∀ q : Nat, s.heap.size ≤ q → A q := fun q h => by rw [hAe]; exact Or.inr h
    have hS : va_S A s.heap s.heap [] := va_S.rf
    have hl := lv_entry ([.ref (b 0), .int x0, .int x1, .int x2]) (n := 6) (Nat.le_of_ble_eq_true rfl)
    rw [lg_entry_eq]
    generalize (lg_sl ([.ref (b 0), .int x0, .int x1, .int x2]) ++ List.replicate (6 - (lg_sl ([.ref (b 0), .int x0, .int x1, .int x2])).length) Slot.unset).toArray = ls at hl ⊢
    have hl : lv_has ls 6 [(0, .ref (b 0)), (1, .int x0), (2, .int x1), (3, .int x2)] := hl
    obtain ⟨v, hv9⟩ : ∃ v : SU, v = v0 := ⟨_, rfl⟩
    rw [← hv9] at hP hD hV
    have lp11 : ∀ (n11 : Nat) (y11_l4 : Int32) (y11_l5 : Int32) (v : SU) (H : Heap) (locs : List Loc) (ls : Array Slot), Rg 0 10 x0 → Rg 2 12 x2 → Rg 0 11 y11_l4 → Rg 0 12 y11_l5 → TyV v → va_P D cls (wM cI b L v) H → va_D A (wM cI b L v) → va_S A s.heap H locs → lv_has ls 6 [(0, .ref (b 0)), (1, .int x0), (2, .int x1), (3, .int x2), (4, .int y11_l4), (5, .int y11_l5)] → 12 - y11_l5.toInt < (n11 : Int) → W p l e (headSpec wsX12_goes ({ frames := n + 1 + 1, cells := 0, slots := 0, locals := 40 * (n + 1 + 1) })).room s m ([.ref (b 0), .int x0, .int x1, .int x2]).toArray below meth c H locs 0 0 (MQ below (QF (S := SU) D (wM cI b L v0) (wM cI b L) s.heap.size (fun r u => TyV u ∧ Rg 0 1 r ∧ True)) ([.ref (b 0), .int x0, .int x1, .int x2]).toArray s 0 0 (va_A (wM cI b L v0) s.heap.size)) (F0 m 11 ls []) := by
      intro n11
      induction n11 with
      | zero =>
        intro y11_l4 y11_l5 v H locs ls g11_l1 g11_l3 g11_l4 g11_l5 hV hP hD hS hl hm11
        exact absurd rfl (me_z g11_l5 hm11)
      | succ n11 ih11 =>
        intro y11_l4 y11_l5 v H locs ls g11_l1 g11_l3 g11_l4 g11_l5 hV hP hD hS hl hm11
        refine lv_iload hx hb dX12_goes_11 (lv_at hl 5 rfl) ?_
        refine lv_aload_n hx hb dX12_goes_13 rfl (lv_at hl 0 rfl) ?_
        refine va_get (D := D) (ci := 12) (v := .int (L 0 0)) (C := RX12) (T := TX12) (N := 24) hx hb hts hin12 hown hK hP 0 rfl rfl 0 (by decide) (hts (.fieldLink RX12 63 "MissedPointsModel" "many" "I") (by decide +kernel)) (fun _ h9 => h9) rfl dX12_goes_14 ?_
        refine lv_icmp_ge (tgt := 159) hx hb dX12_goes_17 (by decide) (fun c25599 => ?_) (fun c25599 => ?_)
        · refine lv_iconst (v := 0) hx hb dX12_goes_159 (by decide) ?_
          subst hAe
          exact W.zret (v := 0) hx hb hr (by decide) (fun t ht hW => ⟨⟨_, v, rfl, ⟨hV, (by decide : Rg 0 1 (0 : Int32)), trivial⟩, by rw [ht]; exact hP, hD⟩, hS.F ht⟩) hS.2.2 dX12_goes_160
        · have g25600 : Rg 1 12 (L 0 0) := rg_ltr g11_l5 hL.1 (rg_nle c25599) (by decide)
          have g25601 : Rg 0 11 y11_l5 := rg_ltl g11_l5 hL.1 (rg_nle c25599) (by decide)
          refine lv_aload_n hx hb dX12_goes_20 rfl (lv_at hl 0 rfl) ?_
          refine va_get (D := D) (ci := 12) (v := .ref (b 1)) (C := RX12) (T := TX12) (N := 24) hx hb hts hin12 hown hK hP 0 rfl rfl 2 (by decide) (hts (.fieldLink RX12 13 "MissedPointsModel" "near" "[I") (by decide +kernel)) (fun _ h9 => h9) rfl dX12_goes_21 ?_
          refine lv_iload hx hb dX12_goes_24 (lv_at hl 4 rfl) ?_
          refine wk_ald hx hb hK hP 1 0 rfl rfl (rg_in g11_l4 (by decide) (by decide)) dX12_goes_26 hV.1 (fun r25602 hr25602 => ?_)
          refine lv_iload_n hx hb dX12_goes_27 rfl (lv_at hl 2 rfl) ?_
          refine lv_iconst (v := (-1)) hx hb dX12_goes_28 (by decide) ?_
          refine lv_ixor hx hb dX12_goes_29 ?_
          refine wk_topP (P := fun r => r = x1 ^^^ ((-1) : Int32)) rfl (fun r25603 qr25603 => ?_)
          refine wk_iandl hx hb dX12_goes_30 hr25602 (by decide) (fun r25604 hr25604 qr25604 => ?_)
          refine lv_iload hx hb dX12_goes_31 (lv_at hl 5 rfl) ?_
          refine lz_ss (As := [.int r25604, .int y11_l5]) (rest := []) ⟨hx, hb, hml, hown, hts⟩ (w_X12_has l D cI cS r25604 y11_l5) hKK (hP.sub (ws' := []) [] rfl) (va_cwS 2 hts gX12_goes_X12_has rfl rfl rfl (by decide +kernel) ⟨by show 0 + 1 ≤ n + 1 + 1; omega, by show 8 + (2 + 11) + 0 ≤ 40 * (n + 1 + 1); omega⟩) rfl hl.1 rfl (Nat.le_of_ble_eq_true rfl) dX12_goes_33 ⟨Nat.le_of_ble_eq_true rfl, Nat.le_of_ble_eq_true rfl⟩ (fun r25605 hr25605 => ?_)
          refine lv_if_eq (tgt := 153) hx hb dX12_goes_36 (by decide) (fun c25606 => ?_) (fun c25606 => ?_)
          · have g25607 : Rg 0 0 r25605 := wk_eql hr25605.1 (by decide : Rg 0 0 (0 : Int32)) c25606 (by decide)
            refine wk_iinc (lv' := fun r => [(5, .int r), (0, .ref (b 0)), (1, .int x0), (2, .int x1), (3, .int x2), (4, .int y11_l4)]) (e1 := 1) (f := 12) hx hb dX12_goes_153 hl (k := 5) rfl (by decide) g25601 (by decide) (fun _ => rfl) (fun r25608 ls hr25608 er25608 hl => ?_)
            refine lv_goto (tgt := 11) hx hb dX12_goes_156 (by decide) ?_
            exact ih11 y11_l4 r25608 v _ _ ls g11_l1 g11_l3 g11_l4 (show Rg 0 12 r25608 from rg_w hr25608 (by decide) (by decide)) hV hP hD hS (lv_sub (l' := [(0, .ref (b 0)), (1, .int x0), (2, .int x1), (3, .int x2), (4, .int y11_l4), (5, .int r25608)]) hl [1, 2, 3, 4, 5, 0] rfl) (me_up hm11 er25608 (by decide))
          · have g25609 : Rg 1 1 r25605 := rg_ne_lo (k := 0) hr25605.1 (by decide) c25606 (by decide)
            refine lv_aload_n hx hb dX12_goes_39 rfl (lv_at hl 0 rfl) ?_
            refine va_get (D := D) (ci := 12) (v := .ref (b 5)) (C := RX12) (T := TX12) (N := 24) hx hb hts hin12 hown hK hP 0 rfl rfl 6 (by decide) (hts (.fieldLink RX12 26 "MissedPointsModel" "mates" "[I") (by decide +kernel)) (fun _ h9 => h9) rfl dX12_goes_40 ?_
            refine lv_iload hx hb dX12_goes_43 (lv_at hl 4 rfl) ?_
            refine va_iald hx hb hK hP 5 0 rfl rfl (rg_in g11_l4 (by decide) (by decide)) dX12_goes_45 ?_
            refine lz_top (y := (v 5 y11_l4.toNatClampNeg)) rfl ?_
            refine lv_iload hx hb dX12_goes_46 (lv_at hl 5 rfl) ?_
            refine lv_icmp_ne (tgt := 54) hx hb dX12_goes_48 (by decide) (fun c25611 => ?_) (fun c25611 => ?_)
            · refine lv_aload_n hx hb dX12_goes_54 rfl (lv_at hl 0 rfl) ?_
              refine va_get (D := D) (ci := 12) (v := .ref (b 6)) (C := RX12) (T := TX12) (N := 24) hx hb hts hin12 hown hK hP 0 rfl rfl 7 (by decide) (hts (.fieldLink RX12 29 "MissedPointsModel" "way" "[I") (by decide +kernel)) (fun _ h9 => h9) rfl dX12_goes_55 ?_
              refine lv_iload_n hx hb dX12_goes_58 rfl (lv_at hl 1 rfl) ?_
              refine lv_iconst (v := 1) hx hb dX12_goes_59 (by decide) ?_
              refine wk_iadd (e1 := 1) (f := 11) hx hb dX12_goes_60 g11_l1 (by decide : Rg 1 1 (1 : Int32)) (by decide) (fun r25612 hr25612 er25612 qr25612 => ?_)
              refine lv_iload hx hb dX12_goes_61 (lv_at hl 5 rfl) ?_
              refine ms_6 hx hb hK hP hD hS hV rfl (rg_in hr25612 (by decide) (by decide)) g25601 dX12_goes_63 (fun v H locs hV ev25613 hP hD hS => ?_)
              refine lv_iload_n hx hb dX12_goes_64 rfl (lv_at hl 1 rfl) ?_
              refine lv_iconst (v := 2) hx hb dX12_goes_65 (by decide) ?_
              refine wk_iadd (e1 := 2) (f := 12) hx hb dX12_goes_66 g11_l1 (by decide : Rg 2 2 (2 : Int32)) (by decide) (fun r25614 hr25614 er25614 qr25614 => ?_)
              refine lv_iload_n hx hb dX12_goes_67 rfl (lv_at hl 3 rfl) ?_
              refine lv_icmp_ne (tgt := 84) hx hb dX12_goes_68 (by decide) (fun c25615 => ?_) (fun c25615 => ?_)
              · have g25616 : Rg 0 8 x0 := by have y90 : y11_l5.toInt < (L 0 0).toInt := (lz_lt _ _).mp (rg_nle c25599); have y91 : ¬ r25605.toInt = (0 : Int32).toInt := fun z => c25606 (Int32.toInt_inj.mp z); have y92 : ¬ r25614.toInt = x2.toInt := fun z => c25615 (Int32.toInt_inj.mp z); have y93 : Rg 1 12 (L 0 0) := g25600; have y94 : Rg 0 11 y11_l5 := g25601; have y95 : Rg 1 1 r25605 := g25609; have y96 : Rg 0 10 x0 := g11_l1; have y97 : Rg 2 12 x2 := g11_l3; have y98 : Rg 0 11 y11_l4 := g11_l4; have y99 : Rg 0 11 y11_l5 := g25601; have y9c10 : (0 : Int32).toInt = 0 := (by decide); have y9c11 : (1 : Int32).toInt = 1 := (by decide); have y9c12 : (2 : Int32).toInt = 2 := (by decide); exact ⟨by omega, by omega⟩
                refine lv_aload_n hx hb dX12_goes_84 rfl (lv_at hl 0 rfl) ?_
                refine va_get (D := D) (ci := 12) (v := .ref (b 5)) (C := RX12) (T := TX12) (N := 24) hx hb hts hin12 hown hK hP 0 rfl rfl 6 (by decide) (hts (.fieldLink RX12 26 "MissedPointsModel" "mates" "[I") (by decide +kernel)) (fun _ h9 => h9) rfl dX12_goes_85 ?_
                refine lv_iload hx hb dX12_goes_88 (lv_at hl 5 rfl) ?_
                refine va_iald hx hb hK hP 5 0 rfl rfl (rg_in g25601 (by decide) (by decide)) dX12_goes_90 ?_
                refine lz_top (y := (v 5 y11_l5.toNatClampNeg)) rfl ?_
                refine lv_iconst (v := (-1)) hx hb dX12_goes_91 (by decide) ?_
                refine lv_icmp_eq (tgt := 153) hx hb dX12_goes_92 (by decide) (fun c25618 => ?_) (fun c25618 => ?_)
                · have g25619 : Rg (-1) (-1) (v 5 y11_l5.toNatClampNeg) := wk_eql (hV.2.2.1 y11_l5.toNatClampNeg) (by decide : Rg (-1) (-1) ((-1) : Int32)) c25618 (by decide)
                  refine wk_iinc (lv' := fun r => [(5, .int r), (0, .ref (b 0)), (1, .int x0), (2, .int x1), (3, .int x2), (4, .int y11_l4)]) (e1 := 1) (f := 12) hx hb dX12_goes_153 hl (k := 5) rfl (by decide) g25601 (by decide) (fun _ => rfl) (fun r25620 ls hr25620 er25620 hl => ?_)
                  refine lv_goto (tgt := 11) hx hb dX12_goes_156 (by decide) ?_
                  exact ih11 y11_l4 r25620 v _ _ ls (show Rg 0 10 x0 from rg_w g25616 (by decide) (by decide)) g11_l3 g11_l4 (show Rg 0 12 r25620 from rg_w hr25620 (by decide) (by decide)) hV hP hD hS (lv_sub (l' := [(0, .ref (b 0)), (1, .int x0), (2, .int x1), (3, .int x2), (4, .int y11_l4), (5, .int r25620)]) hl [1, 2, 3, 4, 5, 0] rfl) (me_up hm11 er25620 (by decide))
                · have g25621 : Rg 0 11 (v 5 y11_l5.toNatClampNeg) := rg_ne_lo (k := (-1)) (hV.2.2.1 y11_l5.toNatClampNeg) (by decide) c25618 (by decide)
                  refine lv_iload_n hx hb dX12_goes_95 rfl (lv_at hl 2 rfl) ?_
                  refine lv_aload_n hx hb dX12_goes_96 rfl (lv_at hl 0 rfl) ?_
                  refine va_get (D := D) (ci := 12) (v := .ref (b 5)) (C := RX12) (T := TX12) (N := 24) hx hb hts hin12 hown hK hP 0 rfl rfl 6 (by decide) (hts (.fieldLink RX12 26 "MissedPointsModel" "mates" "[I") (by decide +kernel)) (fun _ h9 => h9) rfl dX12_goes_97 ?_
                  refine lv_iload hx hb dX12_goes_100 (lv_at hl 5 rfl) ?_
                  refine va_iald hx hb hK hP 5 0 rfl rfl (rg_in g25601 (by decide) (by decide)) dX12_goes_102 ?_
                  refine lz_top (y := (v 5 y11_l5.toNatClampNeg)) rfl ?_
                  refine lz_ss (As := [.int x1, .int (v 5 y11_l5.toNatClampNeg)]) (rest := []) ⟨hx, hb, hml, hown, hts⟩ (w_X12_has l D cI cS x1 (v 5 y11_l5.toNatClampNeg)) hKK (hP.sub (ws' := []) [] rfl) (va_cwS 2 hts gX12_goes_X12_has rfl rfl rfl (by decide +kernel) ⟨by show 0 + 1 ≤ n + 1 + 1; omega, by show 8 + (2 + 11) + 0 ≤ 40 * (n + 1 + 1); omega⟩) rfl hl.1 rfl (Nat.le_of_ble_eq_true rfl) dX12_goes_103 ⟨Nat.le_of_ble_eq_true rfl, Nat.le_of_ble_eq_true rfl⟩ (fun r25623 hr25623 => ?_)
                  refine lv_if_ne (tgt := 153) hx hb dX12_goes_106 (by decide) (fun c25624 => ?_) (fun c25624 => ?_)
                  · have g25625 : Rg 1 1 r25623 := rg_ne_lo (k := 0) hr25623.1 (by decide) c25624 (by decide)
                    refine wk_iinc (lv' := fun r => [(5, .int r), (0, .ref (b 0)), (1, .int x0), (2, .int x1), (3, .int x2), (4, .int y11_l4)]) (e1 := 1) (f := 12) hx hb dX12_goes_153 hl (k := 5) rfl (by decide) g25601 (by decide) (fun _ => rfl) (fun r25626 ls hr25626 er25626 hl => ?_)
                    refine lv_goto (tgt := 11) hx hb dX12_goes_156 (by decide) ?_
                    exact ih11 y11_l4 r25626 v _ _ ls (show Rg 0 10 x0 from rg_w g25616 (by decide) (by decide)) g11_l3 g11_l4 (show Rg 0 12 r25626 from rg_w hr25626 (by decide) (by decide)) hV hP hD hS (lv_sub (l' := [(0, .ref (b 0)), (1, .int x0), (2, .int x1), (3, .int x2), (4, .int y11_l4), (5, .int r25626)]) hl [1, 2, 3, 4, 5, 0] rfl) (me_up hm11 er25626 (by decide))
                  · have g25627 : Rg 0 0 r25623 := wk_eql hr25623.1 (by decide : Rg 0 0 (0 : Int32)) c25624 (by decide)
                    refine lv_aload_n hx hb dX12_goes_109 rfl (lv_at hl 0 rfl) ?_
                    refine va_get (D := D) (ci := 12) (v := .ref (b 6)) (C := RX12) (T := TX12) (N := 24) hx hb hts hin12 hown hK hP 0 rfl rfl 7 (by decide) (hts (.fieldLink RX12 29 "MissedPointsModel" "way" "[I") (by decide +kernel)) (fun _ h9 => h9) rfl dX12_goes_110 ?_
                    refine lv_iload_n hx hb dX12_goes_113 rfl (lv_at hl 1 rfl) ?_
                    refine lv_iconst (v := 2) hx hb dX12_goes_114 (by decide) ?_
                    refine wk_iadd (e1 := 2) (f := 10) hx hb dX12_goes_115 g25616 (by decide : Rg 2 2 (2 : Int32)) (by decide) (fun r25628 hr25628 er25628 qr25628 => ?_)
                    refine lv_aload_n hx hb dX12_goes_116 rfl (lv_at hl 0 rfl) ?_
                    refine va_get (D := D) (ci := 12) (v := .ref (b 5)) (C := RX12) (T := TX12) (N := 24) hx hb hts hin12 hown hK hP 0 rfl rfl 6 (by decide) (hts (.fieldLink RX12 26 "MissedPointsModel" "mates" "[I") (by decide +kernel)) (fun _ h9 => h9) rfl dX12_goes_117 ?_
                    refine lv_iload hx hb dX12_goes_120 (lv_at hl 5 rfl) ?_
                    refine va_iald hx hb hK hP 5 0 rfl rfl (rg_in g25601 (by decide) (by decide)) dX12_goes_122 ?_
                    refine lz_top (y := (v 5 y11_l5.toNatClampNeg)) rfl ?_
                    refine ms_6 hx hb hK hP hD hS hV rfl (rg_in hr25628 (by decide) (by decide)) g25621 dX12_goes_123 (fun v H locs hV ev25630 hP hD hS => ?_)
                    have g25631 : Rg 0 11 (v 5 y11_l5.toNatClampNeg) := by rw [ev25630]; exact g25621
                    refine lv_aload_n hx hb dX12_goes_124 rfl (lv_at hl 0 rfl) ?_
                    refine lv_iload_n hx hb dX12_goes_125 rfl (lv_at hl 1 rfl) ?_
                    refine lv_iconst (v := 2) hx hb dX12_goes_126 (by decide) ?_
                    refine wk_iadd (e1 := 2) (f := 10) hx hb dX12_goes_127 g25616 (by decide : Rg 2 2 (2 : Int32)) (by decide) (fun r25632 hr25632 er25632 qr25632 => ?_)
                    refine lv_iload_n hx hb dX12_goes_128 rfl (lv_at hl 2 rfl) ?_
                    refine lv_iconst (v := 1) hx hb dX12_goes_129 (by decide) ?_
                    refine lv_iload hx hb dX12_goes_130 (lv_at hl 5 rfl) ?_
                    refine wk_ishl1 (f := 2048) hx hb dX12_goes_132 g25601 (by decide) (fun r25633 hr25633 qr25633 => ?_)
                    refine lv_ior hx hb dX12_goes_133 ?_
                    refine wk_topP (P := fun r => r = x1 ||| r25633) rfl (fun r25634 qr25634 => ?_)
                    refine lv_iconst (v := 1) hx hb dX12_goes_134 (by decide) ?_
                    refine lv_aload_n hx hb dX12_goes_135 rfl (lv_at hl 0 rfl) ?_
                    refine va_get (D := D) (ci := 12) (v := .ref (b 5)) (C := RX12) (T := TX12) (N := 24) hx hb hts hin12 hown hK hP 0 rfl rfl 6 (by decide) (hts (.fieldLink RX12 26 "MissedPointsModel" "mates" "[I") (by decide +kernel)) (fun _ h9 => h9) rfl dX12_goes_136 ?_
                    refine lv_iload hx hb dX12_goes_139 (lv_at hl 5 rfl) ?_
                    refine va_iald hx hb hK hP 5 0 rfl rfl (rg_in g25601 (by decide) (by decide)) dX12_goes_141 ?_
                    refine lz_top (y := (v 5 y11_l5.toNatClampNeg)) rfl ?_
                    refine wk_ishl1 (f := 2048) hx hb dX12_goes_142 g25631 (by decide) (fun r25636 hr25636 qr25636 => ?_)
                    refine lv_ior hx hb dX12_goes_143 ?_
                    refine wk_topP (P := fun r => r = r25634 ||| r25636) rfl (fun r25637 qr25637 => ?_)
                    refine lv_iload_n hx hb dX12_goes_144 rfl (lv_at hl 3 rfl) ?_
                    refine wk_qi (wM cI b L) v (As := [.int r25632, .int r25637, .int x2]) (rest := []) ⟨hx, hb, hml, hown, hts⟩ (ih _ v hV r25632 r25637 x2 ((show Rg 0 10 r25632 from rg_w hr25632 (by decide) (by decide))) (g11_l3) (by have y90 : y11_l5.toInt < (L 0 0).toInt := (lz_lt _ _).mp (rg_nle c25599); have y91 : ¬ r25605.toInt = (0 : Int32).toInt := fun z => c25606 (Int32.toInt_inj.mp z); have y92 : ¬ r25614.toInt = x2.toInt := fun z => c25615 (Int32.toInt_inj.mp z); have y93 : r25623.toInt = (0 : Int32).toInt := congrArg Int32.toInt c25624; have y94 : Rg 1 12 (L 0 0) := g25600; have y95 : Rg 0 11 y11_l5 := g25601; have y96 : Rg 1 1 r25605 := g25609; have y97 : Rg 0 8 x0 := g25616; have y98 : Rg 0 11 (v 5 y11_l5.toNatClampNeg) := g25631; have y99 : Rg 0 0 r25623 := g25627; have y910 : Rg 0 8 x0 := g25616; have y911 : Rg 2 12 x2 := g11_l3; have y912 : Rg 0 11 y11_l4 := g11_l4; have y913 : Rg 0 11 y11_l5 := g25601; have y914 : Rg 2 12 x2 := g11_l3; have y915 : Rg 2 10 r25632 := hr25632; have y916 : Rg 2 10 r25632 := hr25632; have y9c17 : ((-1) : Int32).toInt = -1 := (by decide); have y9c18 : (0 : Int32).toInt = 0 := (by decide); have y9c19 : (1 : Int32).toInt = 1 := (by decide); have y9c20 : (2 : Int32).toInt = 2 := (by decide); omega) (by have y90 : y11_l5.toInt < (L 0 0).toInt := (lz_lt _ _).mp (rg_nle c25599); have y91 : ¬ r25605.toInt = (0 : Int32).toInt := fun z => c25606 (Int32.toInt_inj.mp z); have y92 : ¬ r25614.toInt = x2.toInt := fun z => c25615 (Int32.toInt_inj.mp z); have y93 : r25623.toInt = (0 : Int32).toInt := congrArg Int32.toInt c25624; have y94 : Rg 1 12 (L 0 0) := g25600; have y95 : Rg 0 11 y11_l5 := g25601; have y96 : Rg 1 1 r25605 := g25609; have y97 : Rg 0 8 x0 := g25616; have y98 : Rg 0 11 (v 5 y11_l5.toNatClampNeg) := g25631; have y99 : Rg 0 0 r25623 := g25627; have y910 : Rg 0 8 x0 := g25616; have y911 : Rg 2 12 x2 := g11_l3; have y912 : Rg 0 11 y11_l4 := g11_l4; have y913 : Rg 0 11 y11_l5 := g25601; have y914 : Rg 2 12 x2 := g11_l3; have y915 : Rg 2 10 r25632 := hr25632; have y916 : Rg 2 10 r25632 := hr25632; have y9c17 : ((-1) : Int32).toInt = -1 := (by decide); have y9c18 : (0 : Int32).toInt = 0 := (by decide); have y9c19 : (1 : Int32).toInt = 1 := (by decide); have y9c20 : (2 : Int32).toInt = 2 := (by decide); omega) (by have y90 : y11_l5.toInt < (L 0 0).toInt := (lz_lt _ _).mp (rg_nle c25599); have y91 : ¬ r25605.toInt = (0 : Int32).toInt := fun z => c25606 (Int32.toInt_inj.mp z); have y92 : ¬ r25614.toInt = x2.toInt := fun z => c25615 (Int32.toInt_inj.mp z); have y93 : r25623.toInt = (0 : Int32).toInt := congrArg Int32.toInt c25624; have y94 : Rg 1 12 (L 0 0) := g25600; have y95 : Rg 0 11 y11_l5 := g25601; have y96 : Rg 1 1 r25605 := g25609; have y97 : Rg 0 8 x0 := g25616; have y98 : Rg 0 11 (v 5 y11_l5.toNatClampNeg) := g25631; have y99 : Rg 0 0 r25623 := g25627; have y910 : Rg 0 8 x0 := g25616; have y911 : Rg 2 12 x2 := g11_l3; have y912 : Rg 0 11 y11_l4 := g11_l4; have y913 : Rg 0 11 y11_l5 := g25601; have y914 : Rg 2 12 x2 := g11_l3; have y915 : Rg 2 10 r25632 := hr25632; have y916 : Rg 2 10 r25632 := hr25632; have y9c17 : ((-1) : Int32).toInt = -1 := (by decide); have y9c18 : (0 : Int32).toInt = 0 := (by decide); have y9c19 : (1 : Int32).toInt = 1 := (by decide); have y9c20 : (2 : Int32).toInt = 2 := (by decide); omega)) hKK hP hD hS hA 0 (ci := 12) rfl rfl (cwV 3 hts gX12_goes_X12_goes rfl rfl rfl (by decide +kernel) ⟨by show n + 1 + 1 ≤ n + 1 + 1; omega, by show 8 + (6 + 11) + 40 * (n + 1) ≤ 40 * (n + 1 + 1); omega⟩) rfl hl.1 rfl (Nat.le_of_ble_eq_true rfl) dX12_goes_145 ⟨Nat.le_of_ble_eq_true rfl, Nat.le_of_ble_eq_true rfl⟩ (fun r25638 v H locs hr25638 hP hD hS => ?_)
                    have hV := hr25638.1
                    refine lv_if_eq (tgt := 153) hx hb dX12_goes_148 (by decide) (fun c25639 => ?_) (fun c25639 => ?_)
                    · have g25640 : Rg 0 0 r25638 := wk_eql hr25638.2.1 (by decide : Rg 0 0 (0 : Int32)) c25639 (by decide)
                      refine wk_iinc (lv' := fun r => [(5, .int r), (0, .ref (b 0)), (1, .int x0), (2, .int x1), (3, .int x2), (4, .int y11_l4)]) (e1 := 1) (f := 12) hx hb dX12_goes_153 hl (k := 5) rfl (by decide) g25601 (by decide) (fun _ => rfl) (fun r25641 ls hr25641 er25641 hl => ?_)
                      refine lv_goto (tgt := 11) hx hb dX12_goes_156 (by decide) ?_
                      exact ih11 y11_l4 r25641 v _ _ ls (show Rg 0 10 x0 from rg_w g25616 (by decide) (by decide)) g11_l3 g11_l4 (show Rg 0 12 r25641 from rg_w hr25641 (by decide) (by decide)) hV hP hD hS (lv_sub (l' := [(0, .ref (b 0)), (1, .int x0), (2, .int x1), (3, .int x2), (4, .int y11_l4), (5, .int r25641)]) hl [1, 2, 3, 4, 5, 0] rfl) (me_up hm11 er25641 (by decide))
                    · have g25642 : Rg 1 1 r25638 := rg_ne_lo (k := 0) hr25638.2.1 (by decide) c25639 (by decide)
                      refine lv_iconst (v := 1) hx hb dX12_goes_151 (by decide) ?_
                      subst hAe
                      exact W.zret (v := 1) hx hb hr (by decide) (fun t ht hW => ⟨⟨_, v, rfl, ⟨hV, (by decide : Rg 0 1 (1 : Int32)), trivial⟩, by rw [ht]; exact hP, hD⟩, hS.F ht⟩) hS.2.2 dX12_goes_152
              · refine lv_aload_n hx hb dX12_goes_71 rfl (lv_at hl 0 rfl) ?_
                refine va_get (D := D) (ci := 12) (v := .ref (b 5)) (C := RX12) (T := TX12) (N := 24) hx hb hts hin12 hown hK hP 0 rfl rfl 6 (by decide) (hts (.fieldLink RX12 26 "MissedPointsModel" "mates" "[I") (by decide +kernel)) (fun _ h9 => h9) rfl dX12_goes_72 ?_
                refine lv_iload hx hb dX12_goes_75 (lv_at hl 5 rfl) ?_
                refine va_iald hx hb hK hP 5 0 rfl rfl (rg_in g25601 (by decide) (by decide)) dX12_goes_77 ?_
                refine lz_top (y := (v 5 y11_l5.toNatClampNeg)) rfl ?_
                refine lv_iconst (v := (-1)) hx hb dX12_goes_78 (by decide) ?_
                refine lv_icmp_ne (tgt := 153) hx hb dX12_goes_79 (by decide) (fun c25644 => ?_) (fun c25644 => ?_)
                · have g25645 : Rg 0 11 (v 5 y11_l5.toNatClampNeg) := rg_ne_lo (k := (-1)) (hV.2.2.1 y11_l5.toNatClampNeg) (by decide) c25644 (by decide)
                  refine wk_iinc (lv' := fun r => [(5, .int r), (0, .ref (b 0)), (1, .int x0), (2, .int x1), (3, .int x2), (4, .int y11_l4)]) (e1 := 1) (f := 12) hx hb dX12_goes_153 hl (k := 5) rfl (by decide) g25601 (by decide) (fun _ => rfl) (fun r25646 ls hr25646 er25646 hl => ?_)
                  refine lv_goto (tgt := 11) hx hb dX12_goes_156 (by decide) ?_
                  exact ih11 y11_l4 r25646 v _ _ ls g11_l1 g11_l3 g11_l4 (show Rg 0 12 r25646 from rg_w hr25646 (by decide) (by decide)) hV hP hD hS (lv_sub (l' := [(0, .ref (b 0)), (1, .int x0), (2, .int x1), (3, .int x2), (4, .int y11_l4), (5, .int r25646)]) hl [1, 2, 3, 4, 5, 0] rfl) (me_up hm11 er25646 (by decide))
                · have g25647 : Rg (-1) (-1) (v 5 y11_l5.toNatClampNeg) := wk_eql (hV.2.2.1 y11_l5.toNatClampNeg) (by decide : Rg (-1) (-1) ((-1) : Int32)) c25644 (by decide)
                  refine lv_iconst (v := 1) hx hb dX12_goes_82 (by decide) ?_
                  subst hAe
                  exact W.zret (v := 1) hx hb hr (by decide) (fun t ht hW => ⟨⟨_, v, rfl, ⟨hV, (by decide : Rg 0 1 (1 : Int32)), trivial⟩, by rw [ht]; exact hP, hD⟩, hS.F ht⟩) hS.2.2 dX12_goes_83
            · have g25648 : Rg 0 11 (v 5 y11_l4.toNatClampNeg) := wk_eql (hV.2.2.1 y11_l4.toNatClampNeg) g25601 c25611 (by decide)
              refine lv_goto (tgt := 153) hx hb dX12_goes_51 (by decide) ?_
              refine wk_iinc (lv' := fun r => [(5, .int r), (0, .ref (b 0)), (1, .int x0), (2, .int x1), (3, .int x2), (4, .int y11_l4)]) (e1 := 1) (f := 12) hx hb dX12_goes_153 hl (k := 5) rfl (by decide) g25601 (by decide) (fun _ => rfl) (fun r25649 ls hr25649 er25649 hl => ?_)
              refine lv_goto (tgt := 11) hx hb dX12_goes_156 (by decide) ?_
              exact ih11 y11_l4 r25649 v _ _ ls g11_l1 g11_l3 g11_l4 (show Rg 0 12 r25649 from rg_w hr25649 (by decide) (by decide)) hV hP hD hS (lv_sub (l' := [(0, .ref (b 0)), (1, .int x0), (2, .int x1), (3, .int x2), (4, .int y11_l4), (5, .int r25649)]) hl [1, 2, 3, 4, 5, 0] rfl) (me_up hm11 er25649 (by decide))
    refine lv_aload_n hx hb dX12_goes_0 rfl (lv_at hl 0 rfl) ?_
    refine va_get (D := D) (ci := 12) (v := .ref (b 6)) (C := RX12) (T := TX12) (N := 24) hx hb hts hin12 hown hK hP 0 rfl rfl 7 (by decide) (hts (.fieldLink RX12 29 "MissedPointsModel" "way" "[I") (by decide +kernel)) (fun _ h9 => h9) rfl dX12_goes_1 ?_
    refine lv_iload_n hx hb dX12_goes_4 rfl (lv_at hl 1 rfl) ?_
    refine wk_ald hx hb hK hP 6 0 rfl rfl (rg_in px0 (by decide) (by decide)) dX12_goes_5 hV.2.2.2.1 (fun r25650 hr25650 => ?_)
    refine lv_istore (lv' := [(4, .int r25650), (0, .ref (b 0)), (1, .int x0), (2, .int x1), (3, .int x2)]) hx hb dX12_goes_6 hl (by decide) rfl (fun ls hl => ?_)
    refine lv_iconst (v := 0) hx hb dX12_goes_8 (by decide) ?_
    refine lv_istore (lv' := [(5, .int 0), (4, .int r25650), (0, .ref (b 0)), (1, .int x0), (2, .int x1), (3, .int x2)]) hx hb dX12_goes_9 hl (by decide) rfl (fun ls hl => ?_)
    exact lp11 13 r25650 (0 : Int32) v _ _ ls px0 px2 hr25650 (by decide : Rg 0 12 (0 : Int32)) hV hP hD hS (lv_sub (l' := [(0, .ref (b 0)), (1, .int x0), (2, .int x1), (3, .int x2), (4, .int r25650), (5, .int 0)]) hl [2, 3, 4, 5, 1, 0] rfl) (me_i (by decide : Rg 0 12 (0 : Int32)) (by decide))
theorem w_X12_goes (l : Launch) (D : va_G) (cI cS : ClassId) (sz : Nat) (b : Nat → Nat) (L v0 : SU) (hL : TyL L) (hV : TyV v0) (x0 x1 x2 : Int32) (px0 : Rg 0 0 x0) (px2 : Rg 2 12 x2) (hpar : x2.toInt % 2 = 0) : Met l yX12_goes wsX12_goes ({ frames := 6 + 1, cells := 0, slots := 0, locals := 40 * (6 + 1) }) (PQ D cI cS (wM cI b L v0) sz [.ref (b 0), .int x0, .int x1, .int x2]) (QF (S := SU) D (wM cI b L v0) (wM cI b L) sz (fun r u => TyV u ∧ Rg 0 1 r ∧ True)) 0 0 (va_A (wM cI b L v0) sz) := w_X12_goes_r l D cI cS b L hL 6 sz v0 hV x0 x1 x2 (rg_w px0 (by decide) (by decide)) (px2) (by have z1 := px0; omega) (by have z1 := px0; have z2 := px2; omega) (by have z1 := px0; have z2 := px2; omega)
set_option maxRecDepth 20000 in
theorem ggX12_wayLaid_X12_goes : GoodIn wsX12_wayLaid wsX12_goes := goodIn_r _ [8, 2, 1, 9, 3, 10, 11, 7, 12, 4, 5, 6, 13, 14, 15, 16, 17, 18, 19, 20, 21, 22, 23, 24, 25, 26, 27, 28, 29, 30, 31, 32, 33, 34, 35, 36] rfl (by decide +kernel)
set_option maxRecDepth 20000 in
theorem gX12_wayLaid_X12_goes : GoodIn wsX12_wayLaid (wsV RX12 163 RX12 yX12_goes wsX12_goes) := goodIn_app (goodIn_of _ (by decide +kernel)) ggX12_wayLaid_X12_goes
theorem dX12_wayLaid_0 : decode cX12_wayLaid 0 = .ok (.iconst 2, 1) := by decide +kernel
theorem dX12_wayLaid_1 : decode cX12_wayLaid 1 = .ok (.istore_n 1, 1) := by decide +kernel
theorem dX12_wayLaid_10 : decode cX12_wayLaid 10 = .ok (.iconst 0, 1) := by decide +kernel
theorem dX12_wayLaid_11 : decode cX12_wayLaid 11 = .ok (.istore_n 2, 1) := by decide +kernel
theorem dX12_wayLaid_12 : decode cX12_wayLaid 12 = .ok (.iload_n 2, 1) := by decide +kernel
theorem dX12_wayLaid_13 : decode cX12_wayLaid 13 = .ok (.aload_n 0, 1) := by decide +kernel
theorem dX12_wayLaid_14 : decode cX12_wayLaid 14 = .ok (.getfield 63, 3) := by decide +kernel
theorem dX12_wayLaid_17 : decode cX12_wayLaid 17 = .ok (.if_icmp .ge 40, 3) := by decide +kernel
theorem dX12_wayLaid_2 : decode cX12_wayLaid 2 = .ok (.iload_n 1, 1) := by decide +kernel
theorem dX12_wayLaid_20 : decode cX12_wayLaid 20 = .ok (.aload_n 0, 1) := by decide +kernel
theorem dX12_wayLaid_21 : decode cX12_wayLaid 21 = .ok (.getfield 29, 3) := by decide +kernel
theorem dX12_wayLaid_24 : decode cX12_wayLaid 24 = .ok (.iconst 0, 1) := by decide +kernel
theorem dX12_wayLaid_25 : decode cX12_wayLaid 25 = .ok (.iload_n 2, 1) := by decide +kernel
theorem dX12_wayLaid_26 : decode cX12_wayLaid 26 = .ok (.iastore, 1) := by decide +kernel
theorem dX12_wayLaid_27 : decode cX12_wayLaid 27 = .ok (.aload_n 0, 1) := by decide +kernel
theorem dX12_wayLaid_28 : decode cX12_wayLaid 28 = .ok (.getfield 26, 3) := by decide +kernel
theorem dX12_wayLaid_3 : decode cX12_wayLaid 3 = .ok (.aload_n 0, 1) := by decide +kernel
theorem dX12_wayLaid_31 : decode cX12_wayLaid 31 = .ok (.iload_n 2, 1) := by decide +kernel
theorem dX12_wayLaid_32 : decode cX12_wayLaid 32 = .ok (.iaload, 1) := by decide +kernel
theorem dX12_wayLaid_33 : decode cX12_wayLaid 33 = .ok (.iconst (-1), 1) := by decide +kernel
theorem dX12_wayLaid_34 : decode cX12_wayLaid 34 = .ok (.if_icmp .ne 17, 3) := by decide +kernel
theorem dX12_wayLaid_37 : decode cX12_wayLaid 37 = .ok (.aload_n 0, 1) := by decide +kernel
theorem dX12_wayLaid_38 : decode cX12_wayLaid 38 = .ok (.iconst 0, 1) := by decide +kernel
theorem dX12_wayLaid_39 : decode cX12_wayLaid 39 = .ok (.iconst 1, 1) := by decide +kernel
theorem dX12_wayLaid_4 : decode cX12_wayLaid 4 = .ok (.getfield 63, 3) := by decide +kernel
theorem dX12_wayLaid_40 : decode cX12_wayLaid 40 = .ok (.iload_n 2, 1) := by decide +kernel
theorem dX12_wayLaid_41 : decode cX12_wayLaid 41 = .ok (.ishl, 1) := by decide +kernel
theorem dX12_wayLaid_42 : decode cX12_wayLaid 42 = .ok (.iload_n 1, 1) := by decide +kernel
theorem dX12_wayLaid_43 : decode cX12_wayLaid 43 = .ok (.invokevirtual 163, 3) := by decide +kernel
theorem dX12_wayLaid_46 : decode cX12_wayLaid 46 = .ok (.ifCond .eq 5, 3) := by decide +kernel
theorem dX12_wayLaid_49 : decode cX12_wayLaid 49 = .ok (.iload_n 1, 1) := by decide +kernel
theorem dX12_wayLaid_50 : decode cX12_wayLaid 50 = .ok (.ireturn, 1) := by decide +kernel
theorem dX12_wayLaid_51 : decode cX12_wayLaid 51 = .ok (.iinc 2 1, 3) := by decide +kernel
theorem dX12_wayLaid_54 : decode cX12_wayLaid 54 = .ok (.goto (-42), 3) := by decide +kernel
theorem dX12_wayLaid_57 : decode cX12_wayLaid 57 = .ok (.iinc 1 2, 3) := by decide +kernel
theorem dX12_wayLaid_60 : decode cX12_wayLaid 60 = .ok (.goto (-58), 3) := by decide +kernel
theorem dX12_wayLaid_63 : decode cX12_wayLaid 63 = .ok (.iconst 0, 1) := by decide +kernel
theorem dX12_wayLaid_64 : decode cX12_wayLaid 64 = .ok (.ireturn, 1) := by decide +kernel
theorem dX12_wayLaid_7 : decode cX12_wayLaid 7 = .ok (.if_icmp .gt 56, 3) := by decide +kernel
set_option maxHeartbeats 4000000 in
set_option maxRecDepth 100000 in
theorem w_X12_wayLaid (l : Launch) (D : va_G) (cI cS : ClassId) (sz : Nat) (b : Nat → Nat) (L v0 : SU) (hL : TyL L) (hV : TyV v0) : Met l yX12_wayLaid wsX12_wayLaid ({ frames := 8, cells := 0, slots := 0, locals := 320 }) (PQ D cI cS (wM cI b L v0) sz [.ref (b 0)]) (QF (S := SU) D (wM cI b L v0) (wM cI b L) sz (fun r u => TyV u ∧ Rg 0 12 r ∧ r.toInt % 2 = 0)) 0 0 (va_A (wM cI b L v0) sz) := by
  refine Met.ofW (cc := cX12_wayLaid) (maxL := 3) (ret := (some .int)) (by decide) rfl ?_
  intro p e s m args below meth c s₁ B hml hv
  obtain ⟨rfl, hsz, hP, hKK, hD0⟩ := hv
  have hx := B.exec
  have hb := B.bytes
  have hr := B.returns
  have hts := atoms_spec (ws := wsX12_wayLaid) B.pre
  have hown : s.vm.findClass RX12 = some m.cls := findClass_of_methodNamed B.named
  have hlocks := B.notSynchronized
  have hK := hKK.1
  have hin12 : ∀ w ∈ wsX120, w ∈ wsX12_wayLaid := by decide +kernel
  subst hsz
  have hD := hD0.self (sz := s.heap.size)
  obtain ⟨A, hAe⟩ : ∃ A, A = va_A (wM cI b L v0) s.heap.size := ⟨_, rfl⟩
  rw [← hAe] at hD
  have hA : ∀ q : Nat, s.heap.size ≤ q → A q := fun q h => by rw [hAe]; exact Or.inr h
  have hS : va_S A s.heap s.heap [] := va_S.rf
  have hl := lv_entry ([.ref (b 0)]) (n := 3) (Nat.le_of_ble_eq_true rfl)
  rw [lg_entry_eq]
  generalize (lg_sl ([.ref (b 0)]) ++ List.replicate (3 - (lg_sl ([.ref (b 0)])).length) Slot.unset).toArray = ls at hl ⊢
  have hl : lv_has ls 3 [(0, .ref (b 0))] := hl
  obtain ⟨v, hv9⟩ : ∃ v : SU, v = v0 := ⟨_, rfl⟩
  rw [← hv9] at hP hD hV
  have lp2 : ∀ (n2 : Nat) (y2_l1 : Int32) (v : SU) (H : Heap) (locs : List Loc) (ls : Array Slot), Rg 2 20 y2_l1 → (y2_l1.toInt % 2 = 0) → TyV v → va_P D cls (wM cI b L v) H → va_D A (wM cI b L v) → va_S A s.heap H locs → lv_has ls 3 [(0, .ref (b 0)), (1, .int y2_l1)] → 20 - y2_l1.toInt < (n2 : Int) → W p l e (headSpec wsX12_wayLaid ({ frames := 8, cells := 0, slots := 0, locals := 320 })).room s m ([.ref (b 0)]).toArray below meth c H locs 0 0 (MQ below (QF (S := SU) D (wM cI b L v0) (wM cI b L) s.heap.size (fun r u => TyV u ∧ Rg 0 12 r ∧ r.toInt % 2 = 0)) ([.ref (b 0)]).toArray s 0 0 (va_A (wM cI b L v0) s.heap.size)) (F0 m 2 ls []) := by
    intro n2
    induction n2 with
    | zero =>
      intro y2_l1 v H locs ls g2_l1 x2_0 hV hP hD hS hl hm2
      exact absurd rfl (me_z g2_l1 hm2)
    | succ n2 ih2 =>
      intro y2_l1 v H locs ls g2_l1 x2_0 hV hP hD hS hl hm2
      have lp12 : ∀ (n12 : Nat) (y12_l2 : Int32) (v : SU) (H : Heap) (locs : List Loc) (ls : Array Slot), Rg 2 12 y2_l1 → Rg 0 12 y12_l2 → TyV v → va_P D cls (wM cI b L v) H → va_D A (wM cI b L v) → va_S A s.heap H locs → lv_has ls 3 [(0, .ref (b 0)), (1, .int y2_l1), (2, .int y12_l2)] → 12 - y12_l2.toInt < (n12 : Int) → W p l e (headSpec wsX12_wayLaid ({ frames := 8, cells := 0, slots := 0, locals := 320 })).room s m ([.ref (b 0)]).toArray below meth c H locs 0 0 (MQ below (QF (S := SU) D (wM cI b L v0) (wM cI b L) s.heap.size (fun r u => TyV u ∧ Rg 0 12 r ∧ r.toInt % 2 = 0)) ([.ref (b 0)]).toArray s 0 0 (va_A (wM cI b L v0) s.heap.size)) (F0 m 12 ls []) := by
        intro n12
        induction n12 with
        | zero =>
          intro y12_l2 v H locs ls g12_l1 g12_l2 hV hP hD hS hl hm12
          exact absurd rfl (me_z g12_l2 hm12)
        | succ n12 ih12 =>
          intro y12_l2 v H locs ls g12_l1 g12_l2 hV hP hD hS hl hm12
          refine lv_iload_n hx hb dX12_wayLaid_12 rfl (lv_at hl 2 rfl) ?_
          refine lv_aload_n hx hb dX12_wayLaid_13 rfl (lv_at hl 0 rfl) ?_
          refine va_get (D := D) (ci := 12) (v := .int (L 0 0)) (C := RX12) (T := TX12) (N := 24) hx hb hts hin12 hown hK hP 0 rfl rfl 0 (by decide) (hts (.fieldLink RX12 63 "MissedPointsModel" "many" "I") (by decide +kernel)) (fun _ h9 => h9) rfl dX12_wayLaid_14 ?_
          refine lv_icmp_ge (tgt := 57) hx hb dX12_wayLaid_17 (by decide) (fun c25827 => ?_) (fun c25827 => ?_)
          · refine wk_iinc (lv' := fun r => [(1, .int r), (0, .ref (b 0)), (2, .int y12_l2)]) (e1 := 4) (f := 14) hx hb dX12_wayLaid_57 hl (k := 1) rfl (by decide) g12_l1 (by decide) (fun _ => rfl) (fun r25828 ls hr25828 er25828 hl => ?_)
            refine lv_goto (tgt := 2) hx hb dX12_wayLaid_60 (by decide) ?_
            exact ih2 r25828 v _ _ ls (show Rg 2 20 r25828 from rg_w hr25828 (by decide) (by decide)) (show (r25828.toInt % 2 = 0) from by have y90 : (L 0 0).toInt ≤ y12_l2.toInt := (lz_le _ _).mp c25827; have y91 : Rg 4 14 r25828 := hr25828; have y92 : Rg 0 12 y12_l2 := g12_l2; have y9c3 : (0 : Int32).toInt = 0 := (by decide); have y9c4 : (1 : Int32).toInt = 1 := (by decide); omega) hV hP hD hS (lv_sub (l' := [(0, .ref (b 0)), (1, .int r25828)]) hl [1, 0] rfl) (me_up hm2 er25828 (by decide))
          · have g25829 : Rg 1 12 (L 0 0) := rg_ltr g12_l2 hL.1 (rg_nle c25827) (by decide)
            have g25830 : Rg 0 11 y12_l2 := rg_ltl g12_l2 hL.1 (rg_nle c25827) (by decide)
            refine lv_aload_n hx hb dX12_wayLaid_20 rfl (lv_at hl 0 rfl) ?_
            refine va_get (D := D) (ci := 12) (v := .ref (b 6)) (C := RX12) (T := TX12) (N := 24) hx hb hts hin12 hown hK hP 0 rfl rfl 7 (by decide) (hts (.fieldLink RX12 29 "MissedPointsModel" "way" "[I") (by decide +kernel)) (fun _ h9 => h9) rfl dX12_wayLaid_21 ?_
            refine lv_iconst (v := 0) hx hb dX12_wayLaid_24 (by decide) ?_
            refine lv_iload_n hx hb dX12_wayLaid_25 rfl (lv_at hl 2 rfl) ?_
            refine ms_6 hx hb hK hP hD hS hV rfl (rg_in (by decide : Rg 0 0 (0 : Int32)) (by decide) (by decide)) g25830 dX12_wayLaid_26 (fun v H locs hV ev25831 hP hD hS => ?_)
            refine lv_aload_n hx hb dX12_wayLaid_27 rfl (lv_at hl 0 rfl) ?_
            refine va_get (D := D) (ci := 12) (v := .ref (b 5)) (C := RX12) (T := TX12) (N := 24) hx hb hts hin12 hown hK hP 0 rfl rfl 6 (by decide) (hts (.fieldLink RX12 26 "MissedPointsModel" "mates" "[I") (by decide +kernel)) (fun _ h9 => h9) rfl dX12_wayLaid_28 ?_
            refine lv_iload_n hx hb dX12_wayLaid_31 rfl (lv_at hl 2 rfl) ?_
            refine wk_ald hx hb hK hP 5 0 rfl rfl (rg_in g25830 (by decide) (by decide)) dX12_wayLaid_32 hV.2.2.1 (fun r25832 hr25832 => ?_)
            refine lv_iconst (v := (-1)) hx hb dX12_wayLaid_33 (by decide) ?_
            refine lv_icmp_ne (tgt := 51) hx hb dX12_wayLaid_34 (by decide) (fun c25833 => ?_) (fun c25833 => ?_)
            · have g25834 : Rg 0 11 r25832 := rg_ne_lo (k := (-1)) hr25832 (by decide) c25833 (by decide)
              refine wk_iinc (lv' := fun r => [(2, .int r), (0, .ref (b 0)), (1, .int y2_l1)]) (e1 := 1) (f := 12) hx hb dX12_wayLaid_51 hl (k := 2) rfl (by decide) g25830 (by decide) (fun _ => rfl) (fun r25835 ls hr25835 er25835 hl => ?_)
              refine lv_goto (tgt := 12) hx hb dX12_wayLaid_54 (by decide) ?_
              exact ih12 r25835 v _ _ ls g12_l1 (show Rg 0 12 r25835 from rg_w hr25835 (by decide) (by decide)) hV hP hD hS (lv_sub (l' := [(0, .ref (b 0)), (1, .int y2_l1), (2, .int r25835)]) hl [1, 2, 0] rfl) (me_up hm12 er25835 (by decide))
            · have g25836 : Rg (-1) (-1) r25832 := wk_eql hr25832 (by decide : Rg (-1) (-1) ((-1) : Int32)) c25833 (by decide)
              refine lv_aload_n hx hb dX12_wayLaid_37 rfl (lv_at hl 0 rfl) ?_
              refine lv_iconst (v := 0) hx hb dX12_wayLaid_38 (by decide) ?_
              refine lv_iconst (v := 1) hx hb dX12_wayLaid_39 (by decide) ?_
              refine lv_iload_n hx hb dX12_wayLaid_40 rfl (lv_at hl 2 rfl) ?_
              refine wk_ishl1 (f := 2048) hx hb dX12_wayLaid_41 g25830 (by decide) (fun r25837 hr25837 qr25837 => ?_)
              refine lv_iload_n hx hb dX12_wayLaid_42 rfl (lv_at hl 1 rfl) ?_
              refine wk_qi (wM cI b L) v (As := [.int 0, .int r25837, .int y2_l1]) (rest := []) ⟨hx, hb, hml, hown, hts⟩ (w_X12_goes l D cI cS _ b L v hL hV (0 : Int32) r25837 y2_l1 (by decide : Rg 0 0 (0 : Int32)) g12_l1 (by have y90 : y12_l2.toInt < (L 0 0).toInt := (lz_lt _ _).mp (rg_nle c25827); have y91 : r25832.toInt = ((-1) : Int32).toInt := congrArg Int32.toInt c25833; have y92 : Rg 1 12 (L 0 0) := g25829; have y93 : Rg 0 11 y12_l2 := g25830; have y94 : Rg (-1) (-1) r25832 := g25836; have y95 : Rg 2 12 y2_l1 := g12_l1; have y96 : Rg 0 11 y12_l2 := g25830; have y97 : Rg 2 12 y2_l1 := g12_l1; have y98 : Rg 1 2048 r25837 := hr25837; have y9c9 : ((-1) : Int32).toInt = -1 := (by decide); have y9c10 : (0 : Int32).toInt = 0 := (by decide); have y9c11 : (1 : Int32).toInt = 1 := (by decide); have z0 : (0 : Int32).toInt = 0 := (by decide); omega)) hKK hP hD hS hA 0 (ci := 12) rfl rfl (cwV 3 hts gX12_wayLaid_X12_goes rfl rfl rfl (by decide +kernel) ⟨Nat.le_of_ble_eq_true rfl, Nat.le_of_ble_eq_true rfl⟩) rfl hl.1 rfl (Nat.le_of_ble_eq_true rfl) dX12_wayLaid_43 ⟨Nat.le_of_ble_eq_true rfl, Nat.le_of_ble_eq_true rfl⟩ (fun r25838 v H locs hr25838 hP hD hS => ?_)
              have hV := hr25838.1
              refine lv_if_eq (tgt := 51) hx hb dX12_wayLaid_46 (by decide) (fun c25839 => ?_) (fun c25839 => ?_)
              · have g25840 : Rg 0 0 r25838 := wk_eql hr25838.2.1 (by decide : Rg 0 0 (0 : Int32)) c25839 (by decide)
                refine wk_iinc (lv' := fun r => [(2, .int r), (0, .ref (b 0)), (1, .int y2_l1)]) (e1 := 1) (f := 12) hx hb dX12_wayLaid_51 hl (k := 2) rfl (by decide) g25830 (by decide) (fun _ => rfl) (fun r25841 ls hr25841 er25841 hl => ?_)
                refine lv_goto (tgt := 12) hx hb dX12_wayLaid_54 (by decide) ?_
                exact ih12 r25841 v _ _ ls g12_l1 (show Rg 0 12 r25841 from rg_w hr25841 (by decide) (by decide)) hV hP hD hS (lv_sub (l' := [(0, .ref (b 0)), (1, .int y2_l1), (2, .int r25841)]) hl [1, 2, 0] rfl) (me_up hm12 er25841 (by decide))
              · have g25842 : Rg 1 1 r25838 := rg_ne_lo (k := 0) hr25838.2.1 (by decide) c25839 (by decide)
                refine lv_iload_n hx hb dX12_wayLaid_49 rfl (lv_at hl 1 rfl) ?_
                subst hAe
                exact W.iret (v := y2_l1) hx hb hr (fun t ht hW => ⟨⟨_, v, rfl, ⟨hV, (show Rg 0 12 y2_l1 from rg_w g12_l1 (by decide) (by decide)), (by have y90 : y12_l2.toInt < (L 0 0).toInt := (lz_lt _ _).mp (rg_nle c25827); have y91 : r25832.toInt = ((-1) : Int32).toInt := congrArg Int32.toInt c25833; have y92 : ¬ r25838.toInt = (0 : Int32).toInt := fun z => c25839 (Int32.toInt_inj.mp z); have y93 : Rg 1 12 (L 0 0) := g25829; have y94 : Rg 0 11 y12_l2 := g25830; have y95 : Rg (-1) (-1) r25832 := g25836; have y96 : Rg 1 1 r25838 := g25842; have y97 : Rg 2 12 y2_l1 := g12_l1; have y98 : Rg 0 11 y12_l2 := g25830; have y99 : Rg 2 12 y2_l1 := g12_l1; have y910 : Rg 2 12 y2_l1 := g12_l1; have y9c11 : ((-1) : Int32).toInt = -1 := (by decide); have y9c12 : (0 : Int32).toInt = 0 := (by decide); have y9c13 : (1 : Int32).toInt = 1 := (by decide); have z9 := x2_0; omega)⟩, by rw [ht]; exact hP, hD⟩, hS.F ht⟩) hS.2.2 dX12_wayLaid_50
      refine lv_iload_n hx hb dX12_wayLaid_2 rfl (lv_at hl 1 rfl) ?_
      refine lv_aload_n hx hb dX12_wayLaid_3 rfl (lv_at hl 0 rfl) ?_
      refine va_get (D := D) (ci := 12) (v := .int (L 0 0)) (C := RX12) (T := TX12) (N := 24) hx hb hts hin12 hown hK hP 0 rfl rfl 0 (by decide) (hts (.fieldLink RX12 63 "MissedPointsModel" "many" "I") (by decide +kernel)) (fun _ h9 => h9) rfl dX12_wayLaid_4 ?_
      refine lv_icmp_gt (tgt := 63) hx hb dX12_wayLaid_7 (by decide) (fun c25843 => ?_) (fun c25843 => ?_)
      · refine lv_iconst (v := 0) hx hb dX12_wayLaid_63 (by decide) ?_
        subst hAe
        exact W.iret (v := 0) hx hb hr (fun t ht hW => ⟨⟨_, v, rfl, ⟨hV, (by decide : Rg 0 12 (0 : Int32)), (by decide)⟩, by rw [ht]; exact hP, hD⟩, hS.F ht⟩) hS.2.2 dX12_wayLaid_64
      · have g25844 : Rg 2 12 (L 0 0) := rg_ler g2_l1 hL.1 (rg_nlt c25843) (by decide)
        have g25845 : Rg 2 12 y2_l1 := rg_lel g2_l1 hL.1 (rg_nlt c25843) (by decide)
        refine lv_iconst (v := 0) hx hb dX12_wayLaid_10 (by decide) ?_
        refine lv_istore_n (lv' := [(2, .int 0), (0, .ref (b 0)), (1, .int y2_l1)]) hx hb dX12_wayLaid_11 rfl hl (by decide) rfl (fun ls hl => ?_)
        exact lp12 13 (0 : Int32) v _ _ ls g25845 (by decide : Rg 0 12 (0 : Int32)) hV hP hD hS (lv_sub (l' := [(0, .ref (b 0)), (1, .int y2_l1), (2, .int 0)]) hl [1, 2, 0] rfl) (me_i (by decide : Rg 0 12 (0 : Int32)) (by decide))
  refine lv_iconst (v := 2) hx hb dX12_wayLaid_0 (by decide) ?_
  refine lv_istore_n (lv' := [(1, .int 2), (0, .ref (b 0))]) hx hb dX12_wayLaid_1 rfl hl (by decide) rfl (fun ls hl => ?_)
  exact lp2 19 (2 : Int32) v _ _ ls (by decide : Rg 2 20 (2 : Int32)) (show ((2 : Int32).toInt % 2 = 0) from by have y9c0 : (0 : Int32).toInt = 0 := (by decide); have y9c1 : (1 : Int32).toInt = 1 := (by decide); have y9c2 : (2 : Int32).toInt = 2 := (by decide); omega) hV hP hD hS (lv_sub (l' := [(0, .ref (b 0)), (1, .int 2)]) hl [1, 0] rfl) (me_i (by decide : Rg 2 20 (2 : Int32)) (by decide))
set_option maxRecDepth 20000 in
theorem ggX12_way_X12_in : GoodIn wsX12_way wsX12_in := goodIn_r _ [18] rfl (by decide +kernel)
set_option maxRecDepth 20000 in
theorem gX12_way_X12_in : GoodIn wsX12_way (va_wsS RX12 66 yX12_in wsX12_in) := goodIn_app (goodIn_of _ (by decide +kernel)) ggX12_way_X12_in
set_option maxRecDepth 20000 in
theorem ggX12_way_X12_wayLaid : GoodIn wsX12_way wsX12_wayLaid := goodIn_r _ [29, 9, 1, 12, 30, 31, 32, 5, 33, 11, 23, 24, 25, 34, 35, 36, 37, 38, 39, 40, 41, 42, 43, 44, 45, 46, 47, 48, 49, 50, 51, 52, 53, 54, 55, 56, 57] rfl (by decide +kernel)
set_option maxRecDepth 20000 in
theorem gX12_way_X12_wayLaid : GoodIn wsX12_way (wsV RX12 166 RX12 yX12_wayLaid wsX12_wayLaid) := goodIn_app (goodIn_of _ (by decide +kernel)) ggX12_way_X12_wayLaid
theorem dX12_way_12 : decode cX12_way 12 = .ok (.aload_n 0, 1) := by decide +kernel
theorem dX12_way_13 : decode cX12_way 13 = .ok (.invokevirtual 166, 3) := by decide +kernel
theorem dX12_way_16 : decode cX12_way 16 = .ok (.istore 4, 2) := by decide +kernel
theorem dX12_way_18 : decode cX12_way 18 = .ok (.iload 4, 2) := by decide +kernel
theorem dX12_way_20 : decode cX12_way 20 = .ok (.ifCond .ne 7, 3) := by decide +kernel
theorem dX12_way_23 : decode cX12_way 23 = .ok (.iconst (-1), 1) := by decide +kernel
theorem dX12_way_24 : decode cX12_way 24 = .ok (.goto 35, 3) := by decide +kernel
theorem dX12_way_27 : decode cX12_way 27 = .ok (.iload_n 2, 1) := by decide +kernel
theorem dX12_way_28 : decode cX12_way 28 = .ok (.iconst (-1), 1) := by decide +kernel
theorem dX12_way_29 : decode cX12_way 29 = .ok (.if_icmp .ne 8, 3) := by decide +kernel
theorem dX12_way_32 : decode cX12_way 32 = .ok (.iload 4, 2) := by decide +kernel
theorem dX12_way_34 : decode cX12_way 34 = .ok (.goto 25, 3) := by decide +kernel
theorem dX12_way_37 : decode cX12_way 37 = .ok (.iload_n 2, 1) := by decide +kernel
theorem dX12_way_38 : decode cX12_way 38 = .ok (.iconst 0, 1) := by decide +kernel
theorem dX12_way_39 : decode cX12_way 39 = .ok (.iload 4, 2) := by decide +kernel
theorem dX12_way_41 : decode cX12_way 41 = .ok (.iconst 1, 1) := by decide +kernel
theorem dX12_way_42 : decode cX12_way 42 = .ok (.isub, 1) := by decide +kernel
theorem dX12_way_43 : decode cX12_way 43 = .ok (.invokestatic 66, 3) := by decide +kernel
theorem dX12_way_46 : decode cX12_way 46 = .ok (.ifCond .eq 12, 3) := by decide +kernel
theorem dX12_way_49 : decode cX12_way 49 = .ok (.aload_n 0, 1) := by decide +kernel
theorem dX12_way_50 : decode cX12_way 50 = .ok (.getfield 29, 3) := by decide +kernel
theorem dX12_way_53 : decode cX12_way 53 = .ok (.iload_n 2, 1) := by decide +kernel
theorem dX12_way_54 : decode cX12_way 54 = .ok (.iaload, 1) := by decide +kernel
theorem dX12_way_55 : decode cX12_way 55 = .ok (.goto 4, 3) := by decide +kernel
theorem dX12_way_58 : decode cX12_way 58 = .ok (.iconst (-1), 1) := by decide +kernel
theorem dX12_way_59 : decode cX12_way 59 = .ok (.ireturn, 1) := by decide +kernel
set_option maxHeartbeats 4000000 in
set_option maxRecDepth 100000 in
theorem w_X12_way (l : Launch) (D : va_G) (cI cS : ClassId) (sz : Nat) (b : Nat → Nat) (L v0 : SU) (hL : TyL L) (hV : TyV v0) (x0 x1 : Int32) : Met l yX12_way wsX12_way ({ frames := 9, cells := 0, slots := 0, locals := 360 }) (PQ D cI cS (wM cI b L v0) sz [.ref (b 0), .int x0, .int x1]) (QF (S := SU) D (wM cI b L v0) (wM cI b L) sz (fun r u => TyV u ∧ Rg (-11) 12 r ∧ True)) 0 0 (va_A (wM cI b L v0) sz) := by
  refine Met.ofW (cc := cX12_way) (maxL := 5) (ret := (some .int)) (by decide) rfl ?_
  intro p e s m args below meth c s₁ B hml hv
  obtain ⟨rfl, hsz, hP, hKK, hD0⟩ := hv
  have hx := B.exec
  have hb := B.bytes
  have hr := B.returns
  have hts := atoms_spec (ws := wsX12_way) B.pre
  have hown : s.vm.findClass RX12 = some m.cls := findClass_of_methodNamed B.named
  have hlocks := B.notSynchronized
  have hK := hKK.1
  have hin12 : ∀ w ∈ wsX120, w ∈ wsX12_way := by decide +kernel
  subst hsz
  have hD := hD0.self (sz := s.heap.size)
  obtain ⟨A, hAe⟩ : ∃ A, A = va_A (wM cI b L v0) s.heap.size := ⟨_, rfl⟩
  rw [← hAe] at hD
  have hA : ∀ q : Nat, s.heap.size ≤ q → A q := fun q h => by rw [hAe]; exact Or.inr h
  have hS : va_S A s.heap s.heap [] := va_S.rf
  have hl := lv_entry ([.ref (b 0), .int x0, .int x1]) (n := 5) (Nat.le_of_ble_eq_true rfl)
  rw [lg_entry_eq]
  generalize (lg_sl ([.ref (b 0), .int x0, .int x1]) ++ List.replicate (5 - (lg_sl ([.ref (b 0), .int x0, .int x1])).length) Slot.unset).toArray = ls at hl ⊢
  have hl : lv_has ls 5 [(0, .ref (b 0)), (1, .int x0), (2, .int x1)] := hl
  obtain ⟨v, hv9⟩ : ∃ v : SU, v = v0 := ⟨_, rfl⟩
  rw [← hv9] at hP hD hV
  refine lv_aload_n hx hb dX12_way_0 rfl (lv_at hl 0 rfl) ?_
  refine lv_iload_n hx hb dX12_way_1 rfl (lv_at hl 1 rfl) ?_
  refine wk_qi (wM cI b L) v (As := [.int x0]) (rest := []) ⟨hx, hb, hml, hown, hts⟩ (w_X12_wrongPairing l D cI cS _ b L v hL hV x0) hKK hP hD hS hA 0 (ci := 12) rfl rfl (cwV 1 hts gX12_way_X12_wrongPairing rfl rfl rfl (by decide +kernel) ⟨Nat.le_of_ble_eq_true rfl, Nat.le_of_ble_eq_true rfl⟩) rfl hl.1 rfl (Nat.le_of_ble_eq_true rfl) dX12_way_2 ⟨Nat.le_of_ble_eq_true rfl, Nat.le_of_ble_eq_true rfl⟩ (fun r25867 v H locs hr25867 hP hD hS => ?_)
  have hV := hr25867.1
  refine lv_istore_n (lv' := [(3, .int r25867), (0, .ref (b 0)), (1, .int x0), (2, .int x1)]) hx hb dX12_way_5 rfl hl (by decide) rfl (fun ls hl => ?_)
  refine lv_iload_n hx hb dX12_way_6 rfl (lv_at hl 0 rfl) ?_
  refine lv_if_eq (tgt := 12) hx hb dX12_way_7 (by decide) (fun c25868 => ?_) (fun c25868 => ?_)
  · have g25869 : Rg 0 3 x0 := (hr25867.2.2 c25868)
    have g25870 : Rg 0 0 r25867 := wk_eql hr25867.2.1 (by decide : Rg 0 0 (0 : Int32)) c25868 (by decide)
    refine lv_aload_n hx hb dX12_way_12 rfl (lv_at hl 1 rfl) ?_
    refine wk_qi (wM cI b L) v (As := []) (rest := []) ⟨hx, hb, hml, hown, hts⟩ (w_X12_wayLaid l D cI cS _ b L v hL hV) hKK hP hD hS hA 0 (ci := 12) rfl rfl (cwV 0 hts gX12_way_X12_wayLaid rfl rfl rfl (by decide +kernel) ⟨Nat.le_of_ble_eq_true rfl, Nat.le_of_ble_eq_true rfl⟩) rfl hl.1 rfl (Nat.le_of_ble_eq_true rfl) dX12_way_13 ⟨Nat.le_of_ble_eq_true rfl, Nat.le_of_ble_eq_true rfl⟩ (fun r25871 v H locs hr25871 hP hD hS => ?_)
    have hV := hr25871.1
    have ep25872 : r25871.toInt % 2 = 0 := hr25871.2.2
    refine lv_istore (lv' := [(4, .int r25871), (3, .int r25867), (0, .ref (b 0)), (1, .int x0), (2, .int x1)]) hx hb dX12_way_16 hl (by decide) rfl (fun ls hl => ?_)
    refine lv_iload hx hb dX12_way_18 (lv_at hl 0 rfl) ?_
    refine lv_if_ne (tgt := 27) hx hb dX12_way_20 (by decide) (fun c25873 => ?_) (fun c25873 => ?_)
    · have g25874 : Rg 1 12 r25871 := rg_ne_lo (k := 0) hr25871.2.1 (by decide) c25873 (by decide)
      refine lv_iload_n hx hb dX12_way_27 rfl (lv_at hl 4 rfl) ?_
      refine lv_iconst (v := (-1)) hx hb dX12_way_28 (by decide) ?_
      refine lv_icmp_ne (tgt := 37) hx hb dX12_way_29 (by decide) (fun c25875 => ?_) (fun c25875 => ?_)
      · refine lv_iload_n hx hb dX12_way_37 rfl (lv_at hl 4 rfl) ?_
        refine lv_iconst (v := 0) hx hb dX12_way_38 (by decide) ?_
        refine lv_iload hx hb dX12_way_39 (lv_at hl 0 rfl) ?_
        refine lv_iconst (v := 1) hx hb dX12_way_41 (by decide) ?_
        refine wk_isub (e1 := 0) (f := 11) hx hb dX12_way_42 g25874 (by decide : Rg 1 1 (1 : Int32)) (by decide) (fun r25876 hr25876 er25876 qr25876 => ?_)
        refine lz_ss (As := [.int x1, .int 0, .int r25876]) (rest := []) ⟨hx, hb, hml, hown, hts⟩ (w_X12_in l D cI cS x1 (0 : Int32) r25876) hKK (hP.sub (ws' := []) [] rfl) (va_cwS 3 hts gX12_way_X12_in rfl rfl rfl (by decide +kernel) ⟨Nat.le_of_ble_eq_true rfl, Nat.le_of_ble_eq_true rfl⟩) rfl hl.1 rfl (Nat.le_of_ble_eq_true rfl) dX12_way_43 ⟨Nat.le_of_ble_eq_true rfl, Nat.le_of_ble_eq_true rfl⟩ (fun r25877 hr25877 => ?_)
        refine lv_if_eq (tgt := 58) hx hb dX12_way_46 (by decide) (fun c25878 => ?_) (fun c25878 => ?_)
        · have zt25879 : (x1.toInt < (0 : Int32).toInt ∨ r25876.toInt < x1.toInt) := hr25877.2.1 c25878
          have g25880 : Rg 0 0 r25877 := wk_eql hr25877.1 (by decide : Rg 0 0 (0 : Int32)) c25878 (by decide)
          refine lv_iconst (v := (-1)) hx hb dX12_way_58 (by decide) ?_
          subst hAe
          exact W.iret (v := (-1)) hx hb hr (fun t ht hW => ⟨⟨_, v, rfl, ⟨hV, (by decide : Rg (-11) 12 ((-1) : Int32)), trivial⟩, by rw [ht]; exact hP, hD⟩, hS.F ht⟩) hS.2.2 dX12_way_59
        · have zn25881 : (0 : Int32).toInt ≤ x1.toInt ∧ x1.toInt ≤ r25876.toInt := (hr25877.2.2 c25878)
          have g25882 : Rg 0 11 x1 := wk_in3 (rg_any x1) (by decide : Rg 0 0 (0 : Int32)) hr25876 (hr25877.2.2 c25878) (by decide)
          have g25883 : Rg 1 1 r25877 := rg_ne_lo (k := 0) hr25877.1 (by decide) c25878 (by decide)
          refine lv_aload_n hx hb dX12_way_49 rfl (lv_at hl 2 rfl) ?_
          refine va_get (D := D) (ci := 12) (v := .ref (b 6)) (C := RX12) (T := TX12) (N := 24) hx hb hts hin12 hown hK hP 0 rfl rfl 7 (by decide) (hts (.fieldLink RX12 29 "MissedPointsModel" "way" "[I") (by decide +kernel)) (fun _ h9 => h9) rfl dX12_way_50 ?_
          refine lv_iload_n hx hb dX12_way_53 rfl (lv_at hl 4 rfl) ?_
          refine wk_ald hx hb hK hP 6 0 rfl rfl (rg_in g25882 (by decide) (by decide)) dX12_way_54 hV.2.2.2.1 (fun r25884 hr25884 => ?_)
          refine lv_goto (tgt := 59) hx hb dX12_way_55 (by decide) ?_
          subst hAe
          exact W.iret (v := r25884) hx hb hr (fun t ht hW => ⟨⟨_, v, rfl, ⟨hV, (show Rg (-11) 12 r25884 from rg_w hr25884 (by decide) (by decide)), trivial⟩, by rw [ht]; exact hP, hD⟩, hS.F ht⟩) hS.2.2 dX12_way_59
      · have g25885 : Rg (-1) (-1) x1 := wk_eql (rg_any x1) (by decide : Rg (-1) (-1) ((-1) : Int32)) c25875 (by decide)
        refine lv_iload hx hb dX12_way_32 (lv_at hl 0 rfl) ?_
        refine lv_goto (tgt := 59) hx hb dX12_way_34 (by decide) ?_
        subst hAe
        exact W.iret (v := r25871) hx hb hr (fun t ht hW => ⟨⟨_, v, rfl, ⟨hV, (show Rg (-11) 12 r25871 from rg_w g25874 (by decide) (by decide)), trivial⟩, by rw [ht]; exact hP, hD⟩, hS.F ht⟩) hS.2.2 dX12_way_59
    · have g25886 : Rg 0 0 r25871 := wk_eql hr25871.2.1 (by decide : Rg 0 0 (0 : Int32)) c25873 (by decide)
      refine lv_iconst (v := (-1)) hx hb dX12_way_23 (by decide) ?_
      refine lv_goto (tgt := 59) hx hb dX12_way_24 (by decide) ?_
      subst hAe
      exact W.iret (v := (-1)) hx hb hr (fun t ht hW => ⟨⟨_, v, rfl, ⟨hV, (by decide : Rg (-11) 12 ((-1) : Int32)), trivial⟩, by rw [ht]; exact hP, hD⟩, hS.F ht⟩) hS.2.2 dX12_way_59
  · have g25887 : Rg (-11) (-1) r25867 := rg_ne_hi (k := 0) hr25867.2.1 (by decide) c25868 (by decide)
    refine lv_iload_n hx hb dX12_way_10 rfl (lv_at hl 0 rfl) ?_
    subst hAe
    exact W.iret (v := r25867) hx hb hr (fun t ht hW => ⟨⟨_, v, rfl, ⟨hV, (show Rg (-11) 12 r25867 from rg_w g25887 (by decide) (by decide)), trivial⟩, by rw [ht]; exact hP, hD⟩, hS.F ht⟩) hS.2.2 dX12_way_11
