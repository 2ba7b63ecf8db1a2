set_option maxRecDepth 20000 in
theorem ggX11_copy_X11_isSheet : GoodIn wsX11_copy wsX11_isSheet := goodIn_r _ [5] (by decide +kernel) (by decide +kernel)
set_option maxRecDepth 20000 in
theorem gX11_copy_X11_isSheet : GoodIn wsX11_copy (va_wsS RX11 248 yX11_isSheet wsX11_isSheet) := goodIn_app (goodIn_of _ (by decide +kernel)) ggX11_copy_X11_isSheet
set_option maxRecDepth 20000 in
theorem ggX11_copy_X6_copyTo : GoodIn wsX11_copy wsX6_copyTo := goodIn_r _ [20, 21, 22, 23, 24, 25, 26, 13, 14, 9, 15, 16, 43, 44, 45] (by decide +kernel) (by decide +kernel)
set_option maxRecDepth 20000 in
theorem gX11_copy_X6_copyTo : GoodIn wsX11_copy (wsV RX11 347 RX6 yX6_copyTo wsX6_copyTo) := goodIn_app (goodIn_of _ (by decide +kernel)) ggX11_copy_X6_copyTo
set_option maxRecDepth 20000 in
theorem ggX11_copy_X6_hasRange : GoodIn wsX11_copy wsX6_hasRange := goodIn_r _ [15, 16, 43, 44, 45] (by decide +kernel) (by decide +kernel)
set_option maxRecDepth 20000 in
theorem gX11_copy_X6_hasRange : GoodIn wsX11_copy (wsV RX11 344 RX6 yX6_hasRange wsX6_hasRange) := goodIn_app (goodIn_of _ (by decide +kernel)) ggX11_copy_X6_hasRange
set_option maxRecDepth 20000 in
theorem ggX11_copy_X6_isMissing : GoodIn wsX11_copy wsX6_isMissing := goodIn_r _ [10, 11, 43, 44, 45] (by decide +kernel) (by decide +kernel)
set_option maxRecDepth 20000 in
theorem gX11_copy_X6_isMissing : GoodIn wsX11_copy (wsV RX11 251 RX6 yX6_isMissing wsX6_isMissing) := goodIn_app (goodIn_of _ (by decide +kernel)) ggX11_copy_X6_isMissing
theorem dX11_copy_0 : decode cX11_copy 0 = .ok (.iload_n 1, 1) := by decide +kernel
theorem dX11_copy_1 : decode cX11_copy 1 = .ok (.invokestatic 248, 3) := by decide +kernel
theorem dX11_copy_101 : decode cX11_copy 101 = .ok (.iload 5, 2) := by decide +kernel
theorem dX11_copy_103 : decode cX11_copy 103 = .ok (.invokevirtual 347, 3) := by decide +kernel
theorem dX11_copy_106 : decode cX11_copy 106 = .ok (.iload 5, 2) := by decide +kernel
theorem dX11_copy_108 : decode cX11_copy 108 = .ok (.ireturn, 1) := by decide +kernel
theorem dX11_copy_11 : decode cX11_copy 11 = .ok (.ifCond .ne 6, 3) := by decide +kernel
theorem dX11_copy_14 : decode cX11_copy 14 = .ok (.bipush (-2), 2) := by decide +kernel
theorem dX11_copy_16 : decode cX11_copy 16 = .ok (.ireturn, 1) := by decide +kernel
theorem dX11_copy_17 : decode cX11_copy 17 = .ok (.aload_n 0, 1) := by decide +kernel
theorem dX11_copy_18 : decode cX11_copy 18 = .ok (.getfield 75, 3) := by decide +kernel
theorem dX11_copy_21 : decode cX11_copy 21 = .ok (.iload_n 1, 1) := by decide +kernel
theorem dX11_copy_22 : decode cX11_copy 22 = .ok (.aaload, 1) := by decide +kernel
theorem dX11_copy_23 : decode cX11_copy 23 = .ok (.astore 6, 2) := by decide +kernel
theorem dX11_copy_25 : decode cX11_copy 25 = .ok (.aload_n 0, 1) := by decide +kernel
theorem dX11_copy_26 : decode cX11_copy 26 = .ok (.getfield 75, 3) := by decide +kernel
theorem dX11_copy_29 : decode cX11_copy 29 = .ok (.iload_n 3, 1) := by decide +kernel
theorem dX11_copy_30 : decode cX11_copy 30 = .ok (.aaload, 1) := by decide +kernel
theorem dX11_copy_31 : decode cX11_copy 31 = .ok (.astore 7, 2) := by decide +kernel
theorem dX11_copy_33 : decode cX11_copy 33 = .ok (.aload 6, 2) := by decide +kernel
theorem dX11_copy_35 : decode cX11_copy 35 = .ok (.invokevirtual 251, 3) := by decide +kernel
theorem dX11_copy_38 : decode cX11_copy 38 = .ok (.ifCond .ne 11, 3) := by decide +kernel
theorem dX11_copy_4 : decode cX11_copy 4 = .ok (.ifCond .eq 10, 3) := by decide +kernel
theorem dX11_copy_41 : decode cX11_copy 41 = .ok (.aload 7, 2) := by decide +kernel
theorem dX11_copy_43 : decode cX11_copy 43 = .ok (.invokevirtual 251, 3) := by decide +kernel
theorem dX11_copy_46 : decode cX11_copy 46 = .ok (.ifCond .eq 6, 3) := by decide +kernel
theorem dX11_copy_49 : decode cX11_copy 49 = .ok (.bipush (-11), 2) := by decide +kernel
theorem dX11_copy_51 : decode cX11_copy 51 = .ok (.ireturn, 1) := by decide +kernel
theorem dX11_copy_52 : decode cX11_copy 52 = .ok (.aload 6, 2) := by decide +kernel
theorem dX11_copy_54 : decode cX11_copy 54 = .ok (.getfield 240, 3) := by decide +kernel
theorem dX11_copy_57 : decode cX11_copy 57 = .ok (.aload 7, 2) := by decide +kernel
theorem dX11_copy_59 : decode cX11_copy 59 = .ok (.getfield 240, 3) := by decide +kernel
theorem dX11_copy_62 : decode cX11_copy 62 = .ok (.if_icmp .eq 6, 3) := by decide +kernel
theorem dX11_copy_65 : decode cX11_copy 65 = .ok (.bipush (-13), 2) := by decide +kernel
theorem dX11_copy_67 : decode cX11_copy 67 = .ok (.ireturn, 1) := by decide +kernel
theorem dX11_copy_68 : decode cX11_copy 68 = .ok (.aload 6, 2) := by decide +kernel
theorem dX11_copy_7 : decode cX11_copy 7 = .ok (.iload_n 3, 1) := by decide +kernel
theorem dX11_copy_70 : decode cX11_copy 70 = .ok (.iload_n 2, 1) := by decide +kernel
theorem dX11_copy_71 : decode cX11_copy 71 = .ok (.iload 5, 2) := by decide +kernel
theorem dX11_copy_73 : decode cX11_copy 73 = .ok (.invokevirtual 344, 3) := by decide +kernel
theorem dX11_copy_76 : decode cX11_copy 76 = .ok (.ifCond .eq 15, 3) := by decide +kernel
theorem dX11_copy_79 : decode cX11_copy 79 = .ok (.aload 7, 2) := by decide +kernel
theorem dX11_copy_8 : decode cX11_copy 8 = .ok (.invokestatic 248, 3) := by decide +kernel
theorem dX11_copy_81 : decode cX11_copy 81 = .ok (.iload 4, 2) := by decide +kernel
theorem dX11_copy_83 : decode cX11_copy 83 = .ok (.iload 5, 2) := by decide +kernel
theorem dX11_copy_85 : decode cX11_copy 85 = .ok (.invokevirtual 344, 3) := by decide +kernel
theorem dX11_copy_88 : decode cX11_copy 88 = .ok (.ifCond .ne 6, 3) := by decide +kernel
theorem dX11_copy_91 : decode cX11_copy 91 = .ok (.bipush (-12), 2) := by decide +kernel
theorem dX11_copy_93 : decode cX11_copy 93 = .ok (.ireturn, 1) := by decide +kernel
theorem dX11_copy_94 : decode cX11_copy 94 = .ok (.aload 6, 2) := by decide +kernel
theorem dX11_copy_96 : decode cX11_copy 96 = .ok (.iload_n 2, 1) := by decide +kernel
theorem dX11_copy_97 : decode cX11_copy 97 = .ok (.aload 7, 2) := by decide +kernel
theorem dX11_copy_99 : decode cX11_copy 99 = .ok (.iload 4, 2) := by decide +kernel
set_option maxHeartbeats 4000000 in
set_option maxRecDepth 100000 in
theorem k_X11_copy (l : Launch) (D : va_G) (cI cS : ClassId) (sz : Nat) (a : Nat → Nat) (na nc N : Nat) (L u0 : SU) (hL : TyX L) (hN : N = 0 ∨ N = 24576) (x0 x1 x2 x3 x4 : Int32) : Met l yX11_copy wsX11_copy ({ frames := 2, cells := 0, slots := 0, locals := 80 }) (PQ D cI cS (wX cI cS a na nc N L u0) sz [.ref (a 0), .int x0, .int x1, .int x2, .int x3, .int x4]) (QF (S := SU) D (wX cI cS a na nc N L u0) (wX cI cS a na nc N L) sz (fun r _ => Rg (-13) 40 r ∧ ((x0.toInt < 0 ∨ 3 < x0.toInt ∨ x2.toInt < 0 ∨ 3 < x2.toInt → r.toInt = -2) ∧ (0 ≤ x0.toInt → x0.toInt ≤ 3 → 0 ≤ x2.toInt → x2.toInt ≤ 3 → ((L (26 + 2 * x0.toNatClampNeg) 1).toInt = -1 ∨ (L (26 + 2 * x2.toNatClampNeg) 1).toInt = -1) → r.toInt = -11) ∧ (0 ≤ x0.toInt → x0.toInt ≤ 3 → 0 ≤ x2.toInt → x2.toInt ≤ 3 → ¬ (L (26 + 2 * x0.toNatClampNeg) 1).toInt = -1 → ¬ (L (26 + 2 * x2.toNatClampNeg) 1).toInt = -1 → ¬ (L (26 + 2 * x0.toNatClampNeg) 1).toInt = (L (26 + 2 * x2.toNatClampNeg) 1).toInt → r.toInt = -13) ∧ (0 ≤ x0.toInt → x0.toInt ≤ 3 → 0 ≤ x2.toInt → x2.toInt ≤ 3 → ¬ (L (26 + 2 * x0.toNatClampNeg) 1).toInt = -1 → ¬ (L (26 + 2 * x2.toNatClampNeg) 1).toInt = -1 → (L (26 + 2 * x0.toNatClampNeg) 1).toInt = (L (26 + 2 * x2.toNatClampNeg) 1).toInt → (x4.toInt < 0 ∨ x1.toInt < 0 ∨ x3.toInt < 0 ∨ (L (26 + 2 * x0.toNatClampNeg) 2).toInt < x1.toInt + x4.toInt ∨ (L (26 + 2 * x2.toNatClampNeg) 2).toInt < x3.toInt + x4.toInt) → r.toInt = -12) ∧ ((0 ≤ x0.toInt ∧ x0.toInt ≤ 3 ∧ 0 ≤ x2.toInt ∧ x2.toInt ≤ 3 ∧ ¬ (L (26 + 2 * x0.toNatClampNeg) 1).toInt = -1 ∧ ¬ (L (26 + 2 * x2.toNatClampNeg) 1).toInt = -1 ∧ (L (26 + 2 * x0.toNatClampNeg) 1).toInt = (L (26 + 2 * x2.toNatClampNeg) 1).toInt ∧ 0 ≤ x4.toInt ∧ 0 ≤ x1.toInt ∧ 0 ≤ x3.toInt ∧ x1.toInt + x4.toInt ≤ (L (26 + 2 * x0.toNatClampNeg) 2).toInt ∧ x3.toInt + x4.toInt ≤ (L (26 + 2 * x2.toNatClampNeg) 2).toInt) → r.toInt = x4.toInt)))) 0 0 (va_A (wX cI cS a na nc N L u0) sz) := by
  refine Met.ofW (cc := cX11_copy) (maxL := 8) (ret := (some .int)) (by decide) rfl ?_
  intro p e s m args below meth c s₁ B hml hv
  obtain ⟨rfl, hsz, hP, hKK, hD0⟩ := hv
  have hx := B.exec
  have hb := B.bytes
  have hr := B.returns
  have hts := atoms_spec (ws := wsX11_copy) B.pre
  have hown : s.vm.findClass RX11 = some m.cls := findClass_of_methodNamed B.named
  have hlocks := B.notSynchronized
  have hK := hKK.1
  have hin6 : ∀ w ∈ wsX60, w ∈ wsX11_copy := by decide +kernel
  have hin11 : ∀ w ∈ wsX110, w ∈ wsX11_copy := by decide +kernel
  subst hsz
  have hD := hD0.self (sz := s.heap.size)
  obtain ⟨A, hAe⟩ : ∃ A, A = va_A (wX cI cS a na nc N L u0) s.heap.size := ⟨_, rfl⟩
  rw [← hAe] at hD
  have hA : ∀ q : Nat, s.heap.size ≤ q → A q := fun q h => by rw [hAe]; exact Or.inr h
  have hS : va_S A s.heap s.heap [] := va_S.rf
  have hl := lv_entry ([.ref (a 0), .int x0, .int x1, .int x2, .int x3, .int x4]) (n := 8) (Nat.le_of_ble_eq_true rfl)
  rw [lg_entry_eq]
  generalize (lg_sl ([.ref (a 0), .int x0, .int x1, .int x2, .int x3, .int x4]) ++ List.replicate (8 - (lg_sl ([.ref (a 0), .int x0, .int x1, .int x2, .int x3, .int x4])).length) Slot.unset).toArray = ls at hl ⊢
  have hl : lv_has ls 8 [(0, .ref (a 0)), (1, .int x0), (2, .int x1), (3, .int x2), (4, .int x3), (5, .int x4)] := hl
  obtain ⟨u, hu9⟩ : ∃ u : SU, u = u0 := ⟨_, rfl⟩
  rw [← hu9] at hP hD
  refine lv_iload_n hx hb dX11_copy_0 rfl (lv_at hl 1 rfl) ?_
  refine lz_ss (As := [.int x0]) (rest := []) ⟨hx, hb, hml, hown, hts⟩ (k_X11_isSheet_z l D cI cS x0) hKK (hP.sub (ws' := []) [] rfl) (va_cwS 1 hts gX11_copy_X11_isSheet rfl rfl rfl (by decide +kernel) ⟨Nat.le_of_ble_eq_true rfl, Nat.le_of_ble_eq_true rfl⟩) rfl hl.1 rfl (Nat.le_of_ble_eq_true rfl) dX11_copy_1 ⟨Nat.le_of_ble_eq_true rfl, Nat.le_of_ble_eq_true rfl⟩ (fun r52126 hr52126 => ?_)
  refine lv_if_eq (tgt := 14) hx hb dX11_copy_4 (by decide) (fun c52127 => ?_) (fun c52127 => ?_)
  · have zt52128 : (x0.toInt < 0 ∨ 3 < x0.toInt) := hr52126.2.2 c52127
    have g52129 : Rg 0 0 r52126 := wk_eql hr52126.1 (by decide : Rg 0 0 (0 : Int32)) c52127 (by decide)
    refine lv_bipush (v := (-2)) hx hb dX11_copy_14 (by decide) ?_
    subst hAe
    exact W.iret (v := (-2)) hx hb hr (fun t ht hW => ⟨⟨_, u, rfl, ⟨(by decide : Rg (-13) 40 ((-2) : Int32)), (by have y90 : r52126.toInt = (0 : Int32).toInt := congrArg Int32.toInt c52127; have y91 : Rg 0 0 r52126 := g52129; have y9c2 : ((-2) : Int32).toInt = -2 := (by decide); have y9c3 : (0 : Int32).toInt = 0 := (by decide); have y9c4 : (1 : Int32).toInt = 1 := (by decide); skip; omega)⟩, by rw [ht]; exact hP, hD⟩, hS.F ht⟩) hS.2.2 dX11_copy_16
  · have g52130 : Rg 0 3 x0 := (hr52126.2.1 c52127)
    have g52131 : Rg 1 1 r52126 := rg_ne_lo (k := 0) hr52126.1 (by decide) c52127 (by decide)
    refine lv_iload_n hx hb dX11_copy_7 rfl (lv_at hl 3 rfl) ?_
    refine lz_ss (As := [.int x2]) (rest := []) ⟨hx, hb, hml, hown, hts⟩ (k_X11_isSheet_z l D cI cS x2) hKK (hP.sub (ws' := []) [] rfl) (va_cwS 1 hts gX11_copy_X11_isSheet rfl rfl rfl (by decide +kernel) ⟨Nat.le_of_ble_eq_true rfl, Nat.le_of_ble_eq_true rfl⟩) rfl hl.1 rfl (Nat.le_of_ble_eq_true rfl) dX11_copy_8 ⟨Nat.le_of_ble_eq_true rfl, Nat.le_of_ble_eq_true rfl⟩ (fun r52132 hr52132 => ?_)
    refine lv_if_ne (tgt := 17) hx hb dX11_copy_11 (by decide) (fun c52133 => ?_) (fun c52133 => ?_)
    · have g52134 : Rg 0 3 x2 := (hr52132.2.1 c52133)
      have g52135 : Rg 1 1 r52132 := rg_ne_lo (k := 0) hr52132.1 (by decide) c52133 (by decide)
      refine lv_aload_n hx hb dX11_copy_17 rfl (lv_at hl 0 rfl) ?_
      refine va_get (D := D) (ci := 11) (v := .ref (a 25)) (C := RX11) (T := TX11) (N := 16) hx hb hts hin11 hown hK hP 0 rfl rfl 12 (by decide) (hts (.fieldLink RX11 75 "MissedPoints" "sheets" "[LMissedPoints$Sheet;") (by decide +kernel)) (fun _ h9 => h9) rfl dX11_copy_18 ?_
      refine lv_iload_n hx hb dX11_copy_21 rfl (lv_at hl 1 rfl) ?_
      obtain ⟨q52136, hq52136, eq52136, zq52136⟩ := ks_sh (a := a) g52130
      refine va_aldq hx hb hK hP 25 1 rfl rfl (rg_in g52130 (by decide) (by decide)) dX11_copy_22 ?_
      refine lz_va (y := .ref (a (26 + 2 * q52136))) (by show va_rf _ = _; rw [zq52136]; rfl) ?_
      have esq52136_1 : (L (26 + 2 * x0.toNatClampNeg) 1).toInt = (L (26 + 2 * q52136) 1).toInt := by rw [eq52136]
      have esq52136_2 : (L (26 + 2 * x0.toNatClampNeg) 2).toInt = (L (26 + 2 * q52136) 2).toInt := by rw [eq52136]
      refine lv_astore (lv' := [(6, .ref (a (26 + 2 * q52136))), (0, .ref (a 0)), (1, .int x0), (2, .int x1), (3, .int x2), (4, .int x3), (5, .int x4)]) hx hb dX11_copy_23 hl (by decide) rfl (fun ls hl => ?_)
      refine lv_aload_n hx hb dX11_copy_25 rfl (lv_at hl 1 rfl) ?_
      refine va_get (D := D) (ci := 11) (v := .ref (a 25)) (C := RX11) (T := TX11) (N := 16) hx hb hts hin11 hown hK hP 0 rfl rfl 12 (by decide) (hts (.fieldLink RX11 75 "MissedPoints" "sheets" "[LMissedPoints$Sheet;") (by decide +kernel)) (fun _ h9 => h9) rfl dX11_copy_26 ?_
      refine lv_iload_n hx hb dX11_copy_29 rfl (lv_at hl 4 rfl) ?_
      obtain ⟨q52137, hq52137, eq52137, zq52137⟩ := ks_sh (a := a) g52134
      refine va_aldq hx hb hK hP 25 1 rfl rfl (rg_in g52134 (by decide) (by decide)) dX11_copy_30 ?_
      refine lz_va (y := .ref (a (26 + 2 * q52137))) (by show va_rf _ = _; rw [zq52137]; rfl) ?_
      have esq52137_1 : (L (26 + 2 * x2.toNatClampNeg) 1).toInt = (L (26 + 2 * q52137) 1).toInt := by rw [eq52137]
      have esq52137_2 : (L (26 + 2 * x2.toNatClampNeg) 2).toInt = (L (26 + 2 * q52137) 2).toInt := by rw [eq52137]
      refine lv_astore (lv' := [(7, .ref (a (26 + 2 * q52137))), (6, .ref (a (26 + 2 * q52136))), (0, .ref (a 0)), (1, .int x0), (2, .int x1), (3, .int x2), (4, .int x3), (5, .int x4)]) hx hb dX11_copy_31 hl (by decide) rfl (fun ls hl => ?_)
      refine lv_aload hx hb dX11_copy_33 (lv_at hl 1 rfl) ?_
      refine wk_sv (26 + 2 * q52136) (As := []) (rest := []) ⟨hx, hb, hml, hown, hts⟩ (k_X6_isMissing_z l D cI cS a na nc N L u hL hN q52136 hq52136) hKK hP (ci := 6) rfl (gx_sh hq52136) (cwV 0 hts gX11_copy_X6_isMissing rfl rfl rfl (by decide +kernel) ⟨Nat.le_of_ble_eq_true rfl, Nat.le_of_ble_eq_true rfl⟩) rfl hl.1 rfl (Nat.le_of_ble_eq_true rfl) dX11_copy_35 ⟨Nat.le_of_ble_eq_true rfl, Nat.le_of_ble_eq_true rfl⟩ (fun r52138 hr52138 => ?_)
      refine lv_if_ne (tgt := 49) hx hb dX11_copy_38 (by decide) (fun c52139 => ?_) (fun c52139 => ?_)
      · have zn52140 : (L (26 + 2 * q52136) 1).toInt = -1 := hr52138.2.1 c52139
        have g52141 : Rg 1 1 r52138 := rg_ne_lo (k := 0) hr52138.1 (by decide) c52139 (by decide)
        refine lv_bipush (v := (-11)) hx hb dX11_copy_49 (by decide) ?_
        subst hAe
        exact W.iret (v := (-11)) hx hb hr (fun t ht hW => ⟨⟨_, u, rfl, ⟨(by decide : Rg (-13) 40 ((-11) : Int32)), (by have y90 : ¬ r52126.toInt = (0 : Int32).toInt := fun z => c52127 (Int32.toInt_inj.mp z); have y91 : ¬ r52132.toInt = (0 : Int32).toInt := fun z => c52133 (Int32.toInt_inj.mp z); have y92 : ¬ r52138.toInt = (0 : Int32).toInt := fun z => c52139 (Int32.toInt_inj.mp z); have y93 : Rg 0 3 x0 := g52130; have y94 : Rg 1 1 r52126 := g52131; have y95 : Rg 0 3 x2 := g52134; have y96 : Rg 1 1 r52132 := g52135; have y97 : Rg 1 1 r52138 := g52141; have y98 : Rg 0 3 x0 := g52130; have y99 : Rg 0 3 x2 := g52134; have y9c10 : ((-11) : Int32).toInt = -11 := (by decide); have y9c11 : (0 : Int32).toInt = 0 := (by decide); have y9c12 : (1 : Int32).toInt = 1 := (by decide); skip; omega)⟩, by rw [ht]; exact hP, hD⟩, hS.F ht⟩) hS.2.2 dX11_copy_51
      · have zn52142 : ¬ (L (26 + 2 * q52136) 1).toInt = -1 := hr52138.2.2 c52139
        have g52143 : Rg 0 0 r52138 := wk_eql hr52138.1 (by decide : Rg 0 0 (0 : Int32)) c52139 (by decide)
        refine lv_aload hx hb dX11_copy_41 (lv_at hl 0 rfl) ?_
        refine wk_sv (26 + 2 * q52137) (As := []) (rest := []) ⟨hx, hb, hml, hown, hts⟩ (k_X6_isMissing_z l D cI cS a na nc N L u hL hN q52137 hq52137) hKK hP (ci := 6) rfl (gx_sh hq52137) (cwV 0 hts gX11_copy_X6_isMissing rfl rfl rfl (by decide +kernel) ⟨Nat.le_of_ble_eq_true rfl, Nat.le_of_ble_eq_true rfl⟩) rfl hl.1 rfl (Nat.le_of_ble_eq_true rfl) dX11_copy_43 ⟨Nat.le_of_ble_eq_true rfl, Nat.le_of_ble_eq_true rfl⟩ (fun r52144 hr52144 => ?_)
        refine lv_if_eq (tgt := 52) hx hb dX11_copy_46 (by decide) (fun c52145 => ?_) (fun c52145 => ?_)
        · have zn52146 : ¬ (L (26 + 2 * q52137) 1).toInt = -1 := hr52144.2.2 c52145
          have g52147 : Rg 0 0 r52144 := wk_eql hr52144.1 (by decide : Rg 0 0 (0 : Int32)) c52145 (by decide)
          refine lv_aload hx hb dX11_copy_52 (lv_at hl 1 rfl) ?_
          refine va_getN (D := D) (ci := 6) (v := .int ((L (26 + 2 * q52136) 1))) (C := RX6) (T := TX6) (N := 3) hx hb hts hin6 hown hK hP (26 + 2 * q52136) (gx_sh hq52136) rfl 1 (by decide) (va_Nw.use rfl hKK.2.2.2.2.2.2.2.1) (fun _ h9 => h9) rfl dX11_copy_54 ?_
          refine lv_aload hx hb dX11_copy_57 (lv_at hl 0 rfl) ?_
          refine va_getN (D := D) (ci := 6) (v := .int ((L (26 + 2 * q52137) 1))) (C := RX6) (T := TX6) (N := 3) hx hb hts hin6 hown hK hP (26 + 2 * q52137) (gx_sh hq52137) rfl 1 (by decide) (va_Nw.use rfl hKK.2.2.2.2.2.2.2.1) (fun _ h9 => h9) rfl dX11_copy_59 ?_
          refine lv_icmp_eq (tgt := 68) hx hb dX11_copy_62 (by decide) (fun c52148 => ?_) (fun c52148 => ?_)
          · refine lv_aload hx hb dX11_copy_68 (lv_at hl 1 rfl) ?_
            refine lv_iload_n hx hb dX11_copy_70 rfl (lv_at hl 4 rfl) ?_
            refine lv_iload hx hb dX11_copy_71 (lv_at hl 7 rfl) ?_
            refine wk_sv (26 + 2 * q52136) (As := [.int x1, .int x4]) (rest := []) ⟨hx, hb, hml, hown, hts⟩ (k_X6_hasRange_z l D cI cS a na nc N L u hL hN q52136 hq52136 x1 x4) hKK hP (ci := 6) rfl (gx_sh hq52136) (cwV 2 hts gX11_copy_X6_hasRange rfl rfl rfl (by decide +kernel) ⟨Nat.le_of_ble_eq_true rfl, Nat.le_of_ble_eq_true rfl⟩) rfl hl.1 rfl (Nat.le_of_ble_eq_true rfl) dX11_copy_73 ⟨Nat.le_of_ble_eq_true rfl, Nat.le_of_ble_eq_true rfl⟩ (fun r52149 hr52149 => ?_)
            refine lv_if_eq (tgt := 91) hx hb dX11_copy_76 (by decide) (fun c52150 => ?_) (fun c52150 => ?_)
            · have zn52151 : ¬ (0 ≤ x1.toInt ∧ 0 ≤ x4.toInt ∧ x1.toInt + x4.toInt ≤ (L (26 + 2 * q52136) 2).toInt) := hr52149.2.2 c52150
              have g52152 : Rg 0 0 r52149 := wk_eql hr52149.1 (by decide : Rg 0 0 (0 : Int32)) c52150 (by decide)
              refine lv_bipush (v := (-12)) hx hb dX11_copy_91 (by decide) ?_
              subst hAe
              exact W.iret (v := (-12)) hx hb hr (fun t ht hW => ⟨⟨_, u, rfl, ⟨(by decide : Rg (-13) 40 ((-12) : Int32)), (by have y90 : ¬ r52126.toInt = (0 : Int32).toInt := fun z => c52127 (Int32.toInt_inj.mp z); have y91 : ¬ r52132.toInt = (0 : Int32).toInt := fun z => c52133 (Int32.toInt_inj.mp z); have y92 : r52138.toInt = (0 : Int32).toInt := congrArg Int32.toInt c52139; have y93 : r52144.toInt = (0 : Int32).toInt := congrArg Int32.toInt c52145; have y94 : ((L (26 + 2 * q52136) 1)).toInt = ((L (26 + 2 * q52137) 1)).toInt := congrArg Int32.toInt c52148; have y95 : r52149.toInt = (0 : Int32).toInt := congrArg Int32.toInt c52150; have y96 : Rg 0 3 x0 := g52130; have y97 : Rg 1 1 r52126 := g52131; have y98 : Rg 0 3 x2 := g52134; have y99 : Rg 1 1 r52132 := g52135; have y910 : Rg 0 0 r52138 := g52143; have y911 : Rg 0 0 r52144 := g52147; have y912 : Rg 0 0 r52149 := g52152; have y913 : Rg 0 3 x0 := g52130; have y914 : Rg 0 3 x2 := g52134; have y9c15 : ((-12) : Int32).toInt = -12 := (by decide); have y9c16 : (0 : Int32).toInt = 0 := (by decide); have y9c17 : (1 : Int32).toInt = 1 := (by decide); skip; omega)⟩, by rw [ht]; exact hP, hD⟩, hS.F ht⟩) hS.2.2 dX11_copy_93
            · have g52153 : Rg 0 40 x1 := (hr52149.2.1 c52150).1
              have g52154 : Rg 0 40 x4 := (hr52149.2.1 c52150).2
              have zn52155 : (0 ≤ x1.toInt ∧ 0 ≤ x4.toInt ∧ x1.toInt + x4.toInt ≤ (L (26 + 2 * q52136) 2).toInt) := hr52149.2.1 c52150
              have g52156 : Rg 1 1 r52149 := rg_ne_lo (k := 0) hr52149.1 (by decide) c52150 (by decide)
              refine lv_aload hx hb dX11_copy_79 (lv_at hl 0 rfl) ?_
              refine lv_iload hx hb dX11_copy_81 (lv_at hl 6 rfl) ?_
              refine lv_iload hx hb dX11_copy_83 (lv_at hl 7 rfl) ?_
              refine wk_sv (26 + 2 * q52137) (As := [.int x3, .int x4]) (rest := []) ⟨hx, hb, hml, hown, hts⟩ (k_X6_hasRange_z l D cI cS a na nc N L u hL hN q52137 hq52137 x3 x4) hKK hP (ci := 6) rfl (gx_sh hq52137) (cwV 2 hts gX11_copy_X6_hasRange rfl rfl rfl (by decide +kernel) ⟨Nat.le_of_ble_eq_true rfl, Nat.le_of_ble_eq_true rfl⟩) rfl hl.1 rfl (Nat.le_of_ble_eq_true rfl) dX11_copy_85 ⟨Nat.le_of_ble_eq_true rfl, Nat.le_of_ble_eq_true rfl⟩ (fun r52157 hr52157 => ?_)
              refine lv_if_ne (tgt := 94) hx hb dX11_copy_88 (by decide) (fun c52158 => ?_) (fun c52158 => ?_)
              · have g52159 : Rg 0 40 x3 := (hr52157.2.1 c52158).1
                have zn52160 : (0 ≤ x3.toInt ∧ 0 ≤ x4.toInt ∧ x3.toInt + x4.toInt ≤ (L (26 + 2 * q52137) 2).toInt) := hr52157.2.1 c52158
                have g52161 : Rg 1 1 r52157 := rg_ne_lo (k := 0) hr52157.1 (by decide) c52158 (by decide)
                refine lv_aload hx hb dX11_copy_94 (lv_at hl 1 rfl) ?_
                refine lv_iload_n hx hb dX11_copy_96 rfl (lv_at hl 4 rfl) ?_
                refine lv_aload hx hb dX11_copy_97 (lv_at hl 0 rfl) ?_
                refine lv_iload hx hb dX11_copy_99 (lv_at hl 6 rfl) ?_
                refine lv_iload hx hb dX11_copy_101 (lv_at hl 7 rfl) ?_
                refine wk_qv (wX cI cS a na nc N L) u (As := [.int x1, .ref (a (26 + 2 * q52137)), .int x3, .int x4]) (rest := []) ⟨hx, hb, hml, hown, hts⟩ (k_X6_copyTo l D cI cS _ a na nc N L u hL hN q52136 hq52136 q52137 hq52137 x1 x3 x4) hKK hP hD hS hA (26 + 2 * q52136) (ci := 6) rfl (gx_sh hq52136) (cwV 4 hts gX11_copy_X6_copyTo rfl rfl rfl (by decide +kernel) ⟨Nat.le_of_ble_eq_true rfl, Nat.le_of_ble_eq_true rfl⟩) rfl hl.1 rfl (Nat.le_of_ble_eq_true rfl) dX11_copy_103 ⟨Nat.le_of_ble_eq_true rfl, Nat.le_of_ble_eq_true rfl⟩ (fun u H locs hr52162 hP hD hS => ?_)
                refine lv_iload hx hb dX11_copy_106 (lv_at hl 7 rfl) ?_
                subst hAe
                exact W.iret (v := x4) hx hb hr (fun t ht hW => ⟨⟨_, u, rfl, ⟨(show Rg (-13) 40 x4 from rg_w g52154 (by decide) (by decide)), (by have y90 : ¬ r52126.toInt = (0 : Int32).toInt := fun z => c52127 (Int32.toInt_inj.mp z); have y91 : ¬ r52132.toInt = (0 : Int32).toInt := fun z => c52133 (Int32.toInt_inj.mp z); have y92 : r52138.toInt = (0 : Int32).toInt := congrArg Int32.toInt c52139; have y93 : r52144.toInt = (0 : Int32).toInt := congrArg Int32.toInt c52145; have y94 : ((L (26 + 2 * q52136) 1)).toInt = ((L (26 + 2 * q52137) 1)).toInt := congrArg Int32.toInt c52148; have y95 : ¬ r52149.toInt = (0 : Int32).toInt := fun z => c52150 (Int32.toInt_inj.mp z); have y96 : ¬ r52157.toInt = (0 : Int32).toInt := fun z => c52158 (Int32.toInt_inj.mp z); have y97 : Rg 0 3 x0 := g52130; have y98 : Rg 1 1 r52126 := g52131; have y99 : Rg 0 3 x2 := g52134; have y910 : Rg 1 1 r52132 := g52135; have y911 : Rg 0 0 r52138 := g52143; have y912 : Rg 0 0 r52144 := g52147; have y913 : Rg 0 40 x1 := g52153; have y914 : Rg 0 40 x4 := g52154; have y915 : Rg 1 1 r52149 := g52156; have y916 : Rg 0 40 x3 := g52159; have y917 : Rg 1 1 r52157 := g52161; have y918 : Rg 0 3 x0 := g52130; have y919 : Rg 0 40 x1 := g52153; have y920 : Rg 0 3 x2 := g52134; have y921 : Rg 0 40 x3 := g52159; have y922 : Rg 0 40 x4 := g52154; have y923 : Rg 0 40 x4 := g52154; have y924 : Rg 0 40 x4 := g52154; have y9c25 : (0 : Int32).toInt = 0 := (by decide); have y9c26 : (1 : Int32).toInt = 1 := (by decide); skip; omega)⟩, by rw [ht]; exact hP, hD⟩, hS.F ht⟩) hS.2.2 dX11_copy_108
              · have zn52163 : ¬ (0 ≤ x3.toInt ∧ 0 ≤ x4.toInt ∧ x3.toInt + x4.toInt ≤ (L (26 + 2 * q52137) 2).toInt) := hr52157.2.2 c52158
                have g52164 : Rg 0 0 r52157 := wk_eql hr52157.1 (by decide : Rg 0 0 (0 : Int32)) c52158 (by decide)
                refine lv_bipush (v := (-12)) hx hb dX11_copy_91 (by decide) ?_
                subst hAe
                exact W.iret (v := (-12)) hx hb hr (fun t ht hW => ⟨⟨_, u, rfl, ⟨(by decide : Rg (-13) 40 ((-12) : Int32)), (by have y90 : ¬ r52126.toInt = (0 : Int32).toInt := fun z => c52127 (Int32.toInt_inj.mp z); have y91 : ¬ r52132.toInt = (0 : Int32).toInt := fun z => c52133 (Int32.toInt_inj.mp z); have y92 : r52138.toInt = (0 : Int32).toInt := congrArg Int32.toInt c52139; have y93 : r52144.toInt = (0 : Int32).toInt := congrArg Int32.toInt c52145; have y94 : ((L (26 + 2 * q52136) 1)).toInt = ((L (26 + 2 * q52137) 1)).toInt := congrArg Int32.toInt c52148; have y95 : ¬ r52149.toInt = (0 : Int32).toInt := fun z => c52150 (Int32.toInt_inj.mp z); have y96 : r52157.toInt = (0 : Int32).toInt := congrArg Int32.toInt c52158; have y97 : Rg 0 3 x0 := g52130; have y98 : Rg 1 1 r52126 := g52131; have y99 : Rg 0 3 x2 := g52134; have y910 : Rg 1 1 r52132 := g52135; have y911 : Rg 0 0 r52138 := g52143; have y912 : Rg 0 0 r52144 := g52147; have y913 : Rg 0 40 x1 := g52153; have y914 : Rg 0 40 x4 := g52154; have y915 : Rg 1 1 r52149 := g52156; have y916 : Rg 0 0 r52157 := g52164; have y917 : Rg 0 3 x0 := g52130; have y918 : Rg 0 40 x1 := g52153; have y919 : Rg 0 3 x2 := g52134; have y920 : Rg 0 40 x4 := g52154; have y9c21 : ((-12) : Int32).toInt = -12 := (by decide); have y9c22 : (0 : Int32).toInt = 0 := (by decide); have y9c23 : (1 : Int32).toInt = 1 := (by decide); skip; omega)⟩, by rw [ht]; exact hP, hD⟩, hS.F ht⟩) hS.2.2 dX11_copy_93
          · refine lv_bipush (v := (-13)) hx hb dX11_copy_65 (by decide) ?_
            subst hAe
            exact W.iret (v := (-13)) hx hb hr (fun t ht hW => ⟨⟨_, u, rfl, ⟨(by decide : Rg (-13) 40 ((-13) : Int32)), (by have y90 : ¬ r52126.toInt = (0 : Int32).toInt := fun z => c52127 (Int32.toInt_inj.mp z); have y91 : ¬ r52132.toInt = (0 : Int32).toInt := fun z => c52133 (Int32.toInt_inj.mp z); have y92 : r52138.toInt = (0 : Int32).toInt := congrArg Int32.toInt c52139; have y93 : r52144.toInt = (0 : Int32).toInt := congrArg Int32.toInt c52145; have y94 : ¬ ((L (26 + 2 * q52136) 1)).toInt = ((L (26 + 2 * q52137) 1)).toInt := fun z => c52148 (Int32.toInt_inj.mp z); have y95 : Rg 0 3 x0 := g52130; have y96 : Rg 1 1 r52126 := g52131; have y97 : Rg 0 3 x2 := g52134; have y98 : Rg 1 1 r52132 := g52135; have y99 : Rg 0 0 r52138 := g52143; have y910 : Rg 0 0 r52144 := g52147; have y911 : Rg 0 3 x0 := g52130; have y912 : Rg 0 3 x2 := g52134; have y9c13 : ((-13) : Int32).toInt = -13 := (by decide); have y9c14 : (0 : Int32).toInt = 0 := (by decide); have y9c15 : (1 : Int32).toInt = 1 := (by decide); skip; omega)⟩, by rw [ht]; exact hP, hD⟩, hS.F ht⟩) hS.2.2 dX11_copy_67
        · have zn52165 : (L (26 + 2 * q52137) 1).toInt = -1 := hr52144.2.1 c52145
          have g52166 : Rg 1 1 r52144 := rg_ne_lo (k := 0) hr52144.1 (by decide) c52145 (by decide)
          refine lv_bipush (v := (-11)) hx hb dX11_copy_49 (by decide) ?_
          subst hAe
          exact W.iret (v := (-11)) hx hb hr (fun t ht hW => ⟨⟨_, u, rfl, ⟨(by decide : Rg (-13) 40 ((-11) : Int32)), (by have y90 : ¬ r52126.toInt = (0 : Int32).toInt := fun z => c52127 (Int32.toInt_inj.mp z); have y91 : ¬ r52132.toInt = (0 : Int32).toInt := fun z => c52133 (Int32.toInt_inj.mp z); have y92 : r52138.toInt = (0 : Int32).toInt := congrArg Int32.toInt c52139; have y93 : ¬ r52144.toInt = (0 : Int32).toInt := fun z => c52145 (Int32.toInt_inj.mp z); have y94 : Rg 0 3 x0 := g52130; have y95 : Rg 1 1 r52126 := g52131; have y96 : Rg 0 3 x2 := g52134; have y97 : Rg 1 1 r52132 := g52135; have y98 : Rg 0 0 r52138 := g52143; have y99 : Rg 1 1 r52144 := g52166; have y910 : Rg 0 3 x0 := g52130; have y911 : Rg 0 3 x2 := g52134; have y9c12 : ((-11) : Int32).toInt = -11 := (by decide); have y9c13 : (0 : Int32).toInt = 0 := (by decide); have y9c14 : (1 : Int32).toInt = 1 := (by decide); skip; omega)⟩, by rw [ht]; exact hP, hD⟩, hS.F ht⟩) hS.2.2 dX11_copy_51
    · have zt52167 : (x2.toInt < 0 ∨ 3 < x2.toInt) := hr52132.2.2 c52133
      have g52168 : Rg 0 0 r52132 := wk_eql hr52132.1 (by decide : Rg 0 0 (0 : Int32)) c52133 (by decide)
      refine lv_bipush (v := (-2)) hx hb dX11_copy_14 (by decide) ?_
      subst hAe
      exact W.iret (v := (-2)) hx hb hr (fun t ht hW => ⟨⟨_, u, rfl, ⟨(by decide : Rg (-13) 40 ((-2) : Int32)), (by have y90 : ¬ r52126.toInt = (0 : Int32).toInt := fun z => c52127 (Int32.toInt_inj.mp z); have y91 : r52132.toInt = (0 : Int32).toInt := congrArg Int32.toInt c52133; have y92 : Rg 0 3 x0 := g52130; have y93 : Rg 1 1 r52126 := g52131; have y94 : Rg 0 0 r52132 := g52168; have y95 : Rg 0 3 x0 := g52130; have y9c6 : ((-2) : Int32).toInt = -2 := (by decide); have y9c7 : (0 : Int32).toInt = 0 := (by decide); have y9c8 : (1 : Int32).toInt = 1 := (by decide); skip; omega)⟩, by rw [ht]; exact hP, hD⟩, hS.F ht⟩) hS.2.2 dX11_copy_16
