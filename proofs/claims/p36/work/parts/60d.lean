set_option maxRecDepth 20000 in
theorem ggX11_alone_X11_greatestDivisor : GoodIn wsX11_alone wsX11_greatestDivisor := goodIn_r _ [85] rfl (by decide +kernel)
set_option maxRecDepth 20000 in
theorem gX11_alone_X11_greatestDivisor : GoodIn wsX11_alone (va_wsS RX11 157 yX11_greatestDivisor wsX11_greatestDivisor) := goodIn_app (goodIn_of _ (by decide +kernel)) ggX11_alone_X11_greatestDivisor
set_option maxRecDepth 20000 in
theorem ggX11_alone_X2_all : GoodIn wsX11_alone wsX2_all := goodIn_r _ [12, 8, 102, 103, 104] rfl (by decide +kernel)
set_option maxRecDepth 20000 in
theorem gX11_alone_X2_all : GoodIn wsX11_alone (wsV RX11 128 RX2 yX2_all wsX2_all) := goodIn_app (goodIn_of _ (by decide +kernel)) ggX11_alone_X2_all
set_option maxRecDepth 20000 in
theorem ggX11_alone_X2_hasPoint : GoodIn wsX11_alone wsX2_hasPoint := goodIn_r _ [7, 8, 102, 103, 104] rfl (by decide +kernel)
set_option maxRecDepth 20000 in
theorem gX11_alone_X2_hasPoint : GoodIn wsX11_alone (wsV RX11 116 RX2 yX2_hasPoint wsX2_hasPoint) := goodIn_app (goodIn_of _ (by decide +kernel)) ggX11_alone_X2_hasPoint
set_option maxRecDepth 20000 in
theorem ggX11_alone_X3_best : GoodIn wsX11_alone wsX3_best := goodIn_r _ [17, 18, 19, 20, 16, 21, 22, 23, 24, 25, 26, 27, 28, 29, 30, 31, 32, 33, 34, 35, 36, 37, 38, 39, 40, 41, 42, 43, 44, 45, 46, 47, 48, 49, 50, 51, 52, 53, 54, 55, 56, 105, 106, 107, 108, 102, 103, 104, 109, 110] rfl (by decide +kernel)
set_option maxRecDepth 20000 in
theorem gX11_alone_X3_best : GoodIn wsX11_alone (wsV RX11 131 RX3 yX3_best wsX3_best) := goodIn_app (goodIn_of _ (by decide +kernel)) ggX11_alone_X3_best
set_option maxRecDepth 20000 in
theorem ggX11_alone_X3_number : GoodIn wsX11_alone wsX3_number := goodIn_r _ [60, 25, 61, 62, 29, 18, 19, 20, 16, 21, 22, 23, 24, 26, 27, 28, 30, 31, 32, 63, 64, 65, 66, 67, 68, 69, 70, 71, 72, 73, 74, 75, 76, 77, 78, 79, 80, 81, 37, 38, 39, 40, 41, 47, 48, 49, 50, 51, 52, 42, 43, 44, 45, 46, 53, 54, 55, 56, 105, 106, 107, 108, 109, 110, 102, 103, 104] rfl (by decide +kernel)
set_option maxRecDepth 20000 in
theorem gX11_alone_X3_number : GoodIn wsX11_alone (wsV RX11 153 RX3 yX3_number wsX3_number) := goodIn_app (goodIn_of _ (by decide +kernel)) ggX11_alone_X3_number
theorem dX11_alone_0 : decode cX11_alone 0 = .ok (.aload_n 0, 1) := by decide +kernel
theorem dX11_alone_1 : decode cX11_alone 1 = .ok (.getfield 12, 3) := by decide +kernel
theorem dX11_alone_100 : decode cX11_alone 100 = .ok (.iload 4, 2) := by decide +kernel
theorem dX11_alone_102 : decode cX11_alone 102 = .ok (.goto 5, 3) := by decide +kernel
theorem dX11_alone_105 : decode cX11_alone 105 = .ok (.iload 5, 2) := by decide +kernel
theorem dX11_alone_107 : decode cX11_alone 107 = .ok (.iload 6, 2) := by decide +kernel
theorem dX11_alone_109 : decode cX11_alone 109 = .ok (.idiv, 1) := by decide +kernel
theorem dX11_alone_11 : decode cX11_alone 11 = .ok (.iload_n 2, 1) := by decide +kernel
theorem dX11_alone_110 : decode cX11_alone 110 = .ok (.ireturn, 1) := by decide +kernel
theorem dX11_alone_12 : decode cX11_alone 12 = .ok (.ifCond .eq 11, 3) := by decide +kernel
theorem dX11_alone_15 : decode cX11_alone 15 = .ok (.iload_n 2, 1) := by decide +kernel
theorem dX11_alone_16 : decode cX11_alone 16 = .ok (.iconst 1, 1) := by decide +kernel
theorem dX11_alone_17 : decode cX11_alone 17 = .ok (.if_icmp .eq 6, 3) := by decide +kernel
theorem dX11_alone_20 : decode cX11_alone 20 = .ok (.bipush (-2), 2) := by decide +kernel
theorem dX11_alone_23 : decode cX11_alone 23 = .ok (.aload_n 0, 1) := by decide +kernel
theorem dX11_alone_24 : decode cX11_alone 24 = .ok (.getfield 21, 3) := by decide +kernel
theorem dX11_alone_27 : decode cX11_alone 27 = .ok (.aload_n 0, 1) := by decide +kernel
theorem dX11_alone_28 : decode cX11_alone 28 = .ok (.getfield 12, 3) := by decide +kernel
theorem dX11_alone_31 : decode cX11_alone 31 = .ok (.invokevirtual 128, 3) := by decide +kernel
theorem dX11_alone_34 : decode cX11_alone 34 = .ok (.invokevirtual 131, 3) := by decide +kernel
theorem dX11_alone_37 : decode cX11_alone 37 = .ok (.istore_n 3, 1) := by decide +kernel
theorem dX11_alone_38 : decode cX11_alone 38 = .ok (.aload_n 0, 1) := by decide +kernel
theorem dX11_alone_39 : decode cX11_alone 39 = .ok (.getfield 21, 3) := by decide +kernel
theorem dX11_alone_4 : decode cX11_alone 4 = .ok (.iload_n 1, 1) := by decide +kernel
theorem dX11_alone_42 : decode cX11_alone 42 = .ok (.aload_n 0, 1) := by decide +kernel
theorem dX11_alone_43 : decode cX11_alone 43 = .ok (.getfield 12, 3) := by decide +kernel
theorem dX11_alone_46 : decode cX11_alone 46 = .ok (.invokevirtual 128, 3) := by decide +kernel
theorem dX11_alone_49 : decode cX11_alone 49 = .ok (.iconst 1, 1) := by decide +kernel
theorem dX11_alone_5 : decode cX11_alone 5 = .ok (.invokevirtual 116, 3) := by decide +kernel
theorem dX11_alone_50 : decode cX11_alone 50 = .ok (.iload_n 1, 1) := by decide +kernel
theorem dX11_alone_51 : decode cX11_alone 51 = .ok (.ishl, 1) := by decide +kernel
theorem dX11_alone_52 : decode cX11_alone 52 = .ok (.iconst (-1), 1) := by decide +kernel
theorem dX11_alone_53 : decode cX11_alone 53 = .ok (.ixor, 1) := by decide +kernel
theorem dX11_alone_54 : decode cX11_alone 54 = .ok (.iand, 1) := by decide +kernel
theorem dX11_alone_55 : decode cX11_alone 55 = .ok (.iload_n 3, 1) := by decide +kernel
theorem dX11_alone_56 : decode cX11_alone 56 = .ok (.invokevirtual 153, 3) := by decide +kernel
theorem dX11_alone_59 : decode cX11_alone 59 = .ok (.istore 4, 2) := by decide +kernel
theorem dX11_alone_61 : decode cX11_alone 61 = .ok (.aload_n 0, 1) := by decide +kernel
theorem dX11_alone_62 : decode cX11_alone 62 = .ok (.getfield 21, 3) := by decide +kernel
theorem dX11_alone_65 : decode cX11_alone 65 = .ok (.aload_n 0, 1) := by decide +kernel
theorem dX11_alone_66 : decode cX11_alone 66 = .ok (.getfield 12, 3) := by decide +kernel
theorem dX11_alone_69 : decode cX11_alone 69 = .ok (.invokevirtual 128, 3) := by decide +kernel
theorem dX11_alone_72 : decode cX11_alone 72 = .ok (.iload_n 3, 1) := by decide +kernel
theorem dX11_alone_73 : decode cX11_alone 73 = .ok (.invokevirtual 153, 3) := by decide +kernel
theorem dX11_alone_76 : decode cX11_alone 76 = .ok (.istore 5, 2) := by decide +kernel
theorem dX11_alone_78 : decode cX11_alone 78 = .ok (.iload 4, 2) := by decide +kernel
theorem dX11_alone_8 : decode cX11_alone 8 = .ok (.ifCond .eq 12, 3) := by decide +kernel
theorem dX11_alone_80 : decode cX11_alone 80 = .ok (.iload 5, 2) := by decide +kernel
theorem dX11_alone_82 : decode cX11_alone 82 = .ok (.invokestatic 157, 3) := by decide +kernel
theorem dX11_alone_85 : decode cX11_alone 85 = .ok (.istore 6, 2) := by decide +kernel
theorem dX11_alone_87 : decode cX11_alone 87 = .ok (.iload 6, 2) := by decide +kernel
theorem dX11_alone_89 : decode cX11_alone 89 = .ok (.iconst 1, 1) := by decide +kernel
theorem dX11_alone_90 : decode cX11_alone 90 = .ok (.if_icmp .ge 6, 3) := by decide +kernel
theorem dX11_alone_93 : decode cX11_alone 93 = .ok (.bipush (-2), 2) := by decide +kernel
theorem dX11_alone_95 : decode cX11_alone 95 = .ok (.ireturn, 1) := by decide +kernel
theorem dX11_alone_96 : decode cX11_alone 96 = .ok (.iload_n 2, 1) := by decide +kernel
theorem dX11_alone_97 : decode cX11_alone 97 = .ok (.ifCond .ne 8, 3) := by decide +kernel
set_option maxHeartbeats 4000000 in
set_option maxRecDepth 100000 in
theorem k_X11_alone_1 (l : Launch) (D : va_G) (cI cS : ClassId) (sz : Nat) (a : Nat → Nat) (na nc : Nat) (L u0 : SU) (hL : TyX L) (x0 x1 : Int32) (px1 : Rg 0 1 x1) (hpt : 0 ≤ x0.toInt ∧ x0.toInt < (L 1 1).toInt) : Met l yX11_alone wsX11_alone ({ frames := 16, cells := 0, slots := 0, locals := 640 }) (PQ D cI cS (wX cI cS a na nc 24576 L u0) sz [.ref (a 0), .int x0, .int x1]) (QF (S := SU) D (wX cI cS a na nc 24576 L u0) (wX cI cS a na nc 24576 L) sz (fun r _ => Rg (-2147483648) 2147483647 r ∧ True)) 0 0 (va_A (wX cI cS a na nc 24576 L u0) sz) := by
  refine Met.ofW (cc := cX11_alone) (maxL := 7) (ret := (some .int)) (by decide) rfl ?_
  intro p e s m args below meth c s₁ B hml hv
  obtain ⟨rfl, hsz, hP, hKK, hD0⟩ := hv
  have hx := B.exec
  have hb := B.bytes
  have hr := B.returns
  have hts := atoms_spec (ws := wsX11_alone) B.pre
  have hown : s.vm.findClass RX11 = some m.cls := findClass_of_methodNamed B.named
  have hlocks := B.notSynchronized
  have hK := hKK.1
  have hin11 : ∀ w ∈ wsX110, w ∈ wsX11_alone := by decide +kernel
  subst hsz
  have hD := hD0.self (sz := s.heap.size)
  obtain ⟨A, hAe⟩ : ∃ A, A = va_A (wX cI cS a na nc 24576 L u0) s.heap.size := ⟨_, rfl⟩
  rw [← hAe] at hD
  have hA : ∀ q : Nat, s.heap.size ≤ q → A q := fun q h => by rw [hAe]; exact Or.inr h
  have hS : va_S A s.heap s.heap [] := va_S.rf
  have hl := lv_entry ([.ref (a 0), .int x0, .int x1]) (n := 7) (Nat.le_of_ble_eq_true rfl)
  rw [lg_entry_eq]
  generalize (lg_sl ([.ref (a 0), .int x0, .int x1]) ++ List.replicate (7 - (lg_sl ([.ref (a 0), .int x0, .int x1])).length) Slot.unset).toArray = ls at hl ⊢
  have hl : lv_has ls 7 [(0, .ref (a 0)), (1, .int x0), (2, .int x1)] := hl
  obtain ⟨u, hu9⟩ : ∃ u : SU, u = u0 := ⟨_, rfl⟩
  rw [← hu9] at hP hD
  refine lv_aload_n hx hb dX11_alone_0 rfl (lv_at hl 0 rfl) ?_
  refine va_get (D := D) (ci := 11) (v := .ref (a 1)) (C := RX11) (T := TX11) (N := 16) hx hb hts hin11 hown hK hP 0 rfl rfl 0 (by decide) (hts (.fieldLink RX11 12 "MissedPoints" "net" "LMissedPoints$Net;") (by decide +kernel)) (fun _ h9 => h9) rfl dX11_alone_1 ?_
  refine lv_iload_n hx hb dX11_alone_4 rfl (lv_at hl 1 rfl) ?_
  refine wk_sv 1 (As := [.int x0]) (rest := []) ⟨hx, hb, hml, hown, hts⟩ (k_X2_hasPoint_z l D cI cS a na nc 24576 L u hL (Or.inr rfl) x0) hKK hP (ci := 2) rfl rfl (cwV 1 hts gX11_alone_X2_hasPoint rfl rfl rfl (by decide +kernel) ⟨Nat.le_of_ble_eq_true rfl, Nat.le_of_ble_eq_true rfl⟩) rfl hl.1 rfl (Nat.le_of_ble_eq_true rfl) dX11_alone_5 ⟨Nat.le_of_ble_eq_true rfl, Nat.le_of_ble_eq_true rfl⟩ (fun r49297 hr49297 => ?_)
  refine lv_if_eq (tgt := 20) hx hb dX11_alone_8 (by decide) (fun c49298 => ?_) (fun c49298 => ?_)
  · have g49299 : Rg 0 0 r49297 := wk_eql hr49297.1 (by decide : Rg 0 0 (0 : Int32)) c49298 (by decide)
    exact absurd hpt (hr49297.2.2.2 c49298)
  · have g49300 : Rg 0 11 x0 := (hr49297.2.1 c49298)
    have g49301 : Rg 1 1 r49297 := rg_ne_lo (k := 0) hr49297.1 (by decide) c49298 (by decide)
    refine lv_iload_n hx hb dX11_alone_11 rfl (lv_at hl 2 rfl) ?_
    refine lv_if_eq (tgt := 23) hx hb dX11_alone_12 (by decide) (fun c49302 => ?_) (fun c49302 => ?_)
    · have g49303 : Rg 0 0 x1 := wk_eql px1 (by decide : Rg 0 0 (0 : Int32)) c49302 (by decide)
      refine lv_aload_n hx hb dX11_alone_23 rfl (lv_at hl 0 rfl) ?_
      refine va_get (D := D) (ci := 11) (v := .ref (a 7)) (C := RX11) (T := TX11) (N := 16) hx hb hts hin11 hown hK hP 0 rfl rfl 1 (by decide) (hts (.fieldLink RX11 21 "MissedPoints" "pairs" "LMissedPoints$Pairs;") (by decide +kernel)) (fun _ h9 => h9) rfl dX11_alone_24 ?_
      refine lv_aload_n hx hb dX11_alone_27 rfl (lv_at hl 0 rfl) ?_
      refine va_get (D := D) (ci := 11) (v := .ref (a 1)) (C := RX11) (T := TX11) (N := 16) hx hb hts hin11 hown hK hP 0 rfl rfl 0 (by decide) (hts (.fieldLink RX11 12 "MissedPoints" "net" "LMissedPoints$Net;") (by decide +kernel)) (fun _ h9 => h9) rfl dX11_alone_28 ?_
      refine wk_sv 1 (As := []) (rest := [.ref (a 7)]) ⟨hx, hb, hml, hown, hts⟩ (k_X2_all l D cI cS a na nc 24576 L u hL (Or.inr rfl)) hKK hP (ci := 2) rfl rfl (cwV 0 hts gX11_alone_X2_all rfl rfl rfl (by decide +kernel) ⟨Nat.le_of_ble_eq_true rfl, Nat.le_of_ble_eq_true rfl⟩) rfl hl.1 rfl (Nat.le_of_ble_eq_true rfl) dX11_alone_31 ⟨Nat.le_of_ble_eq_true rfl, Nat.le_of_ble_eq_true rfl⟩ (fun r49304 hr49304 => ?_)
      refine wk_qi (wX cI cS a na nc 24576 L) u (As := [.int r49304]) (rest := []) ⟨hx, hb, hml, hown, hts⟩ (k_X3_best l D cI cS _ a na nc 24576 L u hL (Or.inr rfl) r49304) hKK hP hD hS hA 7 (ci := 3) rfl rfl (cwV 1 hts gX11_alone_X3_best rfl rfl rfl (by decide +kernel) ⟨Nat.le_of_ble_eq_true rfl, Nat.le_of_ble_eq_true rfl⟩) rfl hl.1 rfl (Nat.le_of_ble_eq_true rfl) dX11_alone_34 ⟨Nat.le_of_ble_eq_true rfl, Nat.le_of_ble_eq_true rfl⟩ (fun r49305 u H locs hr49305 hP hD hS => ?_)
      refine lv_istore_n (lv' := [(3, .int r49305), (0, .ref (a 0)), (1, .int x0), (2, .int x1)]) hx hb dX11_alone_37 rfl hl (by decide) rfl (fun ls hl => ?_)
      refine lv_aload_n hx hb dX11_alone_38 rfl (lv_at hl 1 rfl) ?_
      refine va_get (D := D) (ci := 11) (v := .ref (a 7)) (C := RX11) (T := TX11) (N := 16) hx hb hts hin11 hown hK hP 0 rfl rfl 1 (by decide) (hts (.fieldLink RX11 21 "MissedPoints" "pairs" "LMissedPoints$Pairs;") (by decide +kernel)) (fun _ h9 => h9) rfl dX11_alone_39 ?_
      refine lv_aload_n hx hb dX11_alone_42 rfl (lv_at hl 1 rfl) ?_
      refine va_get (D := D) (ci := 11) (v := .ref (a 1)) (C := RX11) (T := TX11) (N := 16) hx hb hts hin11 hown hK hP 0 rfl rfl 0 (by decide) (hts (.fieldLink RX11 12 "MissedPoints" "net" "LMissedPoints$Net;") (by decide +kernel)) (fun _ h9 => h9) rfl dX11_alone_43 ?_
      refine wk_sv 1 (As := []) (rest := [.ref (a 7)]) ⟨hx, hb, hml, hown, hts⟩ (k_X2_all l D cI cS a na nc 24576 L u hL (Or.inr rfl)) hKK hP (ci := 2) rfl rfl (cwV 0 hts gX11_alone_X2_all rfl rfl rfl (by decide +kernel) ⟨Nat.le_of_ble_eq_true rfl, Nat.le_of_ble_eq_true rfl⟩) rfl hl.1 rfl (Nat.le_of_ble_eq_true rfl) dX11_alone_46 ⟨Nat.le_of_ble_eq_true rfl, Nat.le_of_ble_eq_true rfl⟩ (fun r49306 hr49306 => ?_)
      refine lv_iconst (v := 1) hx hb dX11_alone_49 (by decide) ?_
      refine lv_iload_n hx hb dX11_alone_50 rfl (lv_at hl 2 rfl) ?_
      refine wk_ishl1 (f := 2048) hx hb dX11_alone_51 g49300 (by decide) (fun r49307 hr49307 qr49307 => ?_)
      refine lv_iconst (v := (-1)) hx hb dX11_alone_52 (by decide) ?_
      refine lv_ixor hx hb dX11_alone_53 ?_
      refine wk_topP (P := fun r => r = r49307 ^^^ ((-1) : Int32)) rfl (fun r49308 qr49308 => ?_)
      refine wk_iandl hx hb dX11_alone_54 hr49306.1 (by decide) (fun r49309 hr49309 qr49309 => ?_)
      refine lv_iload_n hx hb dX11_alone_55 rfl (lv_at hl 0 rfl) ?_
      refine wk_qi (wX cI cS a na nc 24576 L) u (As := [.int r49309, .int r49305]) (rest := []) ⟨hx, hb, hml, hown, hts⟩ (k_X3_number_1 l D cI cS _ a na nc L u hL r49309 r49305 hr49305.1) hKK hP hD hS hA 7 (ci := 3) rfl rfl (cwV 2 hts gX11_alone_X3_number rfl rfl rfl (by decide +kernel) ⟨Nat.le_of_ble_eq_true rfl, Nat.le_of_ble_eq_true rfl⟩) rfl hl.1 rfl (Nat.le_of_ble_eq_true rfl) dX11_alone_56 ⟨Nat.le_of_ble_eq_true rfl, Nat.le_of_ble_eq_true rfl⟩ (fun r49310 u H locs hr49310 hP hD hS => ?_)
      refine lv_istore (lv' := [(4, .int r49310), (3, .int r49305), (0, .ref (a 0)), (1, .int x0), (2, .int x1)]) hx hb dX11_alone_59 hl (by decide) rfl (fun ls hl => ?_)
      refine lv_aload_n hx hb dX11_alone_61 rfl (lv_at hl 2 rfl) ?_
      refine va_get (D := D) (ci := 11) (v := .ref (a 7)) (C := RX11) (T := TX11) (N := 16) hx hb hts hin11 hown hK hP 0 rfl rfl 1 (by decide) (hts (.fieldLink RX11 21 "MissedPoints" "pairs" "LMissedPoints$Pairs;") (by decide +kernel)) (fun _ h9 => h9) rfl dX11_alone_62 ?_
      refine lv_aload_n hx hb dX11_alone_65 rfl (lv_at hl 2 rfl) ?_
      refine va_get (D := D) (ci := 11) (v := .ref (a 1)) (C := RX11) (T := TX11) (N := 16) hx hb hts hin11 hown hK hP 0 rfl rfl 0 (by decide) (hts (.fieldLink RX11 12 "MissedPoints" "net" "LMissedPoints$Net;") (by decide +kernel)) (fun _ h9 => h9) rfl dX11_alone_66 ?_
      refine wk_sv 1 (As := []) (rest := [.ref (a 7)]) ⟨hx, hb, hml, hown, hts⟩ (k_X2_all l D cI cS a na nc 24576 L u hL (Or.inr rfl)) hKK hP (ci := 2) rfl rfl (cwV 0 hts gX11_alone_X2_all rfl rfl rfl (by decide +kernel) ⟨Nat.le_of_ble_eq_true rfl, Nat.le_of_ble_eq_true rfl⟩) rfl hl.1 rfl (Nat.le_of_ble_eq_true rfl) dX11_alone_69 ⟨Nat.le_of_ble_eq_true rfl, Nat.le_of_ble_eq_true rfl⟩ (fun r49311 hr49311 => ?_)
      refine lv_iload_n hx hb dX11_alone_72 rfl (lv_at hl 1 rfl) ?_
      refine wk_qi (wX cI cS a na nc 24576 L) u (As := [.int r49311, .int r49305]) (rest := []) ⟨hx, hb, hml, hown, hts⟩ (k_X3_number_1 l D cI cS _ a na nc L u hL r49311 r49305 hr49305.1) hKK hP hD hS hA 7 (ci := 3) rfl rfl (cwV 2 hts gX11_alone_X3_number rfl rfl rfl (by decide +kernel) ⟨Nat.le_of_ble_eq_true rfl, Nat.le_of_ble_eq_true rfl⟩) rfl hl.1 rfl (Nat.le_of_ble_eq_true rfl) dX11_alone_73 ⟨Nat.le_of_ble_eq_true rfl, Nat.le_of_ble_eq_true rfl⟩ (fun r49312 u H locs hr49312 hP hD hS => ?_)
      refine lv_istore (lv' := [(5, .int r49312), (4, .int r49310), (3, .int r49305), (0, .ref (a 0)), (1, .int x0), (2, .int x1)]) hx hb dX11_alone_76 hl (by decide) rfl (fun ls hl => ?_)
      refine lv_iload hx hb dX11_alone_78 (lv_at hl 1 rfl) ?_
      refine lv_iload hx hb dX11_alone_80 (lv_at hl 0 rfl) ?_
      refine lz_ss (As := [.int r49310, .int r49312]) (rest := []) ⟨hx, hb, hml, hown, hts⟩ (k_X11_greatestDivisor l D cI cS r49310 r49312) hKK (hP.sub (ws' := []) [] rfl) (va_cwS 2 hts gX11_alone_X11_greatestDivisor rfl rfl rfl (by decide +kernel) ⟨Nat.le_of_ble_eq_true rfl, Nat.le_of_ble_eq_true rfl⟩) rfl hl.1 rfl (Nat.le_of_ble_eq_true rfl) dX11_alone_82 ⟨Nat.le_of_ble_eq_true rfl, Nat.le_of_ble_eq_true rfl⟩ (fun r49313 hr49313 => ?_)
      refine lv_istore (lv' := [(6, .int r49313), (5, .int r49312), (4, .int r49310), (3, .int r49305), (0, .ref (a 0)), (1, .int x0), (2, .int x1)]) hx hb dX11_alone_85 hl (by decide) rfl (fun ls hl => ?_)
      refine lv_iload hx hb dX11_alone_87 (lv_at hl 0 rfl) ?_
      refine lv_iconst (v := 1) hx hb dX11_alone_89 (by decide) ?_
      refine lv_icmp_ge (tgt := 96) hx hb dX11_alone_90 (by decide) (fun c49314 => ?_) (fun c49314 => ?_)
      · have g49315 : Rg 1 2147483647 r49313 := rg_ler (by decide : Rg 1 1 (1 : Int32)) hr49313.1 c49314 (by decide)
        refine lv_iload_n hx hb dX11_alone_96 rfl (lv_at hl 6 rfl) ?_
        refine lv_if_ne (tgt := 105) hx hb dX11_alone_97 (by decide) (fun c49316 => ?_) (fun c49316 => ?_)
        · exact absurd (wk_yeq g49303 (by decide : Rg 0 0 (0 : Int32)) (by decide)) c49316
        · refine lv_iload hx hb dX11_alone_100 (lv_at hl 2 rfl) ?_
          refine lv_goto (tgt := 107) hx hb dX11_alone_102 (by decide) ?_
          refine lv_iload hx hb dX11_alone_107 (lv_at hl 0 rfl) ?_
          refine lv_idiv hx hb dX11_alone_109 (wk_nz g49315 (by decide)) ?_
          refine wk_any (fun r49317 => ?_)
          subst hAe
          exact W.iret (v := r49317) hx hb hr (fun t ht hW => ⟨⟨_, u, rfl, ⟨(rg_any r49317), trivial⟩, by rw [ht]; exact hP, hD⟩, hS.F ht⟩) hS.2.2 dX11_alone_110
      · have g49318 : Rg (-2147483648) 0 r49313 := rg_ltl hr49313.1 (by decide : Rg 1 1 (1 : Int32)) (rg_nle c49314) (by decide)
        refine lv_bipush (v := (-2)) hx hb dX11_alone_93 (by decide) ?_
        subst hAe
        exact W.iret (v := (-2)) hx hb hr (fun t ht hW => ⟨⟨_, u, rfl, ⟨(by decide : Rg (-2147483648) 2147483647 ((-2) : Int32)), trivial⟩, by rw [ht]; exact hP, hD⟩, hS.F ht⟩) hS.2.2 dX11_alone_95
    · have g49319 : Rg 1 1 x1 := rg_ne_lo (k := 0) px1 (by decide) c49302 (by decide)
      refine lv_iload_n hx hb dX11_alone_15 rfl (lv_at hl 2 rfl) ?_
      refine lv_iconst (v := 1) hx hb dX11_alone_16 (by decide) ?_
      refine lv_icmp_eq (tgt := 23) hx hb dX11_alone_17 (by decide) (fun c49320 => ?_) (fun c49320 => ?_)
      · refine lv_aload_n hx hb dX11_alone_23 rfl (lv_at hl 0 rfl) ?_
        refine va_get (D := D) (ci := 11) (v := .ref (a 7)) (C := RX11) (T := TX11) (N := 16) hx hb hts hin11 hown hK hP 0 rfl rfl 1 (by decide) (hts (.fieldLink RX11 21 "MissedPoints" "pairs" "LMissedPoints$Pairs;") (by decide +kernel)) (fun _ h9 => h9) rfl dX11_alone_24 ?_
        refine lv_aload_n hx hb dX11_alone_27 rfl (lv_at hl 0 rfl) ?_
        refine va_get (D := D) (ci := 11) (v := .ref (a 1)) (C := RX11) (T := TX11) (N := 16) hx hb hts hin11 hown hK hP 0 rfl rfl 0 (by decide) (hts (.fieldLink RX11 12 "MissedPoints" "net" "LMissedPoints$Net;") (by decide +kernel)) (fun _ h9 => h9) rfl dX11_alone_28 ?_
        refine wk_sv 1 (As := []) (rest := [.ref (a 7)]) ⟨hx, hb, hml, hown, hts⟩ (k_X2_all l D cI cS a na nc 24576 L u hL (Or.inr rfl)) hKK hP (ci := 2) rfl rfl (cwV 0 hts gX11_alone_X2_all rfl rfl rfl (by decide +kernel) ⟨Nat.le_of_ble_eq_true rfl, Nat.le_of_ble_eq_true rfl⟩) rfl hl.1 rfl (Nat.le_of_ble_eq_true rfl) dX11_alone_31 ⟨Nat.le_of_ble_eq_true rfl, Nat.le_of_ble_eq_true rfl⟩ (fun r49321 hr49321 => ?_)
        refine wk_qi (wX cI cS a na nc 24576 L) u (As := [.int r49321]) (rest := []) ⟨hx, hb, hml, hown, hts⟩ (k_X3_best l D cI cS _ a na nc 24576 L u hL (Or.inr rfl) r49321) hKK hP hD hS hA 7 (ci := 3) rfl rfl (cwV 1 hts gX11_alone_X3_best rfl rfl rfl (by decide +kernel) ⟨Nat.le_of_ble_eq_true rfl, Nat.le_of_ble_eq_true rfl⟩) rfl hl.1 rfl (Nat.le_of_ble_eq_true rfl) dX11_alone_34 ⟨Nat.le_of_ble_eq_true rfl, Nat.le_of_ble_eq_true rfl⟩ (fun r49322 u H locs hr49322 hP hD hS => ?_)
        refine lv_istore_n (lv' := [(3, .int r49322), (0, .ref (a 0)), (1, .int x0), (2, .int x1)]) hx hb dX11_alone_37 rfl hl (by decide) rfl (fun ls hl => ?_)
        refine lv_aload_n hx hb dX11_alone_38 rfl (lv_at hl 1 rfl) ?_
        refine va_get (D := D) (ci := 11) (v := .ref (a 7)) (C := RX11) (T := TX11) (N := 16) hx hb hts hin11 hown hK hP 0 rfl rfl 1 (by decide) (hts (.fieldLink RX11 21 "MissedPoints" "pairs" "LMissedPoints$Pairs;") (by decide +kernel)) (fun _ h9 => h9) rfl dX11_alone_39 ?_
        refine lv_aload_n hx hb dX11_alone_42 rfl (lv_at hl 1 rfl) ?_
        refine va_get (D := D) (ci := 11) (v := .ref (a 1)) (C := RX11) (T := TX11) (N := 16) hx hb hts hin11 hown hK hP 0 rfl rfl 0 (by decide) (hts (.fieldLink RX11 12 "MissedPoints" "net" "LMissedPoints$Net;") (by decide +kernel)) (fun _ h9 => h9) rfl dX11_alone_43 ?_
        refine wk_sv 1 (As := []) (rest := [.ref (a 7)]) ⟨hx, hb, hml, hown, hts⟩ (k_X2_all l D cI cS a na nc 24576 L u hL (Or.inr rfl)) hKK hP (ci := 2) rfl rfl (cwV 0 hts gX11_alone_X2_all rfl rfl rfl (by decide +kernel) ⟨Nat.le_of_ble_eq_true rfl, Nat.le_of_ble_eq_true rfl⟩) rfl hl.1 rfl (Nat.le_of_ble_eq_true rfl) dX11_alone_46 ⟨Nat.le_of_ble_eq_true rfl, Nat.le_of_ble_eq_true rfl⟩ (fun r49323 hr49323 => ?_)
        refine lv_iconst (v := 1) hx hb dX11_alone_49 (by decide) ?_
        refine lv_iload_n hx hb dX11_alone_50 rfl (lv_at hl 2 rfl) ?_
        refine wk_ishl1 (f := 2048) hx hb dX11_alone_51 g49300 (by decide) (fun r49324 hr49324 qr49324 => ?_)
        refine lv_iconst (v := (-1)) hx hb dX11_alone_52 (by decide) ?_
        refine lv_ixor hx hb dX11_alone_53 ?_
        refine wk_topP (P := fun r => r = r49324 ^^^ ((-1) : Int32)) rfl (fun r49325 qr49325 => ?_)
        refine wk_iandl hx hb dX11_alone_54 hr49323.1 (by decide) (fun r49326 hr49326 qr49326 => ?_)
        refine lv_iload_n hx hb dX11_alone_55 rfl (lv_at hl 0 rfl) ?_
        refine wk_qi (wX cI cS a na nc 24576 L) u (As := [.int r49326, .int r49322]) (rest := []) ⟨hx, hb, hml, hown, hts⟩ (k_X3_number_1 l D cI cS _ a na nc L u hL r49326 r49322 hr49322.1) hKK hP hD hS hA 7 (ci := 3) rfl rfl (cwV 2 hts gX11_alone_X3_number rfl rfl rfl (by decide +kernel) ⟨Nat.le_of_ble_eq_true rfl, Nat.le_of_ble_eq_true rfl⟩) rfl hl.1 rfl (Nat.le_of_ble_eq_true rfl) dX11_alone_56 ⟨Nat.le_of_ble_eq_true rfl, Nat.le_of_ble_eq_true rfl⟩ (fun r49327 u H locs hr49327 hP hD hS => ?_)
        refine lv_istore (lv' := [(4, .int r49327), (3, .int r49322), (0, .ref (a 0)), (1, .int x0), (2, .int x1)]) hx hb dX11_alone_59 hl (by decide) rfl (fun ls hl => ?_)
        refine lv_aload_n hx hb dX11_alone_61 rfl (lv_at hl 2 rfl) ?_
        refine va_get (D := D) (ci := 11) (v := .ref (a 7)) (C := RX11) (T := TX11) (N := 16) hx hb hts hin11 hown hK hP 0 rfl rfl 1 (by decide) (hts (.fieldLink RX11 21 "MissedPoints" "pairs" "LMissedPoints$Pairs;") (by decide +kernel)) (fun _ h9 => h9) rfl dX11_alone_62 ?_
        refine lv_aload_n hx hb dX11_alone_65 rfl (lv_at hl 2 rfl) ?_
        refine va_get (D := D) (ci := 11) (v := .ref (a 1)) (C := RX11) (T := TX11) (N := 16) hx hb hts hin11 hown hK hP 0 rfl rfl 0 (by decide) (hts (.fieldLink RX11 12 "MissedPoints" "net" "LMissedPoints$Net;") (by decide +kernel)) (fun _ h9 => h9) rfl dX11_alone_66 ?_
        refine wk_sv 1 (As := []) (rest := [.ref (a 7)]) ⟨hx, hb, hml, hown, hts⟩ (k_X2_all l D cI cS a na nc 24576 L u hL (Or.inr rfl)) hKK hP (ci := 2) rfl rfl (cwV 0 hts gX11_alone_X2_all rfl rfl rfl (by decide +kernel) ⟨Nat.le_of_ble_eq_true rfl, Nat.le_of_ble_eq_true rfl⟩) rfl hl.1 rfl (Nat.le_of_ble_eq_true rfl) dX11_alone_69 ⟨Nat.le_of_ble_eq_true rfl, Nat.le_of_ble_eq_true rfl⟩ (fun r49328 hr49328 => ?_)
        refine lv_iload_n hx hb dX11_alone_72 rfl (lv_at hl 1 rfl) ?_
        refine wk_qi (wX cI cS a na nc 24576 L) u (As := [.int r49328, .int r49322]) (rest := []) ⟨hx, hb, hml, hown, hts⟩ (k_X3_number_1 l D cI cS _ a na nc L u hL r49328 r49322 hr49322.1) hKK hP hD hS hA 7 (ci := 3) rfl rfl (cwV 2 hts gX11_alone_X3_number rfl rfl rfl (by decide +kernel) ⟨Nat.le_of_ble_eq_true rfl, Nat.le_of_ble_eq_true rfl⟩) rfl hl.1 rfl (Nat.le_of_ble_eq_true rfl) dX11_alone_73 ⟨Nat.le_of_ble_eq_true rfl, Nat.le_of_ble_eq_true rfl⟩ (fun r49329 u H locs hr49329 hP hD hS => ?_)
        refine lv_istore (lv' := [(5, .int r49329), (4, .int r49327), (3, .int r49322), (0, .ref (a 0)), (1, .int x0), (2, .int x1)]) hx hb dX11_alone_76 hl (by decide) rfl (fun ls hl => ?_)
        refine lv_iload hx hb dX11_alone_78 (lv_at hl 1 rfl) ?_
        refine lv_iload hx hb dX11_alone_80 (lv_at hl 0 rfl) ?_
        refine lz_ss (As := [.int r49327, .int r49329]) (rest := []) ⟨hx, hb, hml, hown, hts⟩ (k_X11_greatestDivisor l D cI cS r49327 r49329) hKK (hP.sub (ws' := []) [] rfl) (va_cwS 2 hts gX11_alone_X11_greatestDivisor rfl rfl rfl (by decide +kernel) ⟨Nat.le_of_ble_eq_true rfl, Nat.le_of_ble_eq_true rfl⟩) rfl hl.1 rfl (Nat.le_of_ble_eq_true rfl) dX11_alone_82 ⟨Nat.le_of_ble_eq_true rfl, Nat.le_of_ble_eq_true rfl⟩ (fun r49330 hr49330 => ?_)
        refine lv_istore (lv' := [(6, .int r49330), (5, .int r49329), (4, .int r49327), (3, .int r49322), (0, .ref (a 0)), (1, .int x0), (2, .int x1)]) hx hb dX11_alone_85 hl (by decide) rfl (fun ls hl => ?_)
        refine lv_iload hx hb dX11_alone_87 (lv_at hl 0 rfl) ?_
        refine lv_iconst (v := 1) hx hb dX11_alone_89 (by decide) ?_
        refine lv_icmp_ge (tgt := 96) hx hb dX11_alone_90 (by decide) (fun c49331 => ?_) (fun c49331 => ?_)
        · have g49332 : Rg 1 2147483647 r49330 := rg_ler (by decide : Rg 1 1 (1 : Int32)) hr49330.1 c49331 (by decide)
          refine lv_iload_n hx hb dX11_alone_96 rfl (lv_at hl 6 rfl) ?_
          refine lv_if_ne (tgt := 105) hx hb dX11_alone_97 (by decide) (fun c49333 => ?_) (fun c49333 => ?_)
          · refine lv_iload hx hb dX11_alone_105 (lv_at hl 1 rfl) ?_
            refine lv_iload hx hb dX11_alone_107 (lv_at hl 0 rfl) ?_
            refine lv_idiv hx hb dX11_alone_109 (wk_nz g49332 (by decide)) ?_
            refine wk_any (fun r49334 => ?_)
            subst hAe
            exact W.iret (v := r49334) hx hb hr (fun t ht hW => ⟨⟨_, u, rfl, ⟨(rg_any r49334), trivial⟩, by rw [ht]; exact hP, hD⟩, hS.F ht⟩) hS.2.2 dX11_alone_110
          · exact absurd c49333 (wk_neq g49319 (by decide : Rg 0 0 (0 : Int32)) (by decide))
        · have g49335 : Rg (-2147483648) 0 r49330 := rg_ltl hr49330.1 (by decide : Rg 1 1 (1 : Int32)) (rg_nle c49331) (by decide)
          refine lv_bipush (v := (-2)) hx hb dX11_alone_93 (by decide) ?_
          subst hAe
          exact W.iret (v := (-2)) hx hb hr (fun t ht hW => ⟨⟨_, u, rfl, ⟨(by decide : Rg (-2147483648) 2147483647 ((-2) : Int32)), trivial⟩, by rw [ht]; exact hP, hD⟩, hS.F ht⟩) hS.2.2 dX11_alone_95
      · exact absurd (wk_yeq g49319 (by decide : Rg 1 1 (1 : Int32)) (by decide)) c49320
set_option maxHeartbeats 4000000 in
set_option maxRecDepth 100000 in
theorem k_X11_alone_0 (l : Launch) (D : va_G) (cI cS : ClassId) (sz : Nat) (a : Nat → Nat) (na nc : Nat) (L u0 : SU) (hL : TyX L) (x0 x1 : Int32) (px1 : Rg 0 1 x1) (hpt : 0 ≤ x0.toInt ∧ x0.toInt < (L 1 1).toInt) : Met l yX11_alone wsX11_alone ({ frames := 16, cells := 2, slots := 24578, locals := 640 }) (PQ D cI cS (wX cI cS a na nc 0 L u0) sz [.ref (a 0), .int x0, .int x1]) (QF (S := Nat × Nat × SU) D (wX cI cS a na nc 0 L u0) (fun q => wX cI cS a q.1 q.2.1 24576 L q.2.2) sz (fun r _ => Rg (-2147483648) 2147483647 r ∧ True)) 2 24578 (va_A (wX cI cS a na nc 0 L u0) sz) := by
  refine Met.ofW (cc := cX11_alone) (maxL := 7) (ret := (some .int)) (by decide) rfl ?_
  intro p e s m args below meth c s₁ B hml hv
  obtain ⟨rfl, hsz, hP, hKK, hD0⟩ := hv
  have hx := B.exec
  have hb := B.bytes
  have hr := B.returns
  have hts := atoms_spec (ws := wsX11_alone) B.pre
  have hown : s.vm.findClass RX11 = some m.cls := findClass_of_methodNamed B.named
  have hlocks := B.notSynchronized
  have hK := hKK.1
  have hin11 : ∀ w ∈ wsX110, w ∈ wsX11_alone := by decide +kernel
  subst hsz
  have hD := hD0.self (sz := s.heap.size)
  obtain ⟨A, hAe⟩ : ∃ A, A = va_A (wX cI cS a na nc 0 L u0) s.heap.size := ⟨_, rfl⟩
  rw [← hAe] at hD
  have hA : ∀ q : Nat, s.heap.size ≤ q → A q := fun q h => by rw [hAe]; exact Or.inr h
  have hS : va_S A s.heap s.heap [] := va_S.rf
  have hl := lv_entry ([.ref (a 0), .int x0, .int x1]) (n := 7) (Nat.le_of_ble_eq_true rfl)
  rw [lg_entry_eq]
  generalize (lg_sl ([.ref (a 0), .int x0, .int x1]) ++ List.replicate (7 - (lg_sl ([.ref (a 0), .int x0, .int x1])).length) Slot.unset).toArray = ls at hl ⊢
  have hl : lv_has ls 7 [(0, .ref (a 0)), (1, .int x0), (2, .int x1)] := hl
  obtain ⟨u, hu9⟩ : ∃ u : SU, u = u0 := ⟨_, rfl⟩
  rw [← hu9] at hP hD
  refine lv_aload_n hx hb dX11_alone_0 rfl (lv_at hl 0 rfl) ?_
  refine va_get (D := D) (ci := 11) (v := .ref (a 1)) (C := RX11) (T := TX11) (N := 16) hx hb hts hin11 hown hK hP 0 rfl rfl 0 (by decide) (hts (.fieldLink RX11 12 "MissedPoints" "net" "LMissedPoints$Net;") (by decide +kernel)) (fun _ h9 => h9) rfl dX11_alone_1 ?_
  refine lv_iload_n hx hb dX11_alone_4 rfl (lv_at hl 1 rfl) ?_
  refine wk_sv 1 (As := [.int x0]) (rest := []) ⟨hx, hb, hml, hown, hts⟩ (k_X2_hasPoint_z l D cI cS a na nc 0 L u hL (Or.inl rfl) x0) hKK hP (ci := 2) rfl rfl (cwV 1 hts gX11_alone_X2_hasPoint rfl rfl rfl (by decide +kernel) ⟨Nat.le_of_ble_eq_true rfl, Nat.le_of_ble_eq_true rfl⟩) rfl hl.1 rfl (Nat.le_of_ble_eq_true rfl) dX11_alone_5 ⟨Nat.le_of_ble_eq_true rfl, Nat.le_of_ble_eq_true rfl⟩ (fun r49375 hr49375 => ?_)
  refine lv_if_eq (tgt := 20) hx hb dX11_alone_8 (by decide) (fun c49376 => ?_) (fun c49376 => ?_)
  · have g49377 : Rg 0 0 r49375 := wk_eql hr49375.1 (by decide : Rg 0 0 (0 : Int32)) c49376 (by decide)
    exact absurd hpt (hr49375.2.2.2 c49376)
  · have g49378 : Rg 0 11 x0 := (hr49375.2.1 c49376)
    have g49379 : Rg 1 1 r49375 := rg_ne_lo (k := 0) hr49375.1 (by decide) c49376 (by decide)
    refine lv_iload_n hx hb dX11_alone_11 rfl (lv_at hl 2 rfl) ?_
    refine lv_if_eq (tgt := 23) hx hb dX11_alone_12 (by decide) (fun c49380 => ?_) (fun c49380 => ?_)
    · have g49381 : Rg 0 0 x1 := wk_eql px1 (by decide : Rg 0 0 (0 : Int32)) c49380 (by decide)
      refine lv_aload_n hx hb dX11_alone_23 rfl (lv_at hl 0 rfl) ?_
      refine va_get (D := D) (ci := 11) (v := .ref (a 7)) (C := RX11) (T := TX11) (N := 16) hx hb hts hin11 hown hK hP 0 rfl rfl 1 (by decide) (hts (.fieldLink RX11 21 "MissedPoints" "pairs" "LMissedPoints$Pairs;") (by decide +kernel)) (fun _ h9 => h9) rfl dX11_alone_24 ?_
      refine lv_aload_n hx hb dX11_alone_27 rfl (lv_at hl 0 rfl) ?_
      refine va_get (D := D) (ci := 11) (v := .ref (a 1)) (C := RX11) (T := TX11) (N := 16) hx hb hts hin11 hown hK hP 0 rfl rfl 0 (by decide) (hts (.fieldLink RX11 12 "MissedPoints" "net" "LMissedPoints$Net;") (by decide +kernel)) (fun _ h9 => h9) rfl dX11_alone_28 ?_
      refine wk_sv 1 (As := []) (rest := [.ref (a 7)]) ⟨hx, hb, hml, hown, hts⟩ (k_X2_all l D cI cS a na nc 0 L u hL (Or.inl rfl)) hKK hP (ci := 2) rfl rfl (cwV 0 hts gX11_alone_X2_all rfl rfl rfl (by decide +kernel) ⟨Nat.le_of_ble_eq_true rfl, Nat.le_of_ble_eq_true rfl⟩) rfl hl.1 rfl (Nat.le_of_ble_eq_true rfl) dX11_alone_31 ⟨Nat.le_of_ble_eq_true rfl, Nat.le_of_ble_eq_true rfl⟩ (fun r49382 hr49382 => ?_)
      refine wk_qi (wX cI cS a na nc 0 L) u (As := [.int r49382]) (rest := []) ⟨hx, hb, hml, hown, hts⟩ (k_X3_best l D cI cS _ a na nc 0 L u hL (Or.inl rfl) r49382) hKK hP hD hS hA 7 (ci := 3) rfl rfl (cwV 1 hts gX11_alone_X3_best rfl rfl rfl (by decide +kernel) ⟨Nat.le_of_ble_eq_true rfl, Nat.le_of_ble_eq_true rfl⟩) rfl hl.1 rfl (Nat.le_of_ble_eq_true rfl) dX11_alone_34 ⟨Nat.le_of_ble_eq_true rfl, Nat.le_of_ble_eq_true rfl⟩ (fun r49383 u H locs hr49383 hP hD hS => ?_)
      refine lv_istore_n (lv' := [(3, .int r49383), (0, .ref (a 0)), (1, .int x0), (2, .int x1)]) hx hb dX11_alone_37 rfl hl (by decide) rfl (fun ls hl => ?_)
      refine lv_aload_n hx hb dX11_alone_38 rfl (lv_at hl 1 rfl) ?_
      refine va_get (D := D) (ci := 11) (v := .ref (a 7)) (C := RX11) (T := TX11) (N := 16) hx hb hts hin11 hown hK hP 0 rfl rfl 1 (by decide) (hts (.fieldLink RX11 21 "MissedPoints" "pairs" "LMissedPoints$Pairs;") (by decide +kernel)) (fun _ h9 => h9) rfl dX11_alone_39 ?_
      refine lv_aload_n hx hb dX11_alone_42 rfl (lv_at hl 1 rfl) ?_
      refine va_get (D := D) (ci := 11) (v := .ref (a 1)) (C := RX11) (T := TX11) (N := 16) hx hb hts hin11 hown hK hP 0 rfl rfl 0 (by decide) (hts (.fieldLink RX11 12 "MissedPoints" "net" "LMissedPoints$Net;") (by decide +kernel)) (fun _ h9 => h9) rfl dX11_alone_43 ?_
      refine wk_sv 1 (As := []) (rest := [.ref (a 7)]) ⟨hx, hb, hml, hown, hts⟩ (k_X2_all l D cI cS a na nc 0 L u hL (Or.inl rfl)) hKK hP (ci := 2) rfl rfl (cwV 0 hts gX11_alone_X2_all rfl rfl rfl (by decide +kernel) ⟨Nat.le_of_ble_eq_true rfl, Nat.le_of_ble_eq_true rfl⟩) rfl hl.1 rfl (Nat.le_of_ble_eq_true rfl) dX11_alone_46 ⟨Nat.le_of_ble_eq_true rfl, Nat.le_of_ble_eq_true rfl⟩ (fun r49384 hr49384 => ?_)
      refine lv_iconst (v := 1) hx hb dX11_alone_49 (by decide) ?_
      refine lv_iload_n hx hb dX11_alone_50 rfl (lv_at hl 2 rfl) ?_
      refine wk_ishl1 (f := 2048) hx hb dX11_alone_51 g49378 (by decide) (fun r49385 hr49385 qr49385 => ?_)
      refine lv_iconst (v := (-1)) hx hb dX11_alone_52 (by decide) ?_
      refine lv_ixor hx hb dX11_alone_53 ?_
      refine wk_topP (P := fun r => r = r49385 ^^^ ((-1) : Int32)) rfl (fun r49386 qr49386 => ?_)
      refine wk_iandl hx hb dX11_alone_54 hr49384.1 (by decide) (fun r49387 hr49387 qr49387 => ?_)
      refine lv_iload_n hx hb dX11_alone_55 rfl (lv_at hl 0 rfl) ?_
      refine wk_qA (wX cI cS a na nc 0 L u) (S := Nat × Nat × SU) (fun q => wX cI cS a q.1 q.2.1 24576 L q.2.2) (As := [.int r49387, .int r49383]) (rest := []) ⟨hx, hb, hml, hown, hts⟩ (k_X3_number_0 l D cI cS _ a na nc L u hL r49387 r49383 hr49383.1) hKK hP hD hS hA 7 (ci := 3) rfl rfl (cwV 2 hts gX11_alone_X3_number rfl rfl rfl (by decide +kernel) ⟨Nat.le_of_ble_eq_true rfl, Nat.le_of_ble_eq_true rfl⟩) rfl hl.1 rfl (Nat.le_of_ble_eq_true rfl) dX11_alone_56 ⟨Nat.le_of_ble_eq_true rfl, Nat.le_of_ble_eq_true rfl⟩ (fun r49388 q9 H locs hr49388 hP hD hS => ?_)
      obtain ⟨na, nc, u⟩ := q9
      have hP : va_P D cls (wX cI cS a na nc 24576 L u) H := hP
      have hD : va_D A (wX cI cS a na nc 24576 L u) := hD
      have hr49388 : Rg (-2147483648) 2147483647 r49388 ∧ True := hr49388
      refine lv_istore (lv' := [(4, .int r49388), (3, .int r49383), (0, .ref (a 0)), (1, .int x0), (2, .int x1)]) hx hb dX11_alone_59 hl (by decide) rfl (fun ls hl => ?_)
      refine lv_aload_n hx hb dX11_alone_61 rfl (lv_at hl 2 rfl) ?_
      refine va_get (D := D) (ci := 11) (v := .ref (a 7)) (C := RX11) (T := TX11) (N := 16) hx hb hts hin11 hown hK hP 0 rfl rfl 1 (by decide) (hts (.fieldLink RX11 21 "MissedPoints" "pairs" "LMissedPoints$Pairs;") (by decide +kernel)) (fun _ h9 => h9) rfl dX11_alone_62 ?_
      refine lv_aload_n hx hb dX11_alone_65 rfl (lv_at hl 2 rfl) ?_
      refine va_get (D := D) (ci := 11) (v := .ref (a 1)) (C := RX11) (T := TX11) (N := 16) hx hb hts hin11 hown hK hP 0 rfl rfl 0 (by decide) (hts (.fieldLink RX11 12 "MissedPoints" "net" "LMissedPoints$Net;") (by decide +kernel)) (fun _ h9 => h9) rfl dX11_alone_66 ?_
      refine wk_sv 1 (As := []) (rest := [.ref (a 7)]) ⟨hx, hb, hml, hown, hts⟩ (k_X2_all l D cI cS a na nc 24576 L u hL (Or.inr rfl)) hKK hP (ci := 2) rfl rfl (cwV 0 hts gX11_alone_X2_all rfl rfl rfl (by decide +kernel) ⟨Nat.le_of_ble_eq_true rfl, Nat.le_of_ble_eq_true rfl⟩) rfl hl.1 rfl (Nat.le_of_ble_eq_true rfl) dX11_alone_69 ⟨Nat.le_of_ble_eq_true rfl, Nat.le_of_ble_eq_true rfl⟩ (fun r49389 hr49389 => ?_)
      refine lv_iload_n hx hb dX11_alone_72 rfl (lv_at hl 1 rfl) ?_
      refine wk_qi (wX cI cS a na nc 24576 L) u (As := [.int r49389, .int r49383]) (rest := []) ⟨hx, hb, hml, hown, hts⟩ (k_X3_number_1 l D cI cS _ a na nc L u hL r49389 r49383 hr49383.1) hKK hP hD hS hA 7 (ci := 3) rfl rfl (cwV 2 hts gX11_alone_X3_number rfl rfl rfl (by decide +kernel) ⟨Nat.le_of_ble_eq_true rfl, Nat.le_of_ble_eq_true rfl⟩) rfl hl.1 rfl (Nat.le_of_ble_eq_true rfl) dX11_alone_73 ⟨Nat.le_of_ble_eq_true rfl, Nat.le_of_ble_eq_true rfl⟩ (fun r49390 u H locs hr49390 hP hD hS => ?_)
      refine lv_istore (lv' := [(5, .int r49390), (4, .int r49388), (3, .int r49383), (0, .ref (a 0)), (1, .int x0), (2, .int x1)]) hx hb dX11_alone_76 hl (by decide) rfl (fun ls hl => ?_)
      refine lv_iload hx hb dX11_alone_78 (lv_at hl 1 rfl) ?_
      refine lv_iload hx hb dX11_alone_80 (lv_at hl 0 rfl) ?_
      refine lz_ss (As := [.int r49388, .int r49390]) (rest := []) ⟨hx, hb, hml, hown, hts⟩ (k_X11_greatestDivisor l D cI cS r49388 r49390) hKK (hP.sub (ws' := []) [] rfl) (va_cwS 2 hts gX11_alone_X11_greatestDivisor rfl rfl rfl (by decide +kernel) ⟨Nat.le_of_ble_eq_true rfl, Nat.le_of_ble_eq_true rfl⟩) rfl hl.1 rfl (Nat.le_of_ble_eq_true rfl) dX11_alone_82 ⟨Nat.le_of_ble_eq_true rfl, Nat.le_of_ble_eq_true rfl⟩ (fun r49391 hr49391 => ?_)
      refine lv_istore (lv' := [(6, .int r49391), (5, .int r49390), (4, .int r49388), (3, .int r49383), (0, .ref (a 0)), (1, .int x0), (2, .int x1)]) hx hb dX11_alone_85 hl (by decide) rfl (fun ls hl => ?_)
      refine lv_iload hx hb dX11_alone_87 (lv_at hl 0 rfl) ?_
      refine lv_iconst (v := 1) hx hb dX11_alone_89 (by decide) ?_
      refine lv_icmp_ge (tgt := 96) hx hb dX11_alone_90 (by decide) (fun c49392 => ?_) (fun c49392 => ?_)
      · have g49393 : Rg 1 2147483647 r49391 := rg_ler (by decide : Rg 1 1 (1 : Int32)) hr49391.1 c49392 (by decide)
        refine lv_iload_n hx hb dX11_alone_96 rfl (lv_at hl 6 rfl) ?_
        refine lv_if_ne (tgt := 105) hx hb dX11_alone_97 (by decide) (fun c49394 => ?_) (fun c49394 => ?_)
        · exact absurd (wk_yeq g49381 (by decide : Rg 0 0 (0 : Int32)) (by decide)) c49394
        · refine lv_iload hx hb dX11_alone_100 (lv_at hl 2 rfl) ?_
          refine lv_goto (tgt := 107) hx hb dX11_alone_102 (by decide) ?_
          refine lv_iload hx hb dX11_alone_107 (lv_at hl 0 rfl) ?_
          refine lv_idiv hx hb dX11_alone_109 (wk_nz g49393 (by decide)) ?_
          refine wk_any (fun r49395 => ?_)
          subst hAe
          refine W.widen (k := 2) (n := 24578) (Nat.le_of_ble_eq_true rfl) (Nat.le_of_ble_eq_true rfl) ?_
          exact W.iret (v := r49395) hx hb hr (fun t ht hW => ⟨⟨_, (na, nc, u), rfl, ⟨(rg_any r49395), trivial⟩, by rw [ht]; exact hP, hD⟩, hS.F ht⟩) hS.2.2 dX11_alone_110
      · have g49396 : Rg (-2147483648) 0 r49391 := rg_ltl hr49391.1 (by decide : Rg 1 1 (1 : Int32)) (rg_nle c49392) (by decide)
        refine lv_bipush (v := (-2)) hx hb dX11_alone_93 (by decide) ?_
        subst hAe
        refine W.widen (k := 2) (n := 24578) (Nat.le_of_ble_eq_true rfl) (Nat.le_of_ble_eq_true rfl) ?_
        exact W.iret (v := (-2)) hx hb hr (fun t ht hW => ⟨⟨_, (na, nc, u), rfl, ⟨(by decide : Rg (-2147483648) 2147483647 ((-2) : Int32)), trivial⟩, by rw [ht]; exact hP, hD⟩, hS.F ht⟩) hS.2.2 dX11_alone_95
    · have g49397 : Rg 1 1 x1 := rg_ne_lo (k := 0) px1 (by decide) c49380 (by decide)
      refine lv_iload_n hx hb dX11_alone_15 rfl (lv_at hl 2 rfl) ?_
      refine lv_iconst (v := 1) hx hb dX11_alone_16 (by decide) ?_
      refine lv_icmp_eq (tgt := 23) hx hb dX11_alone_17 (by decide) (fun c49398 => ?_) (fun c49398 => ?_)
      · refine lv_aload_n hx hb dX11_alone_23 rfl (lv_at hl 0 rfl) ?_
        refine va_get (D := D) (ci := 11) (v := .ref (a 7)) (C := RX11) (T := TX11) (N := 16) hx hb hts hin11 hown hK hP 0 rfl rfl 1 (by decide) (hts (.fieldLink RX11 21 "MissedPoints" "pairs" "LMissedPoints$Pairs;") (by decide +kernel)) (fun _ h9 => h9) rfl dX11_alone_24 ?_
        refine lv_aload_n hx hb dX11_alone_27 rfl (lv_at hl 0 rfl) ?_
        refine va_get (D := D) (ci := 11) (v := .ref (a 1)) (C := RX11) (T := TX11) (N := 16) hx hb hts hin11 hown hK hP 0 rfl rfl 0 (by decide) (hts (.fieldLink RX11 12 "MissedPoints" "net" "LMissedPoints$Net;") (by decide +kernel)) (fun _ h9 => h9) rfl dX11_alone_28 ?_
        refine wk_sv 1 (As := []) (rest := [.ref (a 7)]) ⟨hx, hb, hml, hown, hts⟩ (k_X2_all l D cI cS a na nc 0 L u hL (Or.inl rfl)) hKK hP (ci := 2) rfl rfl (cwV 0 hts gX11_alone_X2_all rfl rfl rfl (by decide +kernel) ⟨Nat.le_of_ble_eq_true rfl, Nat.le_of_ble_eq_true rfl⟩) rfl hl.1 rfl (Nat.le_of_ble_eq_true rfl) dX11_alone_31 ⟨Nat.le_of_ble_eq_true rfl, Nat.le_of_ble_eq_true rfl⟩ (fun r49399 hr49399 => ?_)
        refine wk_qi (wX cI cS a na nc 0 L) u (As := [.int r49399]) (rest := []) ⟨hx, hb, hml, hown, hts⟩ (k_X3_best l D cI cS _ a na nc 0 L u hL (Or.inl rfl) r49399) hKK hP hD hS hA 7 (ci := 3) rfl rfl (cwV 1 hts gX11_alone_X3_best rfl rfl rfl (by decide +kernel) ⟨Nat.le_of_ble_eq_true rfl, Nat.le_of_ble_eq_true rfl⟩) rfl hl.1 rfl (Nat.le_of_ble_eq_true rfl) dX11_alone_34 ⟨Nat.le_of_ble_eq_true rfl, Nat.le_of_ble_eq_true rfl⟩ (fun r49400 u H locs hr49400 hP hD hS => ?_)
        refine lv_istore_n (lv' := [(3, .int r49400), (0, .ref (a 0)), (1, .int x0), (2, .int x1)]) hx hb dX11_alone_37 rfl hl (by decide) rfl (fun ls hl => ?_)
        refine lv_aload_n hx hb dX11_alone_38 rfl (lv_at hl 1 rfl) ?_
        refine va_get (D := D) (ci := 11) (v := .ref (a 7)) (C := RX11) (T := TX11) (N := 16) hx hb hts hin11 hown hK hP 0 rfl rfl 1 (by decide) (hts (.fieldLink RX11 21 "MissedPoints" "pairs" "LMissedPoints$Pairs;") (by decide +kernel)) (fun _ h9 => h9) rfl dX11_alone_39 ?_
        refine lv_aload_n hx hb dX11_alone_42 rfl (lv_at hl 1 rfl) ?_
        refine va_get (D := D) (ci := 11) (v := .ref (a 1)) (C := RX11) (T := TX11) (N := 16) hx hb hts hin11 hown hK hP 0 rfl rfl 0 (by decide) (hts (.fieldLink RX11 12 "MissedPoints" "net" "LMissedPoints$Net;") (by decide +kernel)) (fun _ h9 => h9) rfl dX11_alone_43 ?_
        refine wk_sv 1 (As := []) (rest := [.ref (a 7)]) ⟨hx, hb, hml, hown, hts⟩ (k_X2_all l D cI cS a na nc 0 L u hL (Or.inl rfl)) hKK hP (ci := 2) rfl rfl (cwV 0 hts gX11_alone_X2_all rfl rfl rfl (by decide +kernel) ⟨Nat.le_of_ble_eq_true rfl, Nat.le_of_ble_eq_true rfl⟩) rfl hl.1 rfl (Nat.le_of_ble_eq_true rfl) dX11_alone_46 ⟨Nat.le_of_ble_eq_true rfl, Nat.le_of_ble_eq_true rfl⟩ (fun r49401 hr49401 => ?_)
        refine lv_iconst (v := 1) hx hb dX11_alone_49 (by decide) ?_
        refine lv_iload_n hx hb dX11_alone_50 rfl (lv_at hl 2 rfl) ?_
        refine wk_ishl1 (f := 2048) hx hb dX11_alone_51 g49378 (by decide) (fun r49402 hr49402 qr49402 => ?_)
        refine lv_iconst (v := (-1)) hx hb dX11_alone_52 (by decide) ?_
        refine lv_ixor hx hb dX11_alone_53 ?_
        refine wk_topP (P := fun r => r = r49402 ^^^ ((-1) : Int32)) rfl (fun r49403 qr49403 => ?_)
        refine wk_iandl hx hb dX11_alone_54 hr49401.1 (by decide) (fun r49404 hr49404 qr49404 => ?_)
        refine lv_iload_n hx hb dX11_alone_55 rfl (lv_at hl 0 rfl) ?_
        refine wk_qA (wX cI cS a na nc 0 L u) (S := Nat × Nat × SU) (fun q => wX cI cS a q.1 q.2.1 24576 L q.2.2) (As := [.int r49404, .int r49400]) (rest := []) ⟨hx, hb, hml, hown, hts⟩ (k_X3_number_0 l D cI cS _ a na nc L u hL r49404 r49400 hr49400.1) hKK hP hD hS hA 7 (ci := 3) rfl rfl (cwV 2 hts gX11_alone_X3_number rfl rfl rfl (by decide +kernel) ⟨Nat.le_of_ble_eq_true rfl, Nat.le_of_ble_eq_true rfl⟩) rfl hl.1 rfl (Nat.le_of_ble_eq_true rfl) dX11_alone_56 ⟨Nat.le_of_ble_eq_true rfl, Nat.le_of_ble_eq_true rfl⟩ (fun r49405 q9 H locs hr49405 hP hD hS => ?_)
        obtain ⟨na, nc, u⟩ := q9
        have hP : va_P D cls (wX cI cS a na nc 24576 L u) H := hP
        have hD : va_D A (wX cI cS a na nc 24576 L u) := hD
        have hr49405 : Rg (-2147483648) 2147483647 r49405 ∧ True := hr49405
        refine lv_istore (lv' := [(4, .int r49405), (3, .int r49400), (0, .ref (a 0)), (1, .int x0), (2, .int x1)]) hx hb dX11_alone_59 hl (by decide) rfl (fun ls hl => ?_)
        refine lv_aload_n hx hb dX11_alone_61 rfl (lv_at hl 2 rfl) ?_
        refine va_get (D := D) (ci := 11) (v := .ref (a 7)) (C := RX11) (T := TX11) (N := 16) hx hb hts hin11 hown hK hP 0 rfl rfl 1 (by decide) (hts (.fieldLink RX11 21 "MissedPoints" "pairs" "LMissedPoints$Pairs;") (by decide +kernel)) (fun _ h9 => h9) rfl dX11_alone_62 ?_
        refine lv_aload_n hx hb dX11_alone_65 rfl (lv_at hl 2 rfl) ?_
        refine va_get (D := D) (ci := 11) (v := .ref (a 1)) (C := RX11) (T := TX11) (N := 16) hx hb hts hin11 hown hK hP 0 rfl rfl 0 (by decide) (hts (.fieldLink RX11 12 "MissedPoints" "net" "LMissedPoints$Net;") (by decide +kernel)) (fun _ h9 => h9) rfl dX11_alone_66 ?_
        refine wk_sv 1 (As := []) (rest := [.ref (a 7)]) ⟨hx, hb, hml, hown, hts⟩ (k_X2_all l D cI cS a na nc 24576 L u hL (Or.inr rfl)) hKK hP (ci := 2) rfl rfl (cwV 0 hts gX11_alone_X2_all rfl rfl rfl (by decide +kernel) ⟨Nat.le_of_ble_eq_true rfl, Nat.le_of_ble_eq_true rfl⟩) rfl hl.1 rfl (Nat.le_of_ble_eq_true rfl) dX11_alone_69 ⟨Nat.le_of_ble_eq_true rfl, Nat.le_of_ble_eq_true rfl⟩ (fun r49406 hr49406 => ?_)
        refine lv_iload_n hx hb dX11_alone_72 rfl (lv_at hl 1 rfl) ?_
        refine wk_qi (wX cI cS a na nc 24576 L) u (As := [.int r49406, .int r49400]) (rest := []) ⟨hx, hb, hml, hown, hts⟩ (k_X3_number_1 l D cI cS _ a na nc L u hL r49406 r49400 hr49400.1) hKK hP hD hS hA 7 (ci := 3) rfl rfl (cwV 2 hts gX11_alone_X3_number rfl rfl rfl (by decide +kernel) ⟨Nat.le_of_ble_eq_true rfl, Nat.le_of_ble_eq_true rfl⟩) rfl hl.1 rfl (Nat.le_of_ble_eq_true rfl) dX11_alone_73 ⟨Nat.le_of_ble_eq_true rfl, Nat.le_of_ble_eq_true rfl⟩ (fun r49407 u H locs hr49407 hP hD hS => ?_)
        refine lv_istore (lv' := [(5, .int r49407), (4, .int r49405), (3, .int r49400), (0, .ref (a 0)), (1, .int x0), (2, .int x1)]) hx hb dX11_alone_76 hl (by decide) rfl (fun ls hl => ?_)
        refine lv_iload hx hb dX11_alone_78 (lv_at hl 1 rfl) ?_
        refine lv_iload hx hb dX11_alone_80 (lv_at hl 0 rfl) ?_
        refine lz_ss (As := [.int r49405, .int r49407]) (rest := []) ⟨hx, hb, hml, hown, hts⟩ (k_X11_greatestDivisor l D cI cS r49405 r49407) hKK (hP.sub (ws' := []) [] rfl) (va_cwS 2 hts gX11_alone_X11_greatestDivisor rfl rfl rfl (by decide +kernel) ⟨Nat.le_of_ble_eq_true rfl, Nat.le_of_ble_eq_true rfl⟩) rfl hl.1 rfl (Nat.le_of_ble_eq_true rfl) dX11_alone_82 ⟨Nat.le_of_ble_eq_true rfl, Nat.le_of_ble_eq_true rfl⟩ (fun r49408 hr49408 => ?_)
        refine lv_istore (lv' := [(6, .int r49408), (5, .int r49407), (4, .int r49405), (3, .int r49400), (0, .ref (a 0)), (1, .int x0), (2, .int x1)]) hx hb dX11_alone_85 hl (by decide) rfl (fun ls hl => ?_)
        refine lv_iload hx hb dX11_alone_87 (lv_at hl 0 rfl) ?_
        refine lv_iconst (v := 1) hx hb dX11_alone_89 (by decide) ?_
        refine lv_icmp_ge (tgt := 96) hx hb dX11_alone_90 (by decide) (fun c49409 => ?_) (fun c49409 => ?_)
        · have g49410 : Rg 1 2147483647 r49408 := rg_ler (by decide : Rg 1 1 (1 : Int32)) hr49408.1 c49409 (by decide)
          refine lv_iload_n hx hb dX11_alone_96 rfl (lv_at hl 6 rfl) ?_
          refine lv_if_ne (tgt := 105) hx hb dX11_alone_97 (by decide) (fun c49411 => ?_) (fun c49411 => ?_)
          · refine lv_iload hx hb dX11_alone_105 (lv_at hl 1 rfl) ?_
            refine lv_iload hx hb dX11_alone_107 (lv_at hl 0 rfl) ?_
            refine lv_idiv hx hb dX11_alone_109 (wk_nz g49410 (by decide)) ?_
            refine wk_any (fun r49412 => ?_)
            subst hAe
            refine W.widen (k := 2) (n := 24578) (Nat.le_of_ble_eq_true rfl) (Nat.le_of_ble_eq_true rfl) ?_
            exact W.iret (v := r49412) hx hb hr (fun t ht hW => ⟨⟨_, (na, nc, u), rfl, ⟨(rg_any r49412), trivial⟩, by rw [ht]; exact hP, hD⟩, hS.F ht⟩) hS.2.2 dX11_alone_110
          · exact absurd c49411 (wk_neq g49397 (by decide : Rg 0 0 (0 : Int32)) (by decide))
        · have g49413 : Rg (-2147483648) 0 r49408 := rg_ltl hr49408.1 (by decide : Rg 1 1 (1 : Int32)) (rg_nle c49409) (by decide)
          refine lv_bipush (v := (-2)) hx hb dX11_alone_93 (by decide) ?_
          subst hAe
          refine W.widen (k := 2) (n := 24578) (Nat.le_of_ble_eq_true rfl) (Nat.le_of_ble_eq_true rfl) ?_
          exact W.iret (v := (-2)) hx hb hr (fun t ht hW => ⟨⟨_, (na, nc, u), rfl, ⟨(by decide : Rg (-2147483648) 2147483647 ((-2) : Int32)), trivial⟩, by rw [ht]; exact hP, hD⟩, hS.F ht⟩) hS.2.2 dX11_alone_95
      · exact absurd (wk_yeq g49397 (by decide : Rg 1 1 (1 : Int32)) (by decide)) c49398
theorem dX11_alone_22 : decode cX11_alone 22 = .ok (.ireturn, 1) := by decide +kernel
set_option maxHeartbeats 4000000 in
set_option maxRecDepth 100000 in
theorem k_X11_alone_b1 (l : Launch) (D : va_G) (cI cS : ClassId) (a : Nat → Nat) (na nc N : Nat) (L u : SU) (hL : TyX L) (hN : N = 0 ∨ N = 24576) (x0 x1 : Int32) (px1 : Rg (-2147483648) (-1) x1) : Met l yX11_alone wsX11_alone ({ frames := 1, cells := 0, slots := 0, locals := 40 }) (PS D cI cS (wX cI cS a na nc N L u) [.ref (a 0), .int x0, .int x1]) (vp_Si (fun r => Rg (-2) (-2) r ∧ True)) 0 0 (fun _ => False) := by
  refine Met.ofW (cc := cX11_alone) (maxL := 7) (ret := (some .int)) (by decide) rfl ?_
  intro p e s m args below meth c s₁ B hml hv
  obtain ⟨rfl, hP, hKK⟩ := hv
  have hx := B.exec
  have hb := B.bytes
  have hr := B.returns
  have hts := atoms_spec (ws := wsX11_alone) B.pre
  have hown : s.vm.findClass RX11 = some m.cls := findClass_of_methodNamed B.named
  have hlocks := B.notSynchronized
  have hK := hKK.1
  have hin11 : ∀ w ∈ wsX110, w ∈ wsX11_alone := by decide +kernel
  have hl := lv_entry ([.ref (a 0), .int x0, .int x1]) (n := 7) (Nat.le_of_ble_eq_true rfl)
  rw [lg_entry_eq]
  generalize (lg_sl ([.ref (a 0), .int x0, .int x1]) ++ List.replicate (7 - (lg_sl ([.ref (a 0), .int x0, .int x1])).length) Slot.unset).toArray = ls at hl ⊢
  have hl : lv_has ls 7 [(0, .ref (a 0)), (1, .int x0), (2, .int x1)] := hl
  refine lv_aload_n hx hb dX11_alone_0 rfl (lv_at hl 0 rfl) ?_
  refine va_get (D := D) (ci := 11) (v := .ref (a 1)) (C := RX11) (T := TX11) (N := 16) hx hb hts hin11 hown hK hP 0 rfl rfl 0 (by decide) (hts (.fieldLink RX11 12 "MissedPoints" "net" "LMissedPoints$Net;") (by decide +kernel)) (fun _ h9 => h9) rfl dX11_alone_1 ?_
  refine lv_iload_n hx hb dX11_alone_4 rfl (lv_at hl 1 rfl) ?_
  refine wk_sv 1 (As := [.int x0]) (rest := []) ⟨hx, hb, hml, hown, hts⟩ (k_X2_hasPoint l D cI cS a na nc N L u hL hN x0) hKK hP (ci := 2) rfl rfl (cwV 1 hts gX11_alone_X2_hasPoint rfl rfl rfl (by decide +kernel) ⟨Nat.le_of_ble_eq_true rfl, Nat.le_of_ble_eq_true rfl⟩) rfl hl.1 rfl (Nat.le_of_ble_eq_true rfl) dX11_alone_5 ⟨Nat.le_of_ble_eq_true rfl, Nat.le_of_ble_eq_true rfl⟩ (fun r49421 hr49421 => ?_)
  refine lv_if_eq (tgt := 20) hx hb dX11_alone_8 (by decide) (fun c49422 => ?_) (fun c49422 => ?_)
  · have g49423 : Rg 0 0 r49421 := wk_eql hr49421.1 (by decide : Rg 0 0 (0 : Int32)) c49422 (by decide)
    refine lv_bipush (v := (-2)) hx hb dX11_alone_20 (by decide) ?_
    exact W.iret (v := (-2)) hx hb hr (fun t ht hW => ⟨_, rfl, ⟨(by decide : Rg (-2) (-2) ((-2) : Int32)), trivial⟩, ht⟩) (fun q hq => absurd hq List.not_mem_nil) dX11_alone_22
  · have g49424 : Rg 0 11 x0 := (hr49421.2 c49422)
    have g49425 : Rg 1 1 r49421 := rg_ne_lo (k := 0) hr49421.1 (by decide) c49422 (by decide)
    refine lv_iload_n hx hb dX11_alone_11 rfl (lv_at hl 2 rfl) ?_
    refine lv_if_eq (tgt := 23) hx hb dX11_alone_12 (by decide) (fun c49426 => ?_) (fun c49426 => ?_)
    · exact absurd c49426 (wk_neq px1 (by decide : Rg 0 0 (0 : Int32)) (by decide))
    · refine lv_iload_n hx hb dX11_alone_15 rfl (lv_at hl 2 rfl) ?_
      refine lv_iconst (v := 1) hx hb dX11_alone_16 (by decide) ?_
      refine lv_icmp_eq (tgt := 23) hx hb dX11_alone_17 (by decide) (fun c49427 => ?_) (fun c49427 => ?_)
      · exact absurd c49427 (wk_neq px1 (by decide : Rg 1 1 (1 : Int32)) (by decide))
      · refine lv_bipush (v := (-2)) hx hb dX11_alone_20 (by decide) ?_
        exact W.iret (v := (-2)) hx hb hr (fun t ht hW => ⟨_, rfl, ⟨(by decide : Rg (-2) (-2) ((-2) : Int32)), trivial⟩, ht⟩) (fun q hq => absurd hq List.not_mem_nil) dX11_alone_22
set_option maxHeartbeats 4000000 in
set_option maxRecDepth 100000 in
theorem k_X11_alone_b2 (l : Launch) (D : va_G) (cI cS : ClassId) (a : Nat → Nat) (na nc N : Nat) (L u : SU) (hL : TyX L) (hN : N = 0 ∨ N = 24576) (x0 x1 : Int32) (px1 : Rg 2 2147483647 x1) : Met l yX11_alone wsX11_alone ({ frames := 1, cells := 0, slots := 0, locals := 40 }) (PS D cI cS (wX cI cS a na nc N L u) [.ref (a 0), .int x0, .int x1]) (vp_Si (fun r => Rg (-2) (-2) r ∧ True)) 0 0 (fun _ => False) := by
  refine Met.ofW (cc := cX11_alone) (maxL := 7) (ret := (some .int)) (by decide) rfl ?_
  intro p e s m args below meth c s₁ B hml hv
  obtain ⟨rfl, hP, hKK⟩ := hv
  have hx := B.exec
  have hb := B.bytes
  have hr := B.returns
  have hts := atoms_spec (ws := wsX11_alone) B.pre
  have hown : s.vm.findClass RX11 = some m.cls := findClass_of_methodNamed B.named
  have hlocks := B.notSynchronized
  have hK := hKK.1
  have hin11 : ∀ w ∈ wsX110, w ∈ wsX11_alone := by decide +kernel
  have hl := lv_entry ([.ref (a 0), .int x0, .int x1]) (n := 7) (Nat.le_of_ble_eq_true rfl)
  rw [lg_entry_eq]
  generalize (lg_sl ([.ref (a 0), .int x0, .int x1]) ++ List.replicate (7 - (lg_sl ([.ref (a 0), .int x0, .int x1])).length) Slot.unset).toArray = ls at hl ⊢
  have hl : lv_has ls 7 [(0, .ref (a 0)), (1, .int x0), (2, .int x1)] := hl
  refine lv_aload_n hx hb dX11_alone_0 rfl (lv_at hl 0 rfl) ?_
  refine va_get (D := D) (ci := 11) (v := .ref (a 1)) (C := RX11) (T := TX11) (N := 16) hx hb hts hin11 hown hK hP 0 rfl rfl 0 (by decide) (hts (.fieldLink RX11 12 "MissedPoints" "net" "LMissedPoints$Net;") (by decide +kernel)) (fun _ h9 => h9) rfl dX11_alone_1 ?_
  refine lv_iload_n hx hb dX11_alone_4 rfl (lv_at hl 1 rfl) ?_
  refine wk_sv 1 (As := [.int x0]) (rest := []) ⟨hx, hb, hml, hown, hts⟩ (k_X2_hasPoint l D cI cS a na nc N L u hL hN x0) hKK hP (ci := 2) rfl rfl (cwV 1 hts gX11_alone_X2_hasPoint rfl rfl rfl (by decide +kernel) ⟨Nat.le_of_ble_eq_true rfl, Nat.le_of_ble_eq_true rfl⟩) rfl hl.1 rfl (Nat.le_of_ble_eq_true rfl) dX11_alone_5 ⟨Nat.le_of_ble_eq_true rfl, Nat.le_of_ble_eq_true rfl⟩ (fun r49435 hr49435 => ?_)
  refine lv_if_eq (tgt := 20) hx hb dX11_alone_8 (by decide) (fun c49436 => ?_) (fun c49436 => ?_)
  · have g49437 : Rg 0 0 r49435 := wk_eql hr49435.1 (by decide : Rg 0 0 (0 : Int32)) c49436 (by decide)
    refine lv_bipush (v := (-2)) hx hb dX11_alone_20 (by decide) ?_
    exact W.iret (v := (-2)) hx hb hr (fun t ht hW => ⟨_, rfl, ⟨(by decide : Rg (-2) (-2) ((-2) : Int32)), trivial⟩, ht⟩) (fun q hq => absurd hq List.not_mem_nil) dX11_alone_22
  · have g49438 : Rg 0 11 x0 := (hr49435.2 c49436)
    have g49439 : Rg 1 1 r49435 := rg_ne_lo (k := 0) hr49435.1 (by decide) c49436 (by decide)
    refine lv_iload_n hx hb dX11_alone_11 rfl (lv_at hl 2 rfl) ?_
    refine lv_if_eq (tgt := 23) hx hb dX11_alone_12 (by decide) (fun c49440 => ?_) (fun c49440 => ?_)
    · exact absurd c49440 (wk_neq px1 (by decide : Rg 0 0 (0 : Int32)) (by decide))
    · refine lv_iload_n hx hb dX11_alone_15 rfl (lv_at hl 2 rfl) ?_
      refine lv_iconst (v := 1) hx hb dX11_alone_16 (by decide) ?_
      refine lv_icmp_eq (tgt := 23) hx hb dX11_alone_17 (by decide) (fun c49441 => ?_) (fun c49441 => ?_)
      · exact absurd c49441 (wk_neq px1 (by decide : Rg 1 1 (1 : Int32)) (by decide))
      · refine lv_bipush (v := (-2)) hx hb dX11_alone_20 (by decide) ?_
        exact W.iret (v := (-2)) hx hb hr (fun t ht hW => ⟨_, rfl, ⟨(by decide : Rg (-2) (-2) ((-2) : Int32)), trivial⟩, ht⟩) (fun q hq => absurd hq List.not_mem_nil) dX11_alone_22
set_option maxHeartbeats 4000000 in
set_option maxRecDepth 100000 in
theorem k_X11_alone_b3 (l : Launch) (D : va_G) (cI cS : ClassId) (a : Nat → Nat) (na nc N : Nat) (L u : SU) (hL : TyX L) (hN : N = 0 ∨ N = 24576) (x0 x1 : Int32) (hpn : ¬ (0 ≤ x0.toInt ∧ x0.toInt < (L 1 1).toInt)) : Met l yX11_alone wsX11_alone ({ frames := 1, cells := 0, slots := 0, locals := 40 }) (PS D cI cS (wX cI cS a na nc N L u) [.ref (a 0), .int x0, .int x1]) (vp_Si (fun r => Rg (-2) (-2) r ∧ True)) 0 0 (fun _ => False) := by
  refine Met.ofW (cc := cX11_alone) (maxL := 7) (ret := (some .int)) (by decide) rfl ?_
  intro p e s m args below meth c s₁ B hml hv
  obtain ⟨rfl, hP, hKK⟩ := hv
  have hx := B.exec
  have hb := B.bytes
  have hr := B.returns
  have hts := atoms_spec (ws := wsX11_alone) B.pre
  have hown : s.vm.findClass RX11 = some m.cls := findClass_of_methodNamed B.named
  have hlocks := B.notSynchronized
  have hK := hKK.1
  have hin11 : ∀ w ∈ wsX110, w ∈ wsX11_alone := by decide +kernel
  have hl := lv_entry ([.ref (a 0), .int x0, .int x1]) (n := 7) (Nat.le_of_ble_eq_true rfl)
  rw [lg_entry_eq]
  generalize (lg_sl ([.ref (a 0), .int x0, .int x1]) ++ List.replicate (7 - (lg_sl ([.ref (a 0), .int x0, .int x1])).length) Slot.unset).toArray = ls at hl ⊢
  have hl : lv_has ls 7 [(0, .ref (a 0)), (1, .int x0), (2, .int x1)] := hl
  refine lv_aload_n hx hb dX11_alone_0 rfl (lv_at hl 0 rfl) ?_
  refine va_get (D := D) (ci := 11) (v := .ref (a 1)) (C := RX11) (T := TX11) (N := 16) hx hb hts hin11 hown hK hP 0 rfl rfl 0 (by decide) (hts (.fieldLink RX11 12 "MissedPoints" "net" "LMissedPoints$Net;") (by decide +kernel)) (fun _ h9 => h9) rfl dX11_alone_1 ?_
  refine lv_iload_n hx hb dX11_alone_4 rfl (lv_at hl 1 rfl) ?_
  refine wk_sv 1 (As := [.int x0]) (rest := []) ⟨hx, hb, hml, hown, hts⟩ (k_X2_hasPoint_z l D cI cS a na nc N L u hL hN x0) hKK hP (ci := 2) rfl rfl (cwV 1 hts gX11_alone_X2_hasPoint rfl rfl rfl (by decide +kernel) ⟨Nat.le_of_ble_eq_true rfl, Nat.le_of_ble_eq_true rfl⟩) rfl hl.1 rfl (Nat.le_of_ble_eq_true rfl) dX11_alone_5 ⟨Nat.le_of_ble_eq_true rfl, Nat.le_of_ble_eq_true rfl⟩ (fun r49447 hr49447 => ?_)
  refine lv_if_eq (tgt := 20) hx hb dX11_alone_8 (by decide) (fun c49448 => ?_) (fun c49448 => ?_)
  · have g49449 : Rg 0 0 r49447 := wk_eql hr49447.1 (by decide : Rg 0 0 (0 : Int32)) c49448 (by decide)
    refine lv_bipush (v := (-2)) hx hb dX11_alone_20 (by decide) ?_
    exact W.iret (v := (-2)) hx hb hr (fun t ht hW => ⟨_, rfl, ⟨(by decide : Rg (-2) (-2) ((-2) : Int32)), trivial⟩, ht⟩) (fun q hq => absurd hq List.not_mem_nil) dX11_alone_22
  · have g49450 : Rg 0 11 x0 := (hr49447.2.1 c49448)
    have g49451 : Rg 1 1 r49447 := rg_ne_lo (k := 0) hr49447.1 (by decide) c49448 (by decide)
    exact absurd (hr49447.2.2.1 c49448) hpn
set_option maxHeartbeats 4000000 in
set_option maxRecDepth 100000 in
theorem k_X9_readFrom_z (l : Launch) (D : va_G) (cI cS : ClassId) (sz : Nat) (a : Nat → Nat) (na nc N : Nat) (L u0 : SU) (hL : TyX L) (hN : N = 0 ∨ N = 24576) (q : Nat) (hq : q < 4) : Met l yX9_readFrom wsX9_readFrom ({ frames := 3, cells := 0, slots := 0, locals := 120 }) (PQ D cI cS (wX cI cS a na nc N L u0) sz [.ref (a 34), .ref (a (26 + 2 * q))]) (QF (S := SU) D (wX cI cS a na nc N L u0) (wX cI cS a na nc N L) sz (fun r _ => Rg 0 1 r ∧ (r ≠ 0 → (L (26 + 2 * q) 2).toInt = (L 1 1).toInt))) 0 0 (va_A (wX cI cS a na nc N L u0) sz) := by
  refine Met.ofW (cc := cX9_readFrom) (maxL := 4) (ret := (some .boolean)) (by decide) rfl ?_
  intro p e s m args below meth c s₁ B hml hv
  obtain ⟨rfl, hsz, hP, hKK, hD0⟩ := hv
  have hx := B.exec
  have hb := B.bytes
  have hr := B.returns
  have hts := atoms_spec (ws := wsX9_readFrom) B.pre
  have hown : s.vm.findClass RX9 = some m.cls := findClass_of_methodNamed B.named
  have hlocks := B.notSynchronized
  have hK := hKK.1
  have hin2 : ∀ w ∈ wsX20, w ∈ wsX9_readFrom := by decide +kernel
  have hin6 : ∀ w ∈ wsX60, w ∈ wsX9_readFrom := by decide +kernel
  have hin9 : ∀ w ∈ wsX90, w ∈ wsX9_readFrom := by decide +kernel
  subst hsz
  have hD := hD0.self (sz := s.heap.size)
  obtain ⟨A, hAe⟩ : ∃ A, A = va_A (wX cI cS a na nc N L u0) s.heap.size := ⟨_, rfl⟩
  rw [← hAe] at hD
  have hA : ∀ q : Nat, s.heap.size ≤ q → A q := fun q h => by rw [hAe]; exact Or.inr h
  have hS : va_S A s.heap s.heap [] := va_S.rf
  have hl := lv_entry ([.ref (a 34), .ref (a (26 + 2 * q))]) (n := 4) (Nat.le_of_ble_eq_true rfl)
  rw [lg_entry_eq]
  generalize (lg_sl ([.ref (a 34), .ref (a (26 + 2 * q))]) ++ List.replicate (4 - (lg_sl ([.ref (a 34), .ref (a (26 + 2 * q))])).length) Slot.unset).toArray = ls at hl ⊢
  have hl : lv_has ls 4 [(0, .ref (a 34)), (1, .ref (a (26 + 2 * q)))] := hl
  obtain ⟨u, hu9⟩ : ∃ u : SU, u = u0 := ⟨_, rfl⟩
  rw [← hu9] at hP hD
  have lp71 : ∀ (n71 : Nat) (y71_l2 : Int32) (u : SU) (H : Heap) (locs : List Loc) (ls : Array Slot), Rg 0 12 y71_l2 → ((L (26 + 2 * q) 2).toInt = (L 1 1).toInt) → va_P D cls (wX cI cS a na nc N L u) H → va_D A (wX cI cS a na nc N L u) → va_S A s.heap H locs → lv_has ls 4 [(0, .ref (a 34)), (1, .ref (a (26 + 2 * q))), (2, .int y71_l2)] → 12 - y71_l2.toInt < (n71 : Int) → W p l e (headSpec wsX9_readFrom ({ frames := 3, cells := 0, slots := 0, locals := 120 })).room s m ([.ref (a 34), .ref (a (26 + 2 * q))]).toArray below meth c H locs 0 0 (MQ below (QF (S := SU) D (wX cI cS a na nc N L u0) (wX cI cS a na nc N L) s.heap.size (fun r _ => Rg 0 1 r ∧ (r ≠ 0 → (L (26 + 2 * q) 2).toInt = (L 1 1).toInt))) ([.ref (a 34), .ref (a (26 + 2 * q))]).toArray s 0 0 (va_A (wX cI cS a na nc N L u0) s.heap.size)) (F0 m 71 ls []) := by
    intro n71
    induction n71 with
    | zero =>
      intro y71_l2 u H locs ls g71_l2 x71_0 hP hD hS hl hm71
      exact absurd rfl (me_z g71_l2 hm71)
    | succ n71 ih71 =>
      intro y71_l2 u H locs ls g71_l2 x71_0 hP hD hS hl hm71
      refine lv_iload_n hx hb dX9_readFrom_71 rfl (lv_at hl 2 rfl) ?_
      refine lv_bipush (v := 12) hx hb dX9_readFrom_72 (by decide) ?_
      refine lv_icmp_ge (tgt := 109) hx hb dX9_readFrom_74 (by decide) (fun c49685 => ?_) (fun c49685 => ?_)
      · have g49686 : Rg 12 12 y71_l2 := rg_ler (by decide : Rg 12 12 (12 : Int32)) g71_l2 c49685 (by decide)
        refine lv_iconst (v := 1) hx hb dX9_readFrom_109 (by decide) ?_
        subst hAe
        exact W.zret (v := 1) hx hb hr (by decide) (fun t ht hW => ⟨⟨_, u, rfl, ⟨(by decide : Rg 0 1 (1 : Int32)), fun _ => (by have y90 : (12 : Int32).toInt ≤ y71_l2.toInt := (lz_le _ _).mp c49685; have y91 : Rg 12 12 y71_l2 := g49686; have y92 : Rg 12 12 y71_l2 := g49686; have y9c3 : (0 : Int32).toInt = 0 := (by decide); have y9c4 : (1 : Int32).toInt = 1 := (by decide); have y9c5 : (12 : Int32).toInt = 12 := (by decide); skip; omega)⟩, by rw [ht]; exact hP, hD⟩, hS.F ht⟩) hS.2.2 dX9_readFrom_110
      · have g49687 : Rg 0 11 y71_l2 := rg_ltl g71_l2 (by decide : Rg 12 12 (12 : Int32)) (rg_nle c49685) (by decide)
        refine lv_aload_n hx hb dX9_readFrom_77 rfl (lv_at hl 0 rfl) ?_
        refine va_get (D := D) (ci := 9) (v := .ref (a 35)) (C := RX9) (T := TX9) (N := 6) hx hb hts hin9 hown hK hP 34 rfl rfl 2 (by decide) (hts (.fieldLink RX9 9 "MissedPoints$Told" "mates" "[I") (by decide +kernel)) (fun _ h9 => h9) rfl dX9_readFrom_78 ?_
        refine lv_iload_n hx hb dX9_readFrom_81 rfl (lv_at hl 2 rfl) ?_
        refine lv_iload_n hx hb dX9_readFrom_82 rfl (lv_at hl 2 rfl) ?_
        refine lv_aload_n hx hb dX9_readFrom_83 rfl (lv_at hl 0 rfl) ?_
        refine va_get (D := D) (ci := 9) (v := .ref (a 1)) (C := RX9) (T := TX9) (N := 6) hx hb hts hin9 hown hK hP 34 rfl rfl 0 (by decide) (hts (.fieldLink RX9 21 "MissedPoints$Told" "net" "LMissedPoints$Net;") (by decide +kernel)) (fun _ h9 => h9) rfl dX9_readFrom_84 ?_
        refine va_getN (D := D) (ci := 2) (v := .int (L 1 1)) (C := RX2) (T := TX2) (N := 3) hx hb hts hin2 hown hK hP 1 rfl rfl 1 (by decide) (va_Nw.use rfl hKK.2.2.2.2.2.2.2.2.2.2.2.2.2.2.2.2.1) (fun _ h9 => h9) rfl dX9_readFrom_87 ?_
        refine lv_icmp_ge (tgt := 101) hx hb dX9_readFrom_90 (by decide) (fun c49688 => ?_) (fun c49688 => ?_)
        · have g49689 : Rg 0 11 (L 1 1) := rg_lel hL.1 g49687 c49688 (by decide)
          refine lv_iconst (v := (-1)) hx hb dX9_readFrom_101 (by decide) ?_
          refine ks_ast hx hb hK hP hD hS rfl (k := 35) rfl sx_35 (rg_in g49687 (by decide) (by decide)) dX9_readFrom_102 (fun u H locs hP hD hS => ?_)
          refine wk_iinc (lv' := fun r => [(2, .int r), (0, .ref (a 34)), (1, .ref (a (26 + 2 * q)))]) (e1 := 1) (f := 12) hx hb dX9_readFrom_103 hl (k := 2) rfl (by decide) g49687 (by decide) (fun _ => rfl) (fun r49690 ls hr49690 er49690 hl => ?_)
          refine lv_goto (tgt := 71) hx hb dX9_readFrom_106 (by decide) ?_
          exact ih71 r49690 u _ _ ls (show Rg 0 12 r49690 from rg_w hr49690 (by decide) (by decide)) (show ((L (26 + 2 * q) 2).toInt = (L 1 1).toInt) from by have y90 : y71_l2.toInt < (12 : Int32).toInt := (lz_lt _ _).mp (rg_nle c49685); have y91 : (L 1 1).toInt ≤ y71_l2.toInt := (lz_le _ _).mp c49688; have y92 : Rg 0 11 y71_l2 := g49687; have y93 : Rg 0 11 (L 1 1) := g49689; have y94 : Rg 1 12 r49690 := hr49690; have y9c5 : (0 : Int32).toInt = 0 := (by decide); have y9c6 : (1 : Int32).toInt = 1 := (by decide); have y9c7 : (12 : Int32).toInt = 12 := (by decide); omega) hP hD hS (lv_sub (l' := [(0, .ref (a 34)), (1, .ref (a (26 + 2 * q))), (2, .int r49690)]) hl [1, 2, 0] rfl) (me_up hm71 er49690 (by decide))
        · have g49691 : Rg 1 12 (L 1 1) := rg_ltr g49687 hL.1 (rg_nle c49688) (by decide)
          refine lv_aload_n hx hb dX9_readFrom_93 rfl (lv_at hl 1 rfl) ?_
          refine lv_iload_n hx hb dX9_readFrom_94 rfl (lv_at hl 2 rfl) ?_
          refine wk_sv (26 + 2 * q) (As := [.int y71_l2]) (rest := [.int y71_l2, .ref (a 35)]) ⟨hx, hb, hml, hown, hts⟩ (k_X6_at l D cI cS a na nc N L u hL hN q hq y71_l2) hKK hP (ci := 6) rfl (gx_sh hq) (cwV 1 hts gX9_readFrom_X6_at rfl rfl rfl (by decide +kernel) ⟨Nat.le_of_ble_eq_true rfl, Nat.le_of_ble_eq_true rfl⟩) rfl hl.1 rfl (Nat.le_of_ble_eq_true rfl) dX9_readFrom_95 ⟨Nat.le_of_ble_eq_true rfl, Nat.le_of_ble_eq_true rfl⟩ (fun r49692 hr49692 => ?_)
          refine lv_goto (tgt := 102) hx hb dX9_readFrom_98 (by decide) ?_
          refine ks_ast hx hb hK hP hD hS rfl (k := 35) rfl sx_35 (rg_in g49687 (by decide) (by decide)) dX9_readFrom_102 (fun u H locs hP hD hS => ?_)
          refine wk_iinc (lv' := fun r => [(2, .int r), (0, .ref (a 34)), (1, .ref (a (26 + 2 * q)))]) (e1 := 1) (f := 12) hx hb dX9_readFrom_103 hl (k := 2) rfl (by decide) g49687 (by decide) (fun _ => rfl) (fun r49693 ls hr49693 er49693 hl => ?_)
          refine lv_goto (tgt := 71) hx hb dX9_readFrom_106 (by decide) ?_
          exact ih71 r49693 u _ _ ls (show Rg 0 12 r49693 from rg_w hr49693 (by decide) (by decide)) (show ((L (26 + 2 * q) 2).toInt = (L 1 1).toInt) from by have y90 : y71_l2.toInt < (12 : Int32).toInt := (lz_lt _ _).mp (rg_nle c49685); have y91 : y71_l2.toInt < (L 1 1).toInt := (lz_lt _ _).mp (rg_nle c49688); have y92 : Rg 0 11 y71_l2 := g49687; have y93 : Rg 1 12 (L 1 1) := g49691; have y94 : Rg 1 12 r49693 := hr49693; have y9c5 : (0 : Int32).toInt = 0 := (by decide); have y9c6 : (1 : Int32).toInt = 1 := (by decide); have y9c7 : (12 : Int32).toInt = 12 := (by decide); omega) hP hD hS (lv_sub (l' := [(0, .ref (a 34)), (1, .ref (a (26 + 2 * q))), (2, .int r49693)]) hl [1, 2, 0] rfl) (me_up hm71 er49693 (by decide))
  have lp18 : ∀ (n18 : Nat) (y18_l2 : Int32) (u : SU) (H : Heap) (locs : List Loc) (ls : Array Slot), Rg 0 12 y18_l2 → ((L (26 + 2 * q) 2).toInt = (L 1 1).toInt) → va_P D cls (wX cI cS a na nc N L u) H → va_D A (wX cI cS a na nc N L u) → va_S A s.heap H locs → lv_has ls 4 [(0, .ref (a 34)), (1, .ref (a (26 + 2 * q))), (2, .int y18_l2)] → 12 - y18_l2.toInt < (n18 : Int) → W p l e (headSpec wsX9_readFrom ({ frames := 3, cells := 0, slots := 0, locals := 120 })).room s m ([.ref (a 34), .ref (a (26 + 2 * q))]).toArray below meth c H locs 0 0 (MQ below (QF (S := SU) D (wX cI cS a na nc N L u0) (wX cI cS a na nc N L) s.heap.size (fun r _ => Rg 0 1 r ∧ (r ≠ 0 → (L (26 + 2 * q) 2).toInt = (L 1 1).toInt))) ([.ref (a 34), .ref (a (26 + 2 * q))]).toArray s 0 0 (va_A (wX cI cS a na nc N L u0) s.heap.size)) (F0 m 18 ls []) := by
    intro n18
    induction n18 with
    | zero =>
      intro y18_l2 u H locs ls g18_l2 x18_0 hP hD hS hl hm18
      exact absurd rfl (me_z g18_l2 hm18)
    | succ n18 ih18 =>
      intro y18_l2 u H locs ls g18_l2 x18_0 hP hD hS hl hm18
      refine lv_iload_n hx hb dX9_readFrom_18 rfl (lv_at hl 2 rfl) ?_
      refine lv_aload_n hx hb dX9_readFrom_19 rfl (lv_at hl 0 rfl) ?_
      refine va_get (D := D) (ci := 9) (v := .ref (a 1)) (C := RX9) (T := TX9) (N := 6) hx hb hts hin9 hown hK hP 34 rfl rfl 0 (by decide) (hts (.fieldLink RX9 21 "MissedPoints$Told" "net" "LMissedPoints$Net;") (by decide +kernel)) (fun _ h9 => h9) rfl dX9_readFrom_20 ?_
      refine va_getN (D := D) (ci := 2) (v := .int (L 1 1)) (C := RX2) (T := TX2) (N := 3) hx hb hts hin2 hown hK hP 1 rfl rfl 1 (by decide) (va_Nw.use rfl hKK.2.2.2.2.2.2.2.2.2.2.2.2.2.2.2.2.1) (fun _ h9 => h9) rfl dX9_readFrom_23 ?_
      refine lv_icmp_ge (tgt := 69) hx hb dX9_readFrom_26 (by decide) (fun c49694 => ?_) (fun c49694 => ?_)
      · refine lv_iconst (v := 0) hx hb dX9_readFrom_69 (by decide) ?_
        refine lv_istore_n (lv' := [(2, .int 0), (0, .ref (a 34)), (1, .ref (a (26 + 2 * q)))]) hx hb dX9_readFrom_70 rfl hl (by decide) rfl (fun ls hl => ?_)
        exact lp71 13 (0 : Int32) u _ _ ls (by decide : Rg 0 12 (0 : Int32)) (show ((L (26 + 2 * q) 2).toInt = (L 1 1).toInt) from by have y90 : (L 1 1).toInt ≤ y18_l2.toInt := (lz_le _ _).mp c49694; have y9c1 : (0 : Int32).toInt = 0 := (by decide); have y9c2 : (1 : Int32).toInt = 1 := (by decide); omega) hP hD hS (lv_sub (l' := [(0, .ref (a 34)), (1, .ref (a (26 + 2 * q))), (2, .int 0)]) hl [1, 2, 0] rfl) (me_i (by decide : Rg 0 12 (0 : Int32)) (by decide))
      · have g49695 : Rg 1 12 (L 1 1) := rg_ltr g18_l2 hL.1 (rg_nle c49694) (by decide)
        have g49696 : Rg 0 11 y18_l2 := rg_ltl g18_l2 hL.1 (rg_nle c49694) (by decide)
        refine lv_aload_n hx hb dX9_readFrom_29 rfl (lv_at hl 1 rfl) ?_
        refine lv_iload_n hx hb dX9_readFrom_30 rfl (lv_at hl 2 rfl) ?_
        refine wk_sv (26 + 2 * q) (As := [.int y18_l2]) (rest := []) ⟨hx, hb, hml, hown, hts⟩ (k_X6_at l D cI cS a na nc N L u hL hN q hq y18_l2) hKK hP (ci := 6) rfl (gx_sh hq) (cwV 1 hts gX9_readFrom_X6_at rfl rfl rfl (by decide +kernel) ⟨Nat.le_of_ble_eq_true rfl, Nat.le_of_ble_eq_true rfl⟩) rfl hl.1 rfl (Nat.le_of_ble_eq_true rfl) dX9_readFrom_31 ⟨Nat.le_of_ble_eq_true rfl, Nat.le_of_ble_eq_true rfl⟩ (fun r49697 hr49697 => ?_)
        refine lv_istore_n (lv' := [(3, .int r49697), (0, .ref (a 34)), (1, .ref (a (26 + 2 * q))), (2, .int y18_l2)]) hx hb dX9_readFrom_34 rfl hl (by decide) rfl (fun ls hl => ?_)
        refine lv_iload_n hx hb dX9_readFrom_35 rfl (lv_at hl 0 rfl) ?_
        refine lv_iconst (v := (-1)) hx hb dX9_readFrom_36 (by decide) ?_
        refine lv_icmp_eq (tgt := 63) hx hb dX9_readFrom_37 (by decide) (fun c49698 => ?_) (fun c49698 => ?_)
        · have g49699 : Rg (-1) (-1) r49697 := wk_eql hr49697.1 (by decide : Rg (-1) (-1) ((-1) : Int32)) c49698 (by decide)
          refine wk_iinc (lv' := fun r => [(2, .int r), (3, .int r49697), (0, .ref (a 34)), (1, .ref (a (26 + 2 * q)))]) (e1 := 1) (f := 12) hx hb dX9_readFrom_63 hl (k := 3) rfl (by decide) g49696 (by decide) (fun _ => rfl) (fun r49700 ls hr49700 er49700 hl => ?_)
          refine lv_goto (tgt := 18) hx hb dX9_readFrom_66 (by decide) ?_
          exact ih18 r49700 u _ _ ls (show Rg 0 12 r49700 from rg_w hr49700 (by decide) (by decide)) (show ((L (26 + 2 * q) 2).toInt = (L 1 1).toInt) from by have y90 : y18_l2.toInt < (L 1 1).toInt := (lz_lt _ _).mp (rg_nle c49694); have y91 : r49697.toInt = ((-1) : Int32).toInt := congrArg Int32.toInt c49698; have y92 : Rg 1 12 (L 1 1) := g49695; have y93 : Rg 0 11 y18_l2 := g49696; have y94 : Rg (-1) (-1) r49697 := g49699; have y95 : Rg 1 12 r49700 := hr49700; have y96 : Rg (-1) (-1) r49697 := g49699; have y9c7 : ((-1) : Int32).toInt = -1 := (by decide); have y9c8 : (0 : Int32).toInt = 0 := (by decide); have y9c9 : (1 : Int32).toInt = 1 := (by decide); omega) hP hD hS (lv_sub (l' := [(0, .ref (a 34)), (1, .ref (a (26 + 2 * q))), (2, .int r49700)]) hl [2, 3, 0] rfl) (me_up hm18 er49700 (by decide))
        · refine lv_aload_n hx hb dX9_readFrom_40 rfl (lv_at hl 1 rfl) ?_
          refine va_get (D := D) (ci := 9) (v := .ref (a 1)) (C := RX9) (T := TX9) (N := 6) hx hb hts hin9 hown hK hP 34 rfl rfl 0 (by decide) (hts (.fieldLink RX9 21 "MissedPoints$Told" "net" "LMissedPoints$Net;") (by decide +kernel)) (fun _ h9 => h9) rfl dX9_readFrom_41 ?_
          refine lv_iload_n hx hb dX9_readFrom_44 rfl (lv_at hl 3 rfl) ?_
          refine lv_iload_n hx hb dX9_readFrom_45 rfl (lv_at hl 0 rfl) ?_
          refine wk_sv 1 (As := [.int y18_l2, .int r49697]) (rest := []) ⟨hx, hb, hml, hown, hts⟩ (k_X2_joined l D cI cS a na nc N L u hL hN y18_l2 r49697) hKK hP (ci := 2) rfl rfl (cwV 2 hts gX9_readFrom_X2_joined rfl rfl rfl (by decide +kernel) ⟨Nat.le_of_ble_eq_true rfl, Nat.le_of_ble_eq_true rfl⟩) rfl hl.1 rfl (Nat.le_of_ble_eq_true rfl) dX9_readFrom_46 ⟨Nat.le_of_ble_eq_true rfl, Nat.le_of_ble_eq_true rfl⟩ (fun r49701 hr49701 => ?_)
          refine lv_if_eq (tgt := 61) hx hb dX9_readFrom_49 (by decide) (fun c49702 => ?_) (fun c49702 => ?_)
          · have g49703 : Rg 0 0 r49701 := wk_eql hr49701.1 (by decide : Rg 0 0 (0 : Int32)) c49702 (by decide)
            refine lv_iconst (v := 0) hx hb dX9_readFrom_61 (by decide) ?_
            subst hAe
            exact W.zret (v := 0) hx hb hr (by decide) (fun t ht hW => ⟨⟨_, u, rfl, ⟨(by decide : Rg 0 1 (0 : Int32)), fun h9 => absurd rfl h9⟩, by rw [ht]; exact hP, hD⟩, hS.F ht⟩) hS.2.2 dX9_readFrom_62
          · have g49704 : Rg 0 11 r49697 := (hr49701.2 c49702).2
            have g49705 : Rg 1 1 r49701 := rg_ne_lo (k := 0) hr49701.1 (by decide) c49702 (by decide)
            refine lv_aload_n hx hb dX9_readFrom_52 rfl (lv_at hl 2 rfl) ?_
            refine lv_iload_n hx hb dX9_readFrom_53 rfl (lv_at hl 0 rfl) ?_
            refine wk_sv (26 + 2 * q) (As := [.int r49697]) (rest := []) ⟨hx, hb, hml, hown, hts⟩ (k_X6_at l D cI cS a na nc N L u hL hN q hq r49697) hKK hP (ci := 6) rfl (gx_sh hq) (cwV 1 hts gX9_readFrom_X6_at rfl rfl rfl (by decide +kernel) ⟨Nat.le_of_ble_eq_true rfl, Nat.le_of_ble_eq_true rfl⟩) rfl hl.1 rfl (Nat.le_of_ble_eq_true rfl) dX9_readFrom_54 ⟨Nat.le_of_ble_eq_true rfl, Nat.le_of_ble_eq_true rfl⟩ (fun r49706 hr49706 => ?_)
            refine lv_iload_n hx hb dX9_readFrom_57 rfl (lv_at hl 3 rfl) ?_
            refine lv_icmp_eq (tgt := 63) hx hb dX9_readFrom_58 (by decide) (fun c49707 => ?_) (fun c49707 => ?_)
            · have g49708 : Rg 0 11 r49706 := wk_eql hr49706.1 g49696 c49707 (by decide)
              refine wk_iinc (lv' := fun r => [(2, .int r), (3, .int r49697), (0, .ref (a 34)), (1, .ref (a (26 + 2 * q)))]) (e1 := 1) (f := 12) hx hb dX9_readFrom_63 hl (k := 3) rfl (by decide) g49696 (by decide) (fun _ => rfl) (fun r49709 ls hr49709 er49709 hl => ?_)
              refine lv_goto (tgt := 18) hx hb dX9_readFrom_66 (by decide) ?_
              exact ih18 r49709 u _ _ ls (show Rg 0 12 r49709 from rg_w hr49709 (by decide) (by decide)) (show ((L (26 + 2 * q) 2).toInt = (L 1 1).toInt) from by have y90 : y18_l2.toInt < (L 1 1).toInt := (lz_lt _ _).mp (rg_nle c49694); have y91 : ¬ r49697.toInt = ((-1) : Int32).toInt := fun z => c49698 (Int32.toInt_inj.mp z); have y92 : ¬ r49701.toInt = (0 : Int32).toInt := fun z => c49702 (Int32.toInt_inj.mp z); have y93 : r49706.toInt = y18_l2.toInt := congrArg Int32.toInt c49707; have y94 : Rg 1 12 (L 1 1) := g49695; have y95 : Rg 0 11 y18_l2 := g49696; have y96 : Rg 0 11 r49697 := g49704; have y97 : Rg 1 1 r49701 := g49705; have y98 : Rg 0 11 r49706 := g49708; have y99 : Rg 1 12 r49709 := hr49709; have y910 : Rg 0 11 r49697 := g49704; have y9c11 : ((-1) : Int32).toInt = -1 := (by decide); have y9c12 : (0 : Int32).toInt = 0 := (by decide); have y9c13 : (1 : Int32).toInt = 1 := (by decide); omega) hP hD hS (lv_sub (l' := [(0, .ref (a 34)), (1, .ref (a (26 + 2 * q))), (2, .int r49709)]) hl [2, 3, 0] rfl) (me_up hm18 er49709 (by decide))
            · refine lv_iconst (v := 0) hx hb dX9_readFrom_61 (by decide) ?_
              subst hAe
              exact W.zret (v := 0) hx hb hr (by decide) (fun t ht hW => ⟨⟨_, u, rfl, ⟨(by decide : Rg 0 1 (0 : Int32)), fun h9 => absurd rfl h9⟩, by rw [ht]; exact hP, hD⟩, hS.F ht⟩) hS.2.2 dX9_readFrom_62
  refine lv_aload_n hx hb dX9_readFrom_0 rfl (lv_at hl 1 rfl) ?_
  refine va_getN (D := D) (ci := 6) (v := .int ((L (26 + 2 * q) 2))) (C := RX6) (T := TX6) (N := 3) hx hb hts hin6 hown hK hP (26 + 2 * q) (gx_sh hq) rfl 2 (by decide) (va_Nw.use rfl hKK.2.2.2.2.2.2.2.2.2.2.2.2.2.2.2.1) (fun _ h9 => h9) rfl dX9_readFrom_1 ?_
  refine lv_aload_n hx hb dX9_readFrom_4 rfl (lv_at hl 0 rfl) ?_
  refine va_get (D := D) (ci := 9) (v := .ref (a 1)) (C := RX9) (T := TX9) (N := 6) hx hb hts hin9 hown hK hP 34 rfl rfl 0 (by decide) (hts (.fieldLink RX9 21 "MissedPoints$Told" "net" "LMissedPoints$Net;") (by decide +kernel)) (fun _ h9 => h9) rfl dX9_readFrom_5 ?_
  refine va_getN (D := D) (ci := 2) (v := .int (L 1 1)) (C := RX2) (T := TX2) (N := 3) hx hb hts hin2 hown hK hP 1 rfl rfl 1 (by decide) (va_Nw.use rfl hKK.2.2.2.2.2.2.2.2.2.2.2.2.2.2.2.2.1) (fun _ h9 => h9) rfl dX9_readFrom_8 ?_
  refine lv_icmp_eq (tgt := 16) hx hb dX9_readFrom_11 (by decide) (fun c49710 => ?_) (fun c49710 => ?_)
  · have g49711 : Rg 0 12 ((L (26 + 2 * q) 2)) := wk_eql (hL.sh hq) hL.1 c49710 (by decide)
    refine lv_iconst (v := 0) hx hb dX9_readFrom_16 (by decide) ?_
    refine lv_istore_n (lv' := [(2, .int 0), (0, .ref (a 34)), (1, .ref (a (26 + 2 * q)))]) hx hb dX9_readFrom_17 rfl hl (by decide) rfl (fun ls hl => ?_)
    exact lp18 13 (0 : Int32) u _ _ ls (by decide : Rg 0 12 (0 : Int32)) (show ((L (26 + 2 * q) 2).toInt = (L 1 1).toInt) from by have y90 : ((L (26 + 2 * q) 2)).toInt = (L 1 1).toInt := congrArg Int32.toInt c49710; have y91 : Rg 0 12 ((L (26 + 2 * q) 2)) := g49711; have y9c2 : (0 : Int32).toInt = 0 := (by decide); have y9c3 : (1 : Int32).toInt = 1 := (by decide); omega) hP hD hS (lv_sub (l' := [(0, .ref (a 34)), (1, .ref (a (26 + 2 * q))), (2, .int 0)]) hl [1, 2, 0] rfl) (me_i (by decide : Rg 0 12 (0 : Int32)) (by decide))
  · refine lv_iconst (v := 0) hx hb dX9_readFrom_14 (by decide) ?_
    subst hAe
    exact W.zret (v := 0) hx hb hr (by decide) (fun t ht hW => ⟨⟨_, u, rfl, ⟨(by decide : Rg 0 1 (0 : Int32)), fun h9 => absurd rfl h9⟩, by rw [ht]; exact hP, hD⟩, hS.F ht⟩) hS.2.2 dX9_readFrom_15
set_option maxHeartbeats 4000000 in
set_option maxRecDepth 100000 in
theorem k_X11_refusalOfTold_z (l : Launch) (D : va_G) (cI cS : ClassId) (sz : Nat) (a : Nat → Nat) (na nc N : Nat) (L u0 : SU) (hL : TyX L) (hN : N = 0 ∨ N = 24576) (x0 : Int32) : Met l yX11_refusalOfTold wsX11_refusalOfTold ({ frames := 4, cells := 0, slots := 0, locals := 160 }) (PQ D cI cS (wX cI cS a na nc N L u0) sz [.ref (a 0), .int x0]) (QF (S := SU) D (wX cI cS a na nc N L u0) (wX cI cS a na nc N L) sz (fun r _ => Rg (-11) 0 r ∧ (r = 0 → Rg 0 3 x0) ∧ (r = 0 → ((L (26 + 2 * x0.toNatClampNeg) 2).toInt = (L 1 1).toInt)))) 0 0 (va_A (wX cI cS a na nc N L u0) sz) := by
  refine Met.ofW (cc := cX11_refusalOfTold) (maxL := 3) (ret := (some .int)) (by decide) rfl ?_
  intro p e s m args below meth c s₁ B hml hv
  obtain ⟨rfl, hsz, hP, hKK, hD0⟩ := hv
  have hx := B.exec
  have hb := B.bytes
  have hr := B.returns
  have hts := atoms_spec (ws := wsX11_refusalOfTold) B.pre
  have hown : s.vm.findClass RX11 = some m.cls := findClass_of_methodNamed B.named
  have hlocks := B.notSynchronized
  have hK := hKK.1
  have hin11 : ∀ w ∈ wsX110, w ∈ wsX11_refusalOfTold := by decide +kernel
  subst hsz
  have hD := hD0.self (sz := s.heap.size)
  obtain ⟨A, hAe⟩ : ∃ A, A = va_A (wX cI cS a na nc N L u0) s.heap.size := ⟨_, rfl⟩
  rw [← hAe] at hD
  have hA : ∀ q : Nat, s.heap.size ≤ q → A q := fun q h => by rw [hAe]; exact Or.inr h
  have hS : va_S A s.heap s.heap [] := va_S.rf
  have hl := lv_entry ([.ref (a 0), .int x0]) (n := 3) (Nat.le_of_ble_eq_true rfl)
  rw [lg_entry_eq]
  generalize (lg_sl ([.ref (a 0), .int x0]) ++ List.replicate (3 - (lg_sl ([.ref (a 0), .int x0])).length) Slot.unset).toArray = ls at hl ⊢
  have hl : lv_has ls 3 [(0, .ref (a 0)), (1, .int x0)] := hl
  obtain ⟨u, hu9⟩ : ∃ u : SU, u = u0 := ⟨_, rfl⟩
  rw [← hu9] at hP hD
  refine lv_aload_n hx hb dX11_refusalOfTold_0 rfl (lv_at hl 0 rfl) ?_
  refine lv_iload_n hx hb dX11_refusalOfTold_1 rfl (lv_at hl 1 rfl) ?_
  refine wk_sv 0 (As := [.int x0]) (rest := []) ⟨hx, hb, hml, hown, hts⟩ (k_X11_refusalOfSheet l D cI cS a na nc N L u hL hN x0) hKK hP (ci := 11) rfl rfl (cwV 1 hts gX11_refusalOfTold_X11_refusalOfSheet rfl rfl rfl (by decide +kernel) ⟨Nat.le_of_ble_eq_true rfl, Nat.le_of_ble_eq_true rfl⟩) rfl hl.1 rfl (Nat.le_of_ble_eq_true rfl) dX11_refusalOfTold_2 ⟨Nat.le_of_ble_eq_true rfl, Nat.le_of_ble_eq_true rfl⟩ (fun r49722 hr49722 => ?_)
  refine lv_istore_n (lv' := [(2, .int r49722), (0, .ref (a 0)), (1, .int x0)]) hx hb dX11_refusalOfTold_5 rfl hl (by decide) rfl (fun ls hl => ?_)
  refine lv_iload_n hx hb dX11_refusalOfTold_6 rfl (lv_at hl 0 rfl) ?_
  refine lv_if_eq (tgt := 12) hx hb dX11_refusalOfTold_7 (by decide) (fun c49723 => ?_) (fun c49723 => ?_)
  · have g49724 : Rg 0 3 x0 := (hr49722.2 c49723)
    have g49725 : Rg 0 0 r49722 := wk_eql hr49722.1 (by decide : Rg 0 0 (0 : Int32)) c49723 (by decide)
    refine lv_aload_n hx hb dX11_refusalOfTold_12 rfl (lv_at hl 1 rfl) ?_
    refine va_get (D := D) (ci := 11) (v := .ref (a 34)) (C := RX11) (T := TX11) (N := 16) hx hb hts hin11 hown hK hP 0 rfl rfl 13 (by decide) (hts (.fieldLink RX11 82 "MissedPoints" "told" "LMissedPoints$Told;") (by decide +kernel)) (fun _ h9 => h9) rfl dX11_refusalOfTold_13 ?_
    refine lv_aload_n hx hb dX11_refusalOfTold_16 rfl (lv_at hl 1 rfl) ?_
    refine va_get (D := D) (ci := 11) (v := .ref (a 25)) (C := RX11) (T := TX11) (N := 16) hx hb hts hin11 hown hK hP 0 rfl rfl 12 (by decide) (hts (.fieldLink RX11 75 "MissedPoints" "sheets" "[LMissedPoints$Sheet;") (by decide +kernel)) (fun _ h9 => h9) rfl dX11_refusalOfTold_17 ?_
    refine lv_iload_n hx hb dX11_refusalOfTold_20 rfl (lv_at hl 2 rfl) ?_
    obtain ⟨q49726, hq49726, eq49726, zq49726⟩ := ks_sh (a := a) g49724
    refine va_aldq hx hb hK hP 25 1 rfl rfl (rg_in g49724 (by decide) (by decide)) dX11_refusalOfTold_21 ?_
    refine lz_va (y := .ref (a (26 + 2 * q49726))) (by show va_rf _ = _; rw [zq49726]; rfl) ?_
    refine wk_qi (wX cI cS a na nc N L) u (As := [.ref (a (26 + 2 * q49726))]) (rest := []) ⟨hx, hb, hml, hown, hts⟩ (k_X9_readFrom_z l D cI cS _ a na nc N L u hL hN q49726 hq49726) hKK hP hD hS hA 34 (ci := 9) rfl rfl (cwV 1 hts gX11_refusalOfTold_X9_readFrom rfl rfl rfl (by decide +kernel) ⟨Nat.le_of_ble_eq_true rfl, Nat.le_of_ble_eq_true rfl⟩) rfl hl.1 rfl (Nat.le_of_ble_eq_true rfl) dX11_refusalOfTold_22 ⟨Nat.le_of_ble_eq_true rfl, Nat.le_of_ble_eq_true rfl⟩ (fun r49727 u H locs hr49727 hP hD hS => ?_)
    refine lv_if_eq (tgt := 32) hx hb dX11_refusalOfTold_25 (by decide) (fun c49728 => ?_) (fun c49728 => ?_)
    · have g49729 : Rg 0 0 r49727 := wk_eql hr49727.1 (by decide : Rg 0 0 (0 : Int32)) c49728 (by decide)
      refine lv_bipush (v := (-3)) hx hb dX11_refusalOfTold_32 (by decide) ?_
      subst hAe
      exact W.iret (v := (-3)) hx hb hr (fun t ht hW => ⟨⟨_, u, rfl, ⟨(by decide : Rg (-11) 0 ((-3) : Int32)), fun h9 => absurd h9 (by decide), fun h9 => absurd h9 (by decide)⟩, by rw [ht]; exact hP, hD⟩, hS.F ht⟩) hS.2.2 dX11_refusalOfTold_34
    · have g49730 : Rg 1 1 r49727 := rg_ne_lo (k := 0) hr49727.1 (by decide) c49728 (by decide)
      refine lv_iconst (v := 0) hx hb dX11_refusalOfTold_28 (by decide) ?_
      refine lv_goto (tgt := 34) hx hb dX11_refusalOfTold_29 (by decide) ?_
      subst hAe
      exact W.iret (v := 0) hx hb hr (fun t ht hW => ⟨⟨_, u, rfl, ⟨(by decide : Rg (-11) 0 (0 : Int32)), fun _ => g49724, fun _ => (by rw [eq49726]; exact hr49727.2 c49728)⟩, by rw [ht]; exact hP, hD⟩, hS.F ht⟩) hS.2.2 dX11_refusalOfTold_34
  · have g49731 : Rg (-11) (-1) r49722 := rg_ne_hi (k := 0) hr49722.1 (by decide) c49723 (by decide)
    refine lv_iload_n hx hb dX11_refusalOfTold_10 rfl (lv_at hl 0 rfl) ?_
    subst hAe
    exact W.iret (v := r49722) hx hb hr (fun t ht hW => ⟨⟨_, u, rfl, ⟨(show Rg (-11) 0 r49722 from rg_w g49731 (by decide) (by decide)), fun h9 => absurd h9 (wk_nz g49731 (by decide)), fun h9 => absurd h9 (wk_nz g49731 (by decide))⟩, by rw [ht]; exact hP, hD⟩, hS.F ht⟩) hS.2.2 dX11_refusalOfTold_11
set_option maxRecDepth 20000 in
theorem ggX11_grow_X11_refusalOfTold : GoodIn wsX11_grow wsX11_refusalOfTold := goodIn_r _ [7, 1, 2, 8, 9, 10, 6, 11, 12, 13, 14, 15, 16, 17, 18, 19, 20, 21, 22, 23, 24, 25, 26, 27, 28, 29, 30, 31, 32, 33, 34, 35, 36, 37, 38, 39, 40, 41, 42, 43, 44, 45, 46, 47, 48, 49, 50, 51, 52, 154, 155, 156, 157, 158, 159, 160, 161, 162, 163, 164, 165, 166, 167, 168, 169, 170, 171, 172, 173, 174, 175, 176, 177, 178, 179, 180, 181] rfl (by decide +kernel)
set_option maxRecDepth 20000 in
theorem gX11_grow_X11_refusalOfTold : GoodIn wsX11_grow (wsV RX11 225 RX11 yX11_refusalOfTold wsX11_refusalOfTold) := goodIn_app (goodIn_of _ (by decide +kernel)) ggX11_grow_X11_refusalOfTold
set_option maxRecDepth 20000 in
theorem ggX11_grow_X9_lineCount : GoodIn wsX11_grow wsX9_lineCount := goodIn_r _ [62, 26, 63, 64, 65, 24, 66, 27, 67, 68, 69, 70, 71, 72, 73, 173, 174, 175, 176, 177, 178, 179, 180, 181] rfl (by decide +kernel)
set_option maxRecDepth 20000 in
theorem gX11_grow_X9_lineCount : GoodIn wsX11_grow (wsV RX11 247 RX9 yX9_lineCount wsX9_lineCount) := goodIn_app (goodIn_of _ (by decide +kernel)) ggX11_grow_X9_lineCount
set_option maxRecDepth 20000 in
theorem ggX11_grow_X9_seekWay : GoodIn wsX11_grow wsX9_seekWay := goodIn_r _ [56, 57, 58, 26, 59, 60, 61, 24, 62, 63, 64, 65, 66, 27, 67, 68, 69, 70, 71, 72, 73, 74, 75, 76, 41, 77, 52, 78, 79, 80, 81, 82, 83, 84, 85, 86, 87, 88, 89, 90, 91, 92, 93, 94, 95, 96, 97, 98, 99, 100, 101, 102, 103, 104, 105, 106, 107, 108, 109, 110, 111, 112, 113, 114, 115, 116, 117, 118, 119, 120, 121, 122, 123, 124, 125, 126, 127, 128, 43, 48, 49, 50, 51, 173, 174, 175, 176, 177, 178, 179, 180, 181, 182, 183, 184, 185, 186, 187] rfl (by decide +kernel)
set_option maxRecDepth 20000 in
theorem gX11_grow_X9_seekWay : GoodIn wsX11_grow (wsV RX11 231 RX9 yX9_seekWay wsX9_seekWay) := goodIn_app (goodIn_of _ (by decide +kernel)) ggX11_grow_X9_seekWay
set_option maxRecDepth 20000 in
theorem ggX11_grow_X9_turnWay : GoodIn wsX11_grow wsX9_turnWay := goodIn_r _ [132, 57, 120, 26, 27, 133, 45, 46, 41, 47, 48, 49, 50, 51, 52, 173, 174, 175, 176, 177, 178, 179, 180, 181] rfl (by decide +kernel)
set_option maxRecDepth 20000 in
theorem gX11_grow_X9_turnWay : GoodIn wsX11_grow (wsV RX11 237 RX9 yX9_turnWay wsX9_turnWay) := goodIn_app (goodIn_of _ (by decide +kernel)) ggX11_grow_X9_turnWay
set_option maxRecDepth 20000 in
theorem ggX11_grow_X9_writeTo : GoodIn wsX11_grow wsX9_writeTo := goodIn_r _ [137, 26, 27, 138, 139, 140, 18, 141, 20, 142, 143, 144, 145, 146, 147, 148, 37, 32, 149, 150, 151, 152, 33, 34, 35, 36, 173, 174, 175, 176, 177, 178, 179, 180, 181, 170, 171, 172] rfl (by decide +kernel)
set_option maxRecDepth 20000 in
theorem gX11_grow_X9_writeTo : GoodIn wsX11_grow (wsV RX11 243 RX9 yX9_writeTo wsX9_writeTo) := goodIn_app (goodIn_of _ (by decide +kernel)) ggX11_grow_X9_writeTo
theorem dX11_grow_0 : decode cX11_grow 0 = .ok (.aload_n 0, 1) := by decide +kernel
theorem dX11_grow_1 : decode cX11_grow 1 = .ok (.iload_n 1, 1) := by decide +kernel
theorem dX11_grow_10 : decode cX11_grow 10 = .ok (.iload_n 2, 1) := by decide +kernel
theorem dX11_grow_11 : decode cX11_grow 11 = .ok (.ireturn, 1) := by decide +kernel
theorem dX11_grow_12 : decode cX11_grow 12 = .ok (.aload_n 0, 1) := by decide +kernel
theorem dX11_grow_13 : decode cX11_grow 13 = .ok (.getfield 82, 3) := by decide +kernel
theorem dX11_grow_16 : decode cX11_grow 16 = .ok (.invokevirtual 231, 3) := by decide +kernel
theorem dX11_grow_19 : decode cX11_grow 19 = .ok (.ifCond .ne 5, 3) := by decide +kernel
theorem dX11_grow_2 : decode cX11_grow 2 = .ok (.invokevirtual 225, 3) := by decide +kernel
theorem dX11_grow_22 : decode cX11_grow 22 = .ok (.iconst (-1), 1) := by decide +kernel
theorem dX11_grow_23 : decode cX11_grow 23 = .ok (.ireturn, 1) := by decide +kernel
theorem dX11_grow_24 : decode cX11_grow 24 = .ok (.aload_n 0, 1) := by decide +kernel
theorem dX11_grow_25 : decode cX11_grow 25 = .ok (.getfield 82, 3) := by decide +kernel
theorem dX11_grow_28 : decode cX11_grow 28 = .ok (.invokevirtual 237, 3) := by decide +kernel
theorem dX11_grow_31 : decode cX11_grow 31 = .ok (.aload_n 0, 1) := by decide +kernel
theorem dX11_grow_32 : decode cX11_grow 32 = .ok (.getfield 82, 3) := by decide +kernel
theorem dX11_grow_35 : decode cX11_grow 35 = .ok (.aload_n 0, 1) := by decide +kernel
theorem dX11_grow_36 : decode cX11_grow 36 = .ok (.getfield 75, 3) := by decide +kernel
theorem dX11_grow_39 : decode cX11_grow 39 = .ok (.iload_n 1, 1) := by decide +kernel
theorem dX11_grow_40 : decode cX11_grow 40 = .ok (.aaload, 1) := by decide +kernel
theorem dX11_grow_41 : decode cX11_grow 41 = .ok (.aload_n 0, 1) := by decide +kernel
theorem dX11_grow_42 : decode cX11_grow 42 = .ok (.getfield 75, 3) := by decide +kernel
theorem dX11_grow_45 : decode cX11_grow 45 = .ok (.iload_n 1, 1) := by decide +kernel
theorem dX11_grow_46 : decode cX11_grow 46 = .ok (.aaload, 1) := by decide +kernel
theorem dX11_grow_47 : decode cX11_grow 47 = .ok (.getfield 240, 3) := by decide +kernel
theorem dX11_grow_5 : decode cX11_grow 5 = .ok (.istore_n 2, 1) := by decide +kernel
theorem dX11_grow_50 : decode cX11_grow 50 = .ok (.invokevirtual 243, 3) := by decide +kernel
theorem dX11_grow_53 : decode cX11_grow 53 = .ok (.aload_n 0, 1) := by decide +kernel
theorem dX11_grow_54 : decode cX11_grow 54 = .ok (.getfield 82, 3) := by decide +kernel
theorem dX11_grow_57 : decode cX11_grow 57 = .ok (.invokevirtual 247, 3) := by decide +kernel
theorem dX11_grow_6 : decode cX11_grow 6 = .ok (.iload_n 2, 1) := by decide +kernel
theorem dX11_grow_60 : decode cX11_grow 60 = .ok (.ireturn, 1) := by decide +kernel
theorem dX11_grow_7 : decode cX11_grow 7 = .ok (.ifCond .eq 5, 3) := by decide +kernel
set_option maxHeartbeats 4000000 in
set_option maxRecDepth 100000 in
theorem k_X11_grow (l : Launch) (D : va_G) (cI cS : ClassId) (sz : Nat) (a : Nat → Nat) (na nc N : Nat) (tw : SU) (l_s l_t l_i l_kp l_iz l_z l_tp l_o0 l_o1 l_o2 l_o3 l_n0 l_n1 l_n2 l_n3 : Int32) (u0 : SU) (hL : TyX (mkL tw l_s l_t l_i l_kp l_iz l_z l_tp l_o0 l_o1 l_o2 l_o3 l_n0 l_n1 l_n2 l_n3)) (hN : N = 0 ∨ N = 24576) (x0 : Int32) : Met l yX11_grow wsX11_grow ({ frames := 17, cells := 0, slots := 0, locals := 680 }) (PQ D cI cS (wX cI cS a na nc N (mkL tw l_s l_t l_i l_kp l_iz l_z l_tp l_o0 l_o1 l_o2 l_o3 l_n0 l_n1 l_n2 l_n3) u0) sz [.ref (a 0), .int x0]) (QF (S := Int32 × Int32 × Int32 × Int32 × Int32 × Int32 × Int32 × Int32 × SU) D (wX cI cS a na nc N (mkL tw l_s l_t l_i l_kp l_iz l_z l_tp l_o0 l_o1 l_o2 l_o3 l_n0 l_n1 l_n2 l_n3) u0) (fun q => wX cI cS a na nc N (mkL tw l_s l_t l_i l_kp l_iz l_z l_tp q.1 q.2.1 q.2.2.1 q.2.2.2.1 q.2.2.2.2.1 q.2.2.2.2.2.1 q.2.2.2.2.2.2.1 q.2.2.2.2.2.2.2.1) q.2.2.2.2.2.2.2.2) sz (fun r q => Rg (-2147483648) 2147483647 r ∧ Rg 0 40 q.2.2.2.2.1 ∧ Rg 0 40 q.2.2.2.2.2.1 ∧ Rg 0 40 q.2.2.2.2.2.2.1 ∧ Rg 0 40 q.2.2.2.2.2.2.2.1 ∧ (q.1.toInt = l_o0.toInt ∧ q.2.2.2.2.1.toInt = l_n0.toInt) ∧ (q.2.1.toInt = l_o1.toInt ∧ q.2.2.2.2.2.1.toInt = l_n1.toInt) ∧ (q.2.2.1.toInt = l_o2.toInt ∧ q.2.2.2.2.2.2.1.toInt = l_n2.toInt) ∧ (q.2.2.2.1.toInt = l_o3.toInt ∧ q.2.2.2.2.2.2.2.1.toInt = l_n3.toInt))) 0 0 (va_A (wX cI cS a na nc N (mkL tw l_s l_t l_i l_kp l_iz l_z l_tp l_o0 l_o1 l_o2 l_o3 l_n0 l_n1 l_n2 l_n3) u0) sz) := by
  refine Met.ofW (cc := cX11_grow) (maxL := 3) (ret := (some .int)) (by decide) rfl ?_
  intro p e s m args below meth c s₁ B hml hv
  obtain ⟨rfl, hsz, hP, hKK, hD0⟩ := hv
  have hx := B.exec
  have hb := B.bytes
  have hr := B.returns
  have hts := atoms_spec (ws := wsX11_grow) B.pre
  have hown : s.vm.findClass RX11 = some m.cls := findClass_of_methodNamed B.named
  have hlocks := B.notSynchronized
  have hK := hKK.1
  have hin6 : ∀ w ∈ wsX60, w ∈ wsX11_grow := by decide +kernel
  have hin11 : ∀ w ∈ wsX110, w ∈ wsX11_grow := by decide +kernel
  subst hsz
  have hD := hD0.self (sz := s.heap.size)
  obtain ⟨A, hAe⟩ : ∃ A, A = va_A (wX cI cS a na nc N (mkL tw l_s l_t l_i l_kp l_iz l_z l_tp l_o0 l_o1 l_o2 l_o3 l_n0 l_n1 l_n2 l_n3) u0) s.heap.size := ⟨_, rfl⟩
  rw [← hAe] at hD
  have hA : ∀ q : Nat, s.heap.size ≤ q → A q := fun q h => by rw [hAe]; exact Or.inr h
  have hS : va_S A s.heap s.heap [] := va_S.rf
  have hl := lv_entry ([.ref (a 0), .int x0]) (n := 3) (Nat.le_of_ble_eq_true rfl)
  rw [lg_entry_eq]
  generalize (lg_sl ([.ref (a 0), .int x0]) ++ List.replicate (3 - (lg_sl ([.ref (a 0), .int x0])).length) Slot.unset).toArray = ls at hl ⊢
  have hl : lv_has ls 3 [(0, .ref (a 0)), (1, .int x0)] := hl
  obtain ⟨u, hu9⟩ : ∃ u : SU, u = u0 := ⟨_, rfl⟩
  rw [← hu9] at hP hD
  have p_s : Rg 0 12 l_s := hL.1
  have p_t : Rg 0 12 l_t := hL.2.1
  have p_i : Rg 0 12 l_i := hL.2.2.1
  have p_tp : Rg 0 120 l_tp := hL.2.2.2.1
  have p_n0 : Rg 0 40 l_n0 := hL.2.2.2.2.1
  have p_n1 : Rg 0 40 l_n1 := hL.2.2.2.2.2.1
  have p_n2 : Rg 0 40 l_n2 := hL.2.2.2.2.2.2.1
  have p_n3 : Rg 0 40 l_n3 := hL.2.2.2.2.2.2.2
  refine lv_aload_n hx hb dX11_grow_0 rfl (lv_at hl 0 rfl) ?_
  refine lv_iload_n hx hb dX11_grow_1 rfl (lv_at hl 1 rfl) ?_
  refine wk_qi (wX cI cS a na nc N (mkL tw l_s l_t l_i l_kp l_iz l_z l_tp l_o0 l_o1 l_o2 l_o3 l_n0 l_n1 l_n2 l_n3)) u (As := [.int x0]) (rest := []) ⟨hx, hb, hml, hown, hts⟩ (k_X11_refusalOfTold_z l D cI cS _ a na nc N (mkL tw l_s l_t l_i l_kp l_iz l_z l_tp l_o0 l_o1 l_o2 l_o3 l_n0 l_n1 l_n2 l_n3) u (show TyX (mkL tw l_s l_t l_i l_kp l_iz l_z l_tp l_o0 l_o1 l_o2 l_o3 l_n0 l_n1 l_n2 l_n3) from ⟨p_s, p_t, p_i, p_tp, p_n0, p_n1, p_n2, p_n3⟩) hN x0) hKK hP hD hS hA 0 (ci := 11) rfl rfl (cwV 1 hts gX11_grow_X11_refusalOfTold rfl rfl rfl (by decide +kernel) ⟨Nat.le_of_ble_eq_true rfl, Nat.le_of_ble_eq_true rfl⟩) rfl hl.1 rfl (Nat.le_of_ble_eq_true rfl) dX11_grow_2 ⟨Nat.le_of_ble_eq_true rfl, Nat.le_of_ble_eq_true rfl⟩ (fun r49762 u H locs hr49762 hP hD hS => ?_)
  refine lv_istore_n (lv' := [(2, .int r49762), (0, .ref (a 0)), (1, .int x0)]) hx hb dX11_grow_5 rfl hl (by decide) rfl (fun ls hl => ?_)
  refine lv_iload_n hx hb dX11_grow_6 rfl (lv_at hl 0 rfl) ?_
  refine lv_if_eq (tgt := 12) hx hb dX11_grow_7 (by decide) (fun c49763 => ?_) (fun c49763 => ?_)
  · have g49764 : Rg 0 3 x0 := (hr49762.2.1 c49763)
    have zt49765 : (((mkL tw l_s l_t l_i l_kp l_iz l_z l_tp l_o0 l_o1 l_o2 l_o3 l_n0 l_n1 l_n2 l_n3) (26 + 2 * x0.toNatClampNeg) 2).toInt = l_s.toInt) := hr49762.2.2 c49763
    have g49766 : Rg 0 0 r49762 := wk_eql hr49762.1 (by decide : Rg 0 0 (0 : Int32)) c49763 (by decide)
    refine lv_aload_n hx hb dX11_grow_12 rfl (lv_at hl 1 rfl) ?_
    refine va_get (D := D) (ci := 11) (v := .ref (a 34)) (C := RX11) (T := TX11) (N := 16) hx hb hts hin11 hown hK hP 0 rfl rfl 13 (by decide) (hts (.fieldLink RX11 82 "MissedPoints" "told" "LMissedPoints$Told;") (by decide +kernel)) (fun _ h9 => h9) rfl dX11_grow_13 ?_
    refine wk_qi (wX cI cS a na nc N (mkL tw l_s l_t l_i l_kp l_iz l_z l_tp l_o0 l_o1 l_o2 l_o3 l_n0 l_n1 l_n2 l_n3)) u (As := []) (rest := []) ⟨hx, hb, hml, hown, hts⟩ (k_X9_seekWay l D cI cS _ a na nc N (mkL tw l_s l_t l_i l_kp l_iz l_z l_tp l_o0 l_o1 l_o2 l_o3 l_n0 l_n1 l_n2 l_n3) u (show TyX (mkL tw l_s l_t l_i l_kp l_iz l_z l_tp l_o0 l_o1 l_o2 l_o3 l_n0 l_n1 l_n2 l_n3) from ⟨p_s, p_t, p_i, p_tp, p_n0, p_n1, p_n2, p_n3⟩) hN) hKK hP hD hS hA 34 (ci := 9) rfl rfl (cwV 0 hts gX11_grow_X9_seekWay rfl rfl rfl (by decide +kernel) ⟨Nat.le_of_ble_eq_true rfl, Nat.le_of_ble_eq_true rfl⟩) rfl hl.1 rfl (Nat.le_of_ble_eq_true rfl) dX11_grow_16 ⟨Nat.le_of_ble_eq_true rfl, Nat.le_of_ble_eq_true rfl⟩ (fun r49767 u H locs hr49767 hP hD hS => ?_)
    refine lv_if_ne (tgt := 24) hx hb dX11_grow_19 (by decide) (fun c49768 => ?_) (fun c49768 => ?_)
    · refine lv_aload_n hx hb dX11_grow_24 rfl (lv_at hl 1 rfl) ?_
      refine va_get (D := D) (ci := 11) (v := .ref (a 34)) (C := RX11) (T := TX11) (N := 16) hx hb hts hin11 hown hK hP 0 rfl rfl 13 (by decide) (hts (.fieldLink RX11 82 "MissedPoints" "told" "LMissedPoints$Told;") (by decide +kernel)) (fun _ h9 => h9) rfl dX11_grow_25 ?_
      refine wk_qv (wX cI cS a na nc N (mkL tw l_s l_t l_i l_kp l_iz l_z l_tp l_o0 l_o1 l_o2 l_o3 l_n0 l_n1 l_n2 l_n3)) u (As := []) (rest := []) ⟨hx, hb, hml, hown, hts⟩ (k_X9_turnWay l D cI cS _ a na nc N (mkL tw l_s l_t l_i l_kp l_iz l_z l_tp l_o0 l_o1 l_o2 l_o3 l_n0 l_n1 l_n2 l_n3) u (show TyX (mkL tw l_s l_t l_i l_kp l_iz l_z l_tp l_o0 l_o1 l_o2 l_o3 l_n0 l_n1 l_n2 l_n3) from ⟨p_s, p_t, p_i, p_tp, p_n0, p_n1, p_n2, p_n3⟩) hN) hKK hP hD hS hA 34 (ci := 9) rfl rfl (cwV 0 hts gX11_grow_X9_turnWay rfl rfl rfl (by decide +kernel) ⟨Nat.le_of_ble_eq_true rfl, Nat.le_of_ble_eq_true rfl⟩) rfl hl.1 rfl (Nat.le_of_ble_eq_true rfl) dX11_grow_28 ⟨Nat.le_of_ble_eq_true rfl, Nat.le_of_ble_eq_true rfl⟩ (fun u H locs hr49769 hP hD hS => ?_)
      refine lv_aload_n hx hb dX11_grow_31 rfl (lv_at hl 1 rfl) ?_
      refine va_get (D := D) (ci := 11) (v := .ref (a 34)) (C := RX11) (T := TX11) (N := 16) hx hb hts hin11 hown hK hP 0 rfl rfl 13 (by decide) (hts (.fieldLink RX11 82 "MissedPoints" "told" "LMissedPoints$Told;") (by decide +kernel)) (fun _ h9 => h9) rfl dX11_grow_32 ?_
      refine lv_aload_n hx hb dX11_grow_35 rfl (lv_at hl 1 rfl) ?_
      refine va_get (D := D) (ci := 11) (v := .ref (a 25)) (C := RX11) (T := TX11) (N := 16) hx hb hts hin11 hown hK hP 0 rfl rfl 12 (by decide) (hts (.fieldLink RX11 75 "MissedPoints" "sheets" "[LMissedPoints$Sheet;") (by decide +kernel)) (fun _ h9 => h9) rfl dX11_grow_36 ?_
      refine lv_iload_n hx hb dX11_grow_39 rfl (lv_at hl 2 rfl) ?_
      by_cases k49770 : x0 = 0
      · refine va_aldq hx hb hK hP 25 1 rfl rfl (rg_in g49764 (by decide) (by decide)) dX11_grow_40 ?_
        refine lz_va (y := .ref (a 26)) (by rw [k49770]; rfl) ?_
        have sj : l_n0.toInt = l_s.toInt := by have z := zt49765; rw [k49770] at z; exact z
        refine lv_aload_n hx hb dX11_grow_41 rfl (lv_at hl 1 rfl) ?_
        refine va_get (D := D) (ci := 11) (v := .ref (a 25)) (C := RX11) (T := TX11) (N := 16) hx hb hts hin11 hown hK hP 0 rfl rfl 12 (by decide) (hts (.fieldLink RX11 75 "MissedPoints" "sheets" "[LMissedPoints$Sheet;") (by decide +kernel)) (fun _ h9 => h9) rfl dX11_grow_42 ?_
        refine lv_iload_n hx hb dX11_grow_45 rfl (lv_at hl 2 rfl) ?_
        refine va_aldq hx hb hK hP 25 1 rfl rfl (rg_in g49764 (by decide) (by decide)) dX11_grow_46 ?_
        refine lz_va (y := .ref (a 26)) (by rw [k49770]; rfl) ?_
        have sj : l_n0.toInt = l_s.toInt := by have z := zt49765; rw [k49770] at z; exact z
        refine va_getN (D := D) (ci := 6) (v := .int l_o0) (C := RX6) (T := TX6) (N := 3) hx hb hts hin6 hown hK hP 26 rfl rfl 1 (by decide) (va_Nw.use rfl hKK.2.2.2.2.2.2.2.1) (fun _ h9 => h9) rfl dX11_grow_47 ?_
        refine wk_qv (S := Int32 × Int32 × SU) (fun q => wX cI cS a na nc N (mkL tw l_s l_t l_i l_kp l_iz l_z l_tp q.1 l_o1 l_o2 l_o3 q.2.1 l_n1 l_n2 l_n3) q.2.2) (l_o0, l_n0, u) (As := [.ref (a 26), .int l_o0]) (rest := []) ⟨hx, hb, hml, hown, hts⟩ (k_X9_writeTo_0 l D cI cS _ a na nc N tw l_s l_t l_i l_kp l_iz l_z l_tp l_o0 l_o1 l_o2 l_o3 l_n0 l_n1 l_n2 l_n3 u (show TyX (mkL tw l_s l_t l_i l_kp l_iz l_z l_tp l_o0 l_o1 l_o2 l_o3 l_n0 l_n1 l_n2 l_n3) from ⟨p_s, p_t, p_i, p_tp, p_n0, p_n1, p_n2, p_n3⟩) hN l_o0) hKK hP hD hS hA 34 (ci := 9) rfl rfl (cwV 2 hts gX11_grow_X9_writeTo rfl rfl rfl (by decide +kernel) ⟨Nat.le_of_ble_eq_true rfl, Nat.le_of_ble_eq_true rfl⟩) rfl hl.1 rfl (Nat.le_of_ble_eq_true rfl) dX11_grow_50 ⟨Nat.le_of_ble_eq_true rfl, Nat.le_of_ble_eq_true rfl⟩ (fun q9 H locs hr49771 hP hD hS => ?_)
        obtain ⟨r49772, r49773, u⟩ := q9
        have hr49771 : Rg 0 40 r49773 ∧ (r49772.toInt = l_o0.toInt ∧ r49773.toInt = l_s.toInt) := hr49771
        have hP : va_P D cls (wX cI cS a na nc N (mkL tw l_s l_t l_i l_kp l_iz l_z l_tp r49772 l_o1 l_o2 l_o3 r49773 l_n1 l_n2 l_n3) u) H := hP
        have hD : va_D A (wX cI cS a na nc N (mkL tw l_s l_t l_i l_kp l_iz l_z l_tp r49772 l_o1 l_o2 l_o3 r49773 l_n1 l_n2 l_n3) u) := hD
        have kr49771_0 := hr49771.2
        refine lv_aload_n hx hb dX11_grow_53 rfl (lv_at hl 1 rfl) ?_
        refine va_get (D := D) (ci := 11) (v := .ref (a 34)) (C := RX11) (T := TX11) (N := 16) hx hb hts hin11 hown hK hP 0 rfl rfl 13 (by decide) (hts (.fieldLink RX11 82 "MissedPoints" "told" "LMissedPoints$Told;") (by decide +kernel)) (fun _ h9 => h9) rfl dX11_grow_54 ?_
        refine wk_sv 34 (As := []) (rest := []) ⟨hx, hb, hml, hown, hts⟩ (k_X9_lineCount l D cI cS a na nc N (mkL tw l_s l_t l_i l_kp l_iz l_z l_tp r49772 l_o1 l_o2 l_o3 r49773 l_n1 l_n2 l_n3) u (show TyX (mkL tw l_s l_t l_i l_kp l_iz l_z l_tp r49772 l_o1 l_o2 l_o3 r49773 l_n1 l_n2 l_n3) from ⟨p_s, p_t, p_i, p_tp, hr49771.1, p_n1, p_n2, p_n3⟩) hN) hKK hP (ci := 9) rfl rfl (cwV 0 hts gX11_grow_X9_lineCount rfl rfl rfl (by decide +kernel) ⟨Nat.le_of_ble_eq_true rfl, Nat.le_of_ble_eq_true rfl⟩) rfl hl.1 rfl (Nat.le_of_ble_eq_true rfl) dX11_grow_57 ⟨Nat.le_of_ble_eq_true rfl, Nat.le_of_ble_eq_true rfl⟩ (fun r49774 hr49774 => ?_)
        subst hAe
        exact W.iret (v := r49774) hx hb hr (fun t ht hW => ⟨⟨_, (r49772, l_o1, l_o2, l_o3, r49773, l_n1, l_n2, l_n3, u), rfl, ⟨hr49774.1, hr49771.1, p_n1, p_n2, p_n3, (show r49772.toInt = l_o0.toInt ∧ r49773.toInt = l_n0.toInt from by have y90 : r49762.toInt = (0 : Int32).toInt := congrArg Int32.toInt c49763; have y91 : ¬ r49767.toInt = (0 : Int32).toInt := fun z => c49768 (Int32.toInt_inj.mp z); have y92 : x0.toInt = (0 : Int32).toInt := congrArg Int32.toInt k49770; have y93 : Rg 0 3 x0 := g49764; have y94 : Rg 0 0 r49762 := g49766; have y95 : Rg 0 40 l_n0 := p_n0; have y96 : Rg 0 3 x0 := g49764; have y97 : Rg 0 0 r49762 := g49766; have y98 : Rg (-2147483648) 2147483647 r49774 := hr49774.1; have y99 : Rg 0 12 l_s := p_s; have y910 : Rg 0 12 l_t := p_t; have y911 : Rg 0 12 l_i := p_i; have y912 : Rg 0 120 l_tp := p_tp; have y913 : Rg 0 40 r49773 := hr49771.1; have y914 : Rg 0 40 l_n1 := p_n1; have y915 : Rg 0 40 l_n2 := p_n2; have y916 : Rg 0 40 l_n3 := p_n3; have y917 : Rg (-2147483648) 2147483647 r49774 := hr49774.1; have y9c18 : (0 : Int32).toInt = 0 := (by decide); have y9c19 : (1 : Int32).toInt = 1 := (by decide); omega), (show l_o1.toInt = l_o1.toInt ∧ l_n1.toInt = l_n1.toInt from by have y90 : r49762.toInt = (0 : Int32).toInt := congrArg Int32.toInt c49763; have y91 : ¬ r49767.toInt = (0 : Int32).toInt := fun z => c49768 (Int32.toInt_inj.mp z); have y92 : x0.toInt = (0 : Int32).toInt := congrArg Int32.toInt k49770; have y93 : Rg 0 3 x0 := g49764; have y94 : Rg 0 0 r49762 := g49766; have y95 : Rg 0 40 l_n0 := p_n0; have y96 : Rg 0 3 x0 := g49764; have y97 : Rg 0 0 r49762 := g49766; have y98 : Rg (-2147483648) 2147483647 r49774 := hr49774.1; have y99 : Rg 0 12 l_s := p_s; have y910 : Rg 0 12 l_t := p_t; have y911 : Rg 0 12 l_i := p_i; have y912 : Rg 0 120 l_tp := p_tp; have y913 : Rg 0 40 r49773 := hr49771.1; have y914 : Rg 0 40 l_n1 := p_n1; have y915 : Rg 0 40 l_n2 := p_n2; have y916 : Rg 0 40 l_n3 := p_n3; have y917 : Rg (-2147483648) 2147483647 r49774 := hr49774.1; have y9c18 : (0 : Int32).toInt = 0 := (by decide); have y9c19 : (1 : Int32).toInt = 1 := (by decide); omega), (show l_o2.toInt = l_o2.toInt ∧ l_n2.toInt = l_n2.toInt from by have y90 : r49762.toInt = (0 : Int32).toInt := congrArg Int32.toInt c49763; have y91 : ¬ r49767.toInt = (0 : Int32).toInt := fun z => c49768 (Int32.toInt_inj.mp z); have y92 : x0.toInt = (0 : Int32).toInt := congrArg Int32.toInt k49770; have y93 : Rg 0 3 x0 := g49764; have y94 : Rg 0 0 r49762 := g49766; have y95 : Rg 0 40 l_n0 := p_n0; have y96 : Rg 0 3 x0 := g49764; have y97 : Rg 0 0 r49762 := g49766; have y98 : Rg (-2147483648) 2147483647 r49774 := hr49774.1; have y99 : Rg 0 12 l_s := p_s; have y910 : Rg 0 12 l_t := p_t; have y911 : Rg 0 12 l_i := p_i; have y912 : Rg 0 120 l_tp := p_tp; have y913 : Rg 0 40 r49773 := hr49771.1; have y914 : Rg 0 40 l_n1 := p_n1; have y915 : Rg 0 40 l_n2 := p_n2; have y916 : Rg 0 40 l_n3 := p_n3; have y917 : Rg (-2147483648) 2147483647 r49774 := hr49774.1; have y9c18 : (0 : Int32).toInt = 0 := (by decide); have y9c19 : (1 : Int32).toInt = 1 := (by decide); omega), (show l_o3.toInt = l_o3.toInt ∧ l_n3.toInt = l_n3.toInt from by have y90 : r49762.toInt = (0 : Int32).toInt := congrArg Int32.toInt c49763; have y91 : ¬ r49767.toInt = (0 : Int32).toInt := fun z => c49768 (Int32.toInt_inj.mp z); have y92 : x0.toInt = (0 : Int32).toInt := congrArg Int32.toInt k49770; have y93 : Rg 0 3 x0 := g49764; have y94 : Rg 0 0 r49762 := g49766; have y95 : Rg 0 40 l_n0 := p_n0; have y96 : Rg 0 3 x0 := g49764; have y97 : Rg 0 0 r49762 := g49766; have y98 : Rg (-2147483648) 2147483647 r49774 := hr49774.1; have y99 : Rg 0 12 l_s := p_s; have y910 : Rg 0 12 l_t := p_t; have y911 : Rg 0 12 l_i := p_i; have y912 : Rg 0 120 l_tp := p_tp; have y913 : Rg 0 40 r49773 := hr49771.1; have y914 : Rg 0 40 l_n1 := p_n1; have y915 : Rg 0 40 l_n2 := p_n2; have y916 : Rg 0 40 l_n3 := p_n3; have y917 : Rg (-2147483648) 2147483647 r49774 := hr49774.1; have y9c18 : (0 : Int32).toInt = 0 := (by decide); have y9c19 : (1 : Int32).toInt = 1 := (by decide); omega)⟩, by rw [ht]; exact hP, hD⟩, hS.F ht⟩) hS.2.2 dX11_grow_60
      by_cases k49775 : x0 = 1
      · refine va_aldq hx hb hK hP 25 1 rfl rfl (rg_in g49764 (by decide) (by decide)) dX11_grow_40 ?_
        refine lz_va (y := .ref (a 28)) (by rw [k49775]; rfl) ?_
        have sj : l_n1.toInt = l_s.toInt := by have z := zt49765; rw [k49775] at z; exact z
        refine lv_aload_n hx hb dX11_grow_41 rfl (lv_at hl 1 rfl) ?_
        refine va_get (D := D) (ci := 11) (v := .ref (a 25)) (C := RX11) (T := TX11) (N := 16) hx hb hts hin11 hown hK hP 0 rfl rfl 12 (by decide) (hts (.fieldLink RX11 75 "MissedPoints" "sheets" "[LMissedPoints$Sheet;") (by decide +kernel)) (fun _ h9 => h9) rfl dX11_grow_42 ?_
        refine lv_iload_n hx hb dX11_grow_45 rfl (lv_at hl 2 rfl) ?_
        refine va_aldq hx hb hK hP 25 1 rfl rfl (rg_in g49764 (by decide) (by decide)) dX11_grow_46 ?_
        refine lz_va (y := .ref (a 28)) (by rw [k49775]; rfl) ?_
        have sj : l_n1.toInt = l_s.toInt := by have z := zt49765; rw [k49775] at z; exact z
        refine va_getN (D := D) (ci := 6) (v := .int l_o1) (C := RX6) (T := TX6) (N := 3) hx hb hts hin6 hown hK hP 28 rfl rfl 1 (by decide) (va_Nw.use rfl hKK.2.2.2.2.2.2.2.1) (fun _ h9 => h9) rfl dX11_grow_47 ?_
        refine wk_qv (S := Int32 × Int32 × SU) (fun q => wX cI cS a na nc N (mkL tw l_s l_t l_i l_kp l_iz l_z l_tp l_o0 q.1 l_o2 l_o3 l_n0 q.2.1 l_n2 l_n3) q.2.2) (l_o1, l_n1, u) (As := [.ref (a 28), .int l_o1]) (rest := []) ⟨hx, hb, hml, hown, hts⟩ (k_X9_writeTo_1 l D cI cS _ a na nc N tw l_s l_t l_i l_kp l_iz l_z l_tp l_o0 l_o1 l_o2 l_o3 l_n0 l_n1 l_n2 l_n3 u (show TyX (mkL tw l_s l_t l_i l_kp l_iz l_z l_tp l_o0 l_o1 l_o2 l_o3 l_n0 l_n1 l_n2 l_n3) from ⟨p_s, p_t, p_i, p_tp, p_n0, p_n1, p_n2, p_n3⟩) hN l_o1) hKK hP hD hS hA 34 (ci := 9) rfl rfl (cwV 2 hts gX11_grow_X9_writeTo rfl rfl rfl (by decide +kernel) ⟨Nat.le_of_ble_eq_true rfl, Nat.le_of_ble_eq_true rfl⟩) rfl hl.1 rfl (Nat.le_of_ble_eq_true rfl) dX11_grow_50 ⟨Nat.le_of_ble_eq_true rfl, Nat.le_of_ble_eq_true rfl⟩ (fun q9 H locs hr49776 hP hD hS => ?_)
        obtain ⟨r49777, r49778, u⟩ := q9
        have hr49776 : Rg 0 40 r49778 ∧ (r49777.toInt = l_o1.toInt ∧ r49778.toInt = l_s.toInt) := hr49776
        have hP : va_P D cls (wX cI cS a na nc N (mkL tw l_s l_t l_i l_kp l_iz l_z l_tp l_o0 r49777 l_o2 l_o3 l_n0 r49778 l_n2 l_n3) u) H := hP
        have hD : va_D A (wX cI cS a na nc N (mkL tw l_s l_t l_i l_kp l_iz l_z l_tp l_o0 r49777 l_o2 l_o3 l_n0 r49778 l_n2 l_n3) u) := hD
        have kr49776_0 := hr49776.2
        refine lv_aload_n hx hb dX11_grow_53 rfl (lv_at hl 1 rfl) ?_
        refine va_get (D := D) (ci := 11) (v := .ref (a 34)) (C := RX11) (T := TX11) (N := 16) hx hb hts hin11 hown hK hP 0 rfl rfl 13 (by decide) (hts (.fieldLink RX11 82 "MissedPoints" "told" "LMissedPoints$Told;") (by decide +kernel)) (fun _ h9 => h9) rfl dX11_grow_54 ?_
        refine wk_sv 34 (As := []) (rest := []) ⟨hx, hb, hml, hown, hts⟩ (k_X9_lineCount l D cI cS a na nc N (mkL tw l_s l_t l_i l_kp l_iz l_z l_tp l_o0 r49777 l_o2 l_o3 l_n0 r49778 l_n2 l_n3) u (show TyX (mkL tw l_s l_t l_i l_kp l_iz l_z l_tp l_o0 r49777 l_o2 l_o3 l_n0 r49778 l_n2 l_n3) from ⟨p_s, p_t, p_i, p_tp, p_n0, hr49776.1, p_n2, p_n3⟩) hN) hKK hP (ci := 9) rfl rfl (cwV 0 hts gX11_grow_X9_lineCount rfl rfl rfl (by decide +kernel) ⟨Nat.le_of_ble_eq_true rfl, Nat.le_of_ble_eq_true rfl⟩) rfl hl.1 rfl (Nat.le_of_ble_eq_true rfl) dX11_grow_57 ⟨Nat.le_of_ble_eq_true rfl, Nat.le_of_ble_eq_true rfl⟩ (fun r49779 hr49779 => ?_)
        subst hAe
        exact W.iret (v := r49779) hx hb hr (fun t ht hW => ⟨⟨_, (l_o0, r49777, l_o2, l_o3, l_n0, r49778, l_n2, l_n3, u), rfl, ⟨hr49779.1, p_n0, hr49776.1, p_n2, p_n3, (show l_o0.toInt = l_o0.toInt ∧ l_n0.toInt = l_n0.toInt from by have y90 : r49762.toInt = (0 : Int32).toInt := congrArg Int32.toInt c49763; have y91 : ¬ r49767.toInt = (0 : Int32).toInt := fun z => c49768 (Int32.toInt_inj.mp z); have y92 : ¬ x0.toInt = (0 : Int32).toInt := fun z => k49770 (Int32.toInt_inj.mp z); have y93 : x0.toInt = (1 : Int32).toInt := congrArg Int32.toInt k49775; have y94 : Rg 0 3 x0 := g49764; have y95 : Rg 0 0 r49762 := g49766; have y96 : Rg 0 40 l_n1 := p_n1; have y97 : Rg 0 3 x0 := g49764; have y98 : Rg 0 0 r49762 := g49766; have y99 : Rg (-2147483648) 2147483647 r49779 := hr49779.1; have y910 : Rg 0 12 l_s := p_s; have y911 : Rg 0 12 l_t := p_t; have y912 : Rg 0 12 l_i := p_i; have y913 : Rg 0 120 l_tp := p_tp; have y914 : Rg 0 40 l_n0 := p_n0; have y915 : Rg 0 40 r49778 := hr49776.1; have y916 : Rg 0 40 l_n2 := p_n2; have y917 : Rg 0 40 l_n3 := p_n3; have y918 : Rg (-2147483648) 2147483647 r49779 := hr49779.1; have y9c19 : (0 : Int32).toInt = 0 := (by decide); have y9c20 : (1 : Int32).toInt = 1 := (by decide); omega), (show r49777.toInt = l_o1.toInt ∧ r49778.toInt = l_n1.toInt from by have y90 : r49762.toInt = (0 : Int32).toInt := congrArg Int32.toInt c49763; have y91 : ¬ r49767.toInt = (0 : Int32).toInt := fun z => c49768 (Int32.toInt_inj.mp z); have y92 : ¬ x0.toInt = (0 : Int32).toInt := fun z => k49770 (Int32.toInt_inj.mp z); have y93 : x0.toInt = (1 : Int32).toInt := congrArg Int32.toInt k49775; have y94 : Rg 0 3 x0 := g49764; have y95 : Rg 0 0 r49762 := g49766; have y96 : Rg 0 40 l_n1 := p_n1; have y97 : Rg 0 3 x0 := g49764; have y98 : Rg 0 0 r49762 := g49766; have y99 : Rg (-2147483648) 2147483647 r49779 := hr49779.1; have y910 : Rg 0 12 l_s := p_s; have y911 : Rg 0 12 l_t := p_t; have y912 : Rg 0 12 l_i := p_i; have y913 : Rg 0 120 l_tp := p_tp; have y914 : Rg 0 40 l_n0 := p_n0; have y915 : Rg 0 40 r49778 := hr49776.1; have y916 : Rg 0 40 l_n2 := p_n2; have y917 : Rg 0 40 l_n3 := p_n3; have y918 : Rg (-2147483648) 2147483647 r49779 := hr49779.1; have y9c19 : (0 : Int32).toInt = 0 := (by decide); have y9c20 : (1 : Int32).toInt = 1 := (by decide); omega), (show l_o2.toInt = l_o2.toInt ∧ l_n2.toInt = l_n2.toInt from by have y90 : r49762.toInt = (0 : Int32).toInt := congrArg Int32.toInt c49763; have y91 : ¬ r49767.toInt = (0 : Int32).toInt := fun z => c49768 (Int32.toInt_inj.mp z); have y92 : ¬ x0.toInt = (0 : Int32).toInt := fun z => k49770 (Int32.toInt_inj.mp z); have y93 : x0.toInt = (1 : Int32).toInt := congrArg Int32.toInt k49775; have y94 : Rg 0 3 x0 := g49764; have y95 : Rg 0 0 r49762 := g49766; have y96 : Rg 0 40 l_n1 := p_n1; have y97 : Rg 0 3 x0 := g49764; have y98 : Rg 0 0 r49762 := g49766; have y99 : Rg (-2147483648) 2147483647 r49779 := hr49779.1; have y910 : Rg 0 12 l_s := p_s; have y911 : Rg 0 12 l_t := p_t; have y912 : Rg 0 12 l_i := p_i; have y913 : Rg 0 120 l_tp := p_tp; have y914 : Rg 0 40 l_n0 := p_n0; have y915 : Rg 0 40 r49778 := hr49776.1; have y916 : Rg 0 40 l_n2 := p_n2; have y917 : Rg 0 40 l_n3 := p_n3; have y918 : Rg (-2147483648) 2147483647 r49779 := hr49779.1; have y9c19 : (0 : Int32).toInt = 0 := (by decide); have y9c20 : (1 : Int32).toInt = 1 := (by decide); omega), (show l_o3.toInt = l_o3.toInt ∧ l_n3.toInt = l_n3.toInt from by have y90 : r49762.toInt = (0 : Int32).toInt := congrArg Int32.toInt c49763; have y91 : ¬ r49767.toInt = (0 : Int32).toInt := fun z => c49768 (Int32.toInt_inj.mp z); have y92 : ¬ x0.toInt = (0 : Int32).toInt := fun z => k49770 (Int32.toInt_inj.mp z); have y93 : x0.toInt = (1 : Int32).toInt := congrArg Int32.toInt k49775; have y94 : Rg 0 3 x0 := g49764; have y95 : Rg 0 0 r49762 := g49766; have y96 : Rg 0 40 l_n1 := p_n1; have y97 : Rg 0 3 x0 := g49764; have y98 : Rg 0 0 r49762 := g49766; have y99 : Rg (-2147483648) 2147483647 r49779 := hr49779.1; have y910 : Rg 0 12 l_s := p_s; have y911 : Rg 0 12 l_t := p_t; have y912 : Rg 0 12 l_i := p_i; have y913 : Rg 0 120 l_tp := p_tp; have y914 : Rg 0 40 l_n0 := p_n0; have y915 : Rg 0 40 r49778 := hr49776.1; have y916 : Rg 0 40 l_n2 := p_n2; have y917 : Rg 0 40 l_n3 := p_n3; have y918 : Rg (-2147483648) 2147483647 r49779 := hr49779.1; have y9c19 : (0 : Int32).toInt = 0 := (by decide); have y9c20 : (1 : Int32).toInt = 1 := (by decide); omega)⟩, by rw [ht]; exact hP, hD⟩, hS.F ht⟩) hS.2.2 dX11_grow_60
      by_cases k49780 : x0 = 2
      · refine va_aldq hx hb hK hP 25 1 rfl rfl (rg_in g49764 (by decide) (by decide)) dX11_grow_40 ?_
        refine lz_va (y := .ref (a 30)) (by rw [k49780]; rfl) ?_
        have sj : l_n2.toInt = l_s.toInt := by have z := zt49765; rw [k49780] at z; exact z
        refine lv_aload_n hx hb dX11_grow_41 rfl (lv_at hl 1 rfl) ?_
        refine va_get (D := D) (ci := 11) (v := .ref (a 25)) (C := RX11) (T := TX11) (N := 16) hx hb hts hin11 hown hK hP 0 rfl rfl 12 (by decide) (hts (.fieldLink RX11 75 "MissedPoints" "sheets" "[LMissedPoints$Sheet;") (by decide +kernel)) (fun _ h9 => h9) rfl dX11_grow_42 ?_
        refine lv_iload_n hx hb dX11_grow_45 rfl (lv_at hl 2 rfl) ?_
        refine va_aldq hx hb hK hP 25 1 rfl rfl (rg_in g49764 (by decide) (by decide)) dX11_grow_46 ?_
        refine lz_va (y := .ref (a 30)) (by rw [k49780]; rfl) ?_
        have sj : l_n2.toInt = l_s.toInt := by have z := zt49765; rw [k49780] at z; exact z
        refine va_getN (D := D) (ci := 6) (v := .int l_o2) (C := RX6) (T := TX6) (N := 3) hx hb hts hin6 hown hK hP 30 rfl rfl 1 (by decide) (va_Nw.use rfl hKK.2.2.2.2.2.2.2.1) (fun _ h9 => h9) rfl dX11_grow_47 ?_
        refine wk_qv (S := Int32 × Int32 × SU) (fun q => wX cI cS a na nc N (mkL tw l_s l_t l_i l_kp l_iz l_z l_tp l_o0 l_o1 q.1 l_o3 l_n0 l_n1 q.2.1 l_n3) q.2.2) (l_o2, l_n2, u) (As := [.ref (a 30), .int l_o2]) (rest := []) ⟨hx, hb, hml, hown, hts⟩ (k_X9_writeTo_2 l D cI cS _ a na nc N tw l_s l_t l_i l_kp l_iz l_z l_tp l_o0 l_o1 l_o2 l_o3 l_n0 l_n1 l_n2 l_n3 u (show TyX (mkL tw l_s l_t l_i l_kp l_iz l_z l_tp l_o0 l_o1 l_o2 l_o3 l_n0 l_n1 l_n2 l_n3) from ⟨p_s, p_t, p_i, p_tp, p_n0, p_n1, p_n2, p_n3⟩) hN l_o2) hKK hP hD hS hA 34 (ci := 9) rfl rfl (cwV 2 hts gX11_grow_X9_writeTo rfl rfl rfl (by decide +kernel) ⟨Nat.le_of_ble_eq_true rfl, Nat.le_of_ble_eq_true rfl⟩) rfl hl.1 rfl (Nat.le_of_ble_eq_true rfl) dX11_grow_50 ⟨Nat.le_of_ble_eq_true rfl, Nat.le_of_ble_eq_true rfl⟩ (fun q9 H locs hr49781 hP hD hS => ?_)
        obtain ⟨r49782, r49783, u⟩ := q9
        have hr49781 : Rg 0 40 r49783 ∧ (r49782.toInt = l_o2.toInt ∧ r49783.toInt = l_s.toInt) := hr49781
        have hP : va_P D cls (wX cI cS a na nc N (mkL tw l_s l_t l_i l_kp l_iz l_z l_tp l_o0 l_o1 r49782 l_o3 l_n0 l_n1 r49783 l_n3) u) H := hP
        have hD : va_D A (wX cI cS a na nc N (mkL tw l_s l_t l_i l_kp l_iz l_z l_tp l_o0 l_o1 r49782 l_o3 l_n0 l_n1 r49783 l_n3) u) := hD
        have kr49781_0 := hr49781.2
        refine lv_aload_n hx hb dX11_grow_53 rfl (lv_at hl 1 rfl) ?_
        refine va_get (D := D) (ci := 11) (v := .ref (a 34)) (C := RX11) (T := TX11) (N := 16) hx hb hts hin11 hown hK hP 0 rfl rfl 13 (by decide) (hts (.fieldLink RX11 82 "MissedPoints" "told" "LMissedPoints$Told;") (by decide +kernel)) (fun _ h9 => h9) rfl dX11_grow_54 ?_
        refine wk_sv 34 (As := []) (rest := []) ⟨hx, hb, hml, hown, hts⟩ (k_X9_lineCount l D cI cS a na nc N (mkL tw l_s l_t l_i l_kp l_iz l_z l_tp l_o0 l_o1 r49782 l_o3 l_n0 l_n1 r49783 l_n3) u (show TyX (mkL tw l_s l_t l_i l_kp l_iz l_z l_tp l_o0 l_o1 r49782 l_o3 l_n0 l_n1 r49783 l_n3) from ⟨p_s, p_t, p_i, p_tp, p_n0, p_n1, hr49781.1, p_n3⟩) hN) hKK hP (ci := 9) rfl rfl (cwV 0 hts gX11_grow_X9_lineCount rfl rfl rfl (by decide +kernel) ⟨Nat.le_of_ble_eq_true rfl, Nat.le_of_ble_eq_true rfl⟩) rfl hl.1 rfl (Nat.le_of_ble_eq_true rfl) dX11_grow_57 ⟨Nat.le_of_ble_eq_true rfl, Nat.le_of_ble_eq_true rfl⟩ (fun r49784 hr49784 => ?_)
        subst hAe
        exact W.iret (v := r49784) hx hb hr (fun t ht hW => ⟨⟨_, (l_o0, l_o1, r49782, l_o3, l_n0, l_n1, r49783, l_n3, u), rfl, ⟨hr49784.1, p_n0, p_n1, hr49781.1, p_n3, (show l_o0.toInt = l_o0.toInt ∧ l_n0.toInt = l_n0.toInt from by have y90 : r49762.toInt = (0 : Int32).toInt := congrArg Int32.toInt c49763; have y91 : ¬ r49767.toInt = (0 : Int32).toInt := fun z => c49768 (Int32.toInt_inj.mp z); have y92 : ¬ x0.toInt = (0 : Int32).toInt := fun z => k49770 (Int32.toInt_inj.mp z); have y93 : ¬ x0.toInt = (1 : Int32).toInt := fun z => k49775 (Int32.toInt_inj.mp z); have y94 : x0.toInt = (2 : Int32).toInt := congrArg Int32.toInt k49780; have y95 : Rg 0 3 x0 := g49764; have y96 : Rg 0 0 r49762 := g49766; have y97 : Rg 0 40 l_n2 := p_n2; have y98 : Rg 0 3 x0 := g49764; have y99 : Rg 0 0 r49762 := g49766; have y910 : Rg (-2147483648) 2147483647 r49784 := hr49784.1; have y911 : Rg 0 12 l_s := p_s; have y912 : Rg 0 12 l_t := p_t; have y913 : Rg 0 12 l_i := p_i; have y914 : Rg 0 120 l_tp := p_tp; have y915 : Rg 0 40 l_n0 := p_n0; have y916 : Rg 0 40 l_n1 := p_n1; have y917 : Rg 0 40 r49783 := hr49781.1; have y918 : Rg 0 40 l_n3 := p_n3; have y919 : Rg (-2147483648) 2147483647 r49784 := hr49784.1; have y9c20 : (0 : Int32).toInt = 0 := (by decide); have y9c21 : (1 : Int32).toInt = 1 := (by decide); have y9c22 : (2 : Int32).toInt = 2 := (by decide); omega), (show l_o1.toInt = l_o1.toInt ∧ l_n1.toInt = l_n1.toInt from by have y90 : r49762.toInt = (0 : Int32).toInt := congrArg Int32.toInt c49763; have y91 : ¬ r49767.toInt = (0 : Int32).toInt := fun z => c49768 (Int32.toInt_inj.mp z); have y92 : ¬ x0.toInt = (0 : Int32).toInt := fun z => k49770 (Int32.toInt_inj.mp z); have y93 : ¬ x0.toInt = (1 : Int32).toInt := fun z => k49775 (Int32.toInt_inj.mp z); have y94 : x0.toInt = (2 : Int32).toInt := congrArg Int32.toInt k49780; have y95 : Rg 0 3 x0 := g49764; have y96 : Rg 0 0 r49762 := g49766; have y97 : Rg 0 40 l_n2 := p_n2; have y98 : Rg 0 3 x0 := g49764; have y99 : Rg 0 0 r49762 := g49766; have y910 : Rg (-2147483648) 2147483647 r49784 := hr49784.1; have y911 : Rg 0 12 l_s := p_s; have y912 : Rg 0 12 l_t := p_t; have y913 : Rg 0 12 l_i := p_i; have y914 : Rg 0 120 l_tp := p_tp; have y915 : Rg 0 40 l_n0 := p_n0; have y916 : Rg 0 40 l_n1 := p_n1; have y917 : Rg 0 40 r49783 := hr49781.1; have y918 : Rg 0 40 l_n3 := p_n3; have y919 : Rg (-2147483648) 2147483647 r49784 := hr49784.1; have y9c20 : (0 : Int32).toInt = 0 := (by decide); have y9c21 : (1 : Int32).toInt = 1 := (by decide); have y9c22 : (2 : Int32).toInt = 2 := (by decide); omega), (show r49782.toInt = l_o2.toInt ∧ r49783.toInt = l_n2.toInt from by have y90 : r49762.toInt = (0 : Int32).toInt := congrArg Int32.toInt c49763; have y91 : ¬ r49767.toInt = (0 : Int32).toInt := fun z => c49768 (Int32.toInt_inj.mp z); have y92 : ¬ x0.toInt = (0 : Int32).toInt := fun z => k49770 (Int32.toInt_inj.mp z); have y93 : ¬ x0.toInt = (1 : Int32).toInt := fun z => k49775 (Int32.toInt_inj.mp z); have y94 : x0.toInt = (2 : Int32).toInt := congrArg Int32.toInt k49780; have y95 : Rg 0 3 x0 := g49764; have y96 : Rg 0 0 r49762 := g49766; have y97 : Rg 0 40 l_n2 := p_n2; have y98 : Rg 0 3 x0 := g49764; have y99 : Rg 0 0 r49762 := g49766; have y910 : Rg (-2147483648) 2147483647 r49784 := hr49784.1; have y911 : Rg 0 12 l_s := p_s; have y912 : Rg 0 12 l_t := p_t; have y913 : Rg 0 12 l_i := p_i; have y914 : Rg 0 120 l_tp := p_tp; have y915 : Rg 0 40 l_n0 := p_n0; have y916 : Rg 0 40 l_n1 := p_n1; have y917 : Rg 0 40 r49783 := hr49781.1; have y918 : Rg 0 40 l_n3 := p_n3; have y919 : Rg (-2147483648) 2147483647 r49784 := hr49784.1; have y9c20 : (0 : Int32).toInt = 0 := (by decide); have y9c21 : (1 : Int32).toInt = 1 := (by decide); have y9c22 : (2 : Int32).toInt = 2 := (by decide); omega), (show l_o3.toInt = l_o3.toInt ∧ l_n3.toInt = l_n3.toInt from by have y90 : r49762.toInt = (0 : Int32).toInt := congrArg Int32.toInt c49763; have y91 : ¬ r49767.toInt = (0 : Int32).toInt := fun z => c49768 (Int32.toInt_inj.mp z); have y92 : ¬ x0.toInt = (0 : Int32).toInt := fun z => k49770 (Int32.toInt_inj.mp z); have y93 : ¬ x0.toInt = (1 : Int32).toInt := fun z => k49775 (Int32.toInt_inj.mp z); have y94 : x0.toInt = (2 : Int32).toInt := congrArg Int32.toInt k49780; have y95 : Rg 0 3 x0 := g49764; have y96 : Rg 0 0 r49762 := g49766; have y97 : Rg 0 40 l_n2 := p_n2; have y98 : Rg 0 3 x0 := g49764; have y99 : Rg 0 0 r49762 := g49766; have y910 : Rg (-2147483648) 2147483647 r49784 := hr49784.1; have y911 : Rg 0 12 l_s := p_s; have y912 : Rg 0 12 l_t := p_t; have y913 : Rg 0 12 l_i := p_i; have y914 : Rg 0 120 l_tp := p_tp; have y915 : Rg 0 40 l_n0 := p_n0; have y916 : Rg 0 40 l_n1 := p_n1; have y917 : Rg 0 40 r49783 := hr49781.1; have y918 : Rg 0 40 l_n3 := p_n3; have y919 : Rg (-2147483648) 2147483647 r49784 := hr49784.1; have y9c20 : (0 : Int32).toInt = 0 := (by decide); have y9c21 : (1 : Int32).toInt = 1 := (by decide); have y9c22 : (2 : Int32).toInt = 2 := (by decide); omega)⟩, by rw [ht]; exact hP, hD⟩, hS.F ht⟩) hS.2.2 dX11_grow_60
      by_cases k49785 : x0 = 3
      · refine va_aldq hx hb hK hP 25 1 rfl rfl (rg_in g49764 (by decide) (by decide)) dX11_grow_40 ?_
        refine lz_va (y := .ref (a 32)) (by rw [k49785]; rfl) ?_
        have sj : l_n3.toInt = l_s.toInt := by have z := zt49765; rw [k49785] at z; exact z
        refine lv_aload_n hx hb dX11_grow_41 rfl (lv_at hl 1 rfl) ?_
        refine va_get (D := D) (ci := 11) (v := .ref (a 25)) (C := RX11) (T := TX11) (N := 16) hx hb hts hin11 hown hK hP 0 rfl rfl 12 (by decide) (hts (.fieldLink RX11 75 "MissedPoints" "sheets" "[LMissedPoints$Sheet;") (by decide +kernel)) (fun _ h9 => h9) rfl dX11_grow_42 ?_
        refine lv_iload_n hx hb dX11_grow_45 rfl (lv_at hl 2 rfl) ?_
        refine va_aldq hx hb hK hP 25 1 rfl rfl (rg_in g49764 (by decide) (by decide)) dX11_grow_46 ?_
        refine lz_va (y := .ref (a 32)) (by rw [k49785]; rfl) ?_
        have sj : l_n3.toInt = l_s.toInt := by have z := zt49765; rw [k49785] at z; exact z
        refine va_getN (D := D) (ci := 6) (v := .int l_o3) (C := RX6) (T := TX6) (N := 3) hx hb hts hin6 hown hK hP 32 rfl rfl 1 (by decide) (va_Nw.use rfl hKK.2.2.2.2.2.2.2.1) (fun _ h9 => h9) rfl dX11_grow_47 ?_
        refine wk_qv (S := Int32 × Int32 × SU) (fun q => wX cI cS a na nc N (mkL tw l_s l_t l_i l_kp l_iz l_z l_tp l_o0 l_o1 l_o2 q.1 l_n0 l_n1 l_n2 q.2.1) q.2.2) (l_o3, l_n3, u) (As := [.ref (a 32), .int l_o3]) (rest := []) ⟨hx, hb, hml, hown, hts⟩ (k_X9_writeTo_3 l D cI cS _ a na nc N tw l_s l_t l_i l_kp l_iz l_z l_tp l_o0 l_o1 l_o2 l_o3 l_n0 l_n1 l_n2 l_n3 u (show TyX (mkL tw l_s l_t l_i l_kp l_iz l_z l_tp l_o0 l_o1 l_o2 l_o3 l_n0 l_n1 l_n2 l_n3) from ⟨p_s, p_t, p_i, p_tp, p_n0, p_n1, p_n2, p_n3⟩) hN l_o3) hKK hP hD hS hA 34 (ci := 9) rfl rfl (cwV 2 hts gX11_grow_X9_writeTo rfl rfl rfl (by decide +kernel) ⟨Nat.le_of_ble_eq_true rfl, Nat.le_of_ble_eq_true rfl⟩) rfl hl.1 rfl (Nat.le_of_ble_eq_true rfl) dX11_grow_50 ⟨Nat.le_of_ble_eq_true rfl, Nat.le_of_ble_eq_true rfl⟩ (fun q9 H locs hr49786 hP hD hS => ?_)
        obtain ⟨r49787, r49788, u⟩ := q9
        have hr49786 : Rg 0 40 r49788 ∧ (r49787.toInt = l_o3.toInt ∧ r49788.toInt = l_s.toInt) := hr49786
        have hP : va_P D cls (wX cI cS a na nc N (mkL tw l_s l_t l_i l_kp l_iz l_z l_tp l_o0 l_o1 l_o2 r49787 l_n0 l_n1 l_n2 r49788) u) H := hP
        have hD : va_D A (wX cI cS a na nc N (mkL tw l_s l_t l_i l_kp l_iz l_z l_tp l_o0 l_o1 l_o2 r49787 l_n0 l_n1 l_n2 r49788) u) := hD
        have kr49786_0 := hr49786.2
        refine lv_aload_n hx hb dX11_grow_53 rfl (lv_at hl 1 rfl) ?_
        refine va_get (D := D) (ci := 11) (v := .ref (a 34)) (C := RX11) (T := TX11) (N := 16) hx hb hts hin11 hown hK hP 0 rfl rfl 13 (by decide) (hts (.fieldLink RX11 82 "MissedPoints" "told" "LMissedPoints$Told;") (by decide +kernel)) (fun _ h9 => h9) rfl dX11_grow_54 ?_
        refine wk_sv 34 (As := []) (rest := []) ⟨hx, hb, hml, hown, hts⟩ (k_X9_lineCount l D cI cS a na nc N (mkL tw l_s l_t l_i l_kp l_iz l_z l_tp l_o0 l_o1 l_o2 r49787 l_n0 l_n1 l_n2 r49788) u (show TyX (mkL tw l_s l_t l_i l_kp l_iz l_z l_tp l_o0 l_o1 l_o2 r49787 l_n0 l_n1 l_n2 r49788) from ⟨p_s, p_t, p_i, p_tp, p_n0, p_n1, p_n2, hr49786.1⟩) hN) hKK hP (ci := 9) rfl rfl (cwV 0 hts gX11_grow_X9_lineCount rfl rfl rfl (by decide +kernel) ⟨Nat.le_of_ble_eq_true rfl, Nat.le_of_ble_eq_true rfl⟩) rfl hl.1 rfl (Nat.le_of_ble_eq_true rfl) dX11_grow_57 ⟨Nat.le_of_ble_eq_true rfl, Nat.le_of_ble_eq_true rfl⟩ (fun r49789 hr49789 => ?_)
        subst hAe
        exact W.iret (v := r49789) hx hb hr (fun t ht hW => ⟨⟨_, (l_o0, l_o1, l_o2, r49787, l_n0, l_n1, l_n2, r49788, u), rfl, ⟨hr49789.1, p_n0, p_n1, p_n2, hr49786.1, (show l_o0.toInt = l_o0.toInt ∧ l_n0.toInt = l_n0.toInt from by have y90 : r49762.toInt = (0 : Int32).toInt := congrArg Int32.toInt c49763; have y91 : ¬ r49767.toInt = (0 : Int32).toInt := fun z => c49768 (Int32.toInt_inj.mp z); have y92 : ¬ x0.toInt = (0 : Int32).toInt := fun z => k49770 (Int32.toInt_inj.mp z); have y93 : ¬ x0.toInt = (1 : Int32).toInt := fun z => k49775 (Int32.toInt_inj.mp z); have y94 : ¬ x0.toInt = (2 : Int32).toInt := fun z => k49780 (Int32.toInt_inj.mp z); have y95 : x0.toInt = (3 : Int32).toInt := congrArg Int32.toInt k49785; have y96 : Rg 0 3 x0 := g49764; have y97 : Rg 0 0 r49762 := g49766; have y98 : Rg 0 40 l_n3 := p_n3; have y99 : Rg 0 3 x0 := g49764; have y910 : Rg 0 0 r49762 := g49766; have y911 : Rg (-2147483648) 2147483647 r49789 := hr49789.1; have y912 : Rg 0 12 l_s := p_s; have y913 : Rg 0 12 l_t := p_t; have y914 : Rg 0 12 l_i := p_i; have y915 : Rg 0 120 l_tp := p_tp; have y916 : Rg 0 40 l_n0 := p_n0; have y917 : Rg 0 40 l_n1 := p_n1; have y918 : Rg 0 40 l_n2 := p_n2; have y919 : Rg 0 40 r49788 := hr49786.1; have y920 : Rg (-2147483648) 2147483647 r49789 := hr49789.1; have y9c21 : (0 : Int32).toInt = 0 := (by decide); have y9c22 : (1 : Int32).toInt = 1 := (by decide); have y9c23 : (2 : Int32).toInt = 2 := (by decide); have y9c24 : (3 : Int32).toInt = 3 := (by decide); omega), (show l_o1.toInt = l_o1.toInt ∧ l_n1.toInt = l_n1.toInt from by have y90 : r49762.toInt = (0 : Int32).toInt := congrArg Int32.toInt c49763; have y91 : ¬ r49767.toInt = (0 : Int32).toInt := fun z => c49768 (Int32.toInt_inj.mp z); have y92 : ¬ x0.toInt = (0 : Int32).toInt := fun z => k49770 (Int32.toInt_inj.mp z); have y93 : ¬ x0.toInt = (1 : Int32).toInt := fun z => k49775 (Int32.toInt_inj.mp z); have y94 : ¬ x0.toInt = (2 : Int32).toInt := fun z => k49780 (Int32.toInt_inj.mp z); have y95 : x0.toInt = (3 : Int32).toInt := congrArg Int32.toInt k49785; have y96 : Rg 0 3 x0 := g49764; have y97 : Rg 0 0 r49762 := g49766; have y98 : Rg 0 40 l_n3 := p_n3; have y99 : Rg 0 3 x0 := g49764; have y910 : Rg 0 0 r49762 := g49766; have y911 : Rg (-2147483648) 2147483647 r49789 := hr49789.1; have y912 : Rg 0 12 l_s := p_s; have y913 : Rg 0 12 l_t := p_t; have y914 : Rg 0 12 l_i := p_i; have y915 : Rg 0 120 l_tp := p_tp; have y916 : Rg 0 40 l_n0 := p_n0; have y917 : Rg 0 40 l_n1 := p_n1; have y918 : Rg 0 40 l_n2 := p_n2; have y919 : Rg 0 40 r49788 := hr49786.1; have y920 : Rg (-2147483648) 2147483647 r49789 := hr49789.1; have y9c21 : (0 : Int32).toInt = 0 := (by decide); have y9c22 : (1 : Int32).toInt = 1 := (by decide); have y9c23 : (2 : Int32).toInt = 2 := (by decide); have y9c24 : (3 : Int32).toInt = 3 := (by decide); omega), (show l_o2.toInt = l_o2.toInt ∧ l_n2.toInt = l_n2.toInt from by have y90 : r49762.toInt = (0 : Int32).toInt := congrArg Int32.toInt c49763; have y91 : ¬ r49767.toInt = (0 : Int32).toInt := fun z => c49768 (Int32.toInt_inj.mp z); have y92 : ¬ x0.toInt = (0 : Int32).toInt := fun z => k49770 (Int32.toInt_inj.mp z); have y93 : ¬ x0.toInt = (1 : Int32).toInt := fun z => k49775 (Int32.toInt_inj.mp z); have y94 : ¬ x0.toInt = (2 : Int32).toInt := fun z => k49780 (Int32.toInt_inj.mp z); have y95 : x0.toInt = (3 : Int32).toInt := congrArg Int32.toInt k49785; have y96 : Rg 0 3 x0 := g49764; have y97 : Rg 0 0 r49762 := g49766; have y98 : Rg 0 40 l_n3 := p_n3; have y99 : Rg 0 3 x0 := g49764; have y910 : Rg 0 0 r49762 := g49766; have y911 : Rg (-2147483648) 2147483647 r49789 := hr49789.1; have y912 : Rg 0 12 l_s := p_s; have y913 : Rg 0 12 l_t := p_t; have y914 : Rg 0 12 l_i := p_i; have y915 : Rg 0 120 l_tp := p_tp; have y916 : Rg 0 40 l_n0 := p_n0; have y917 : Rg 0 40 l_n1 := p_n1; have y918 : Rg 0 40 l_n2 := p_n2; have y919 : Rg 0 40 r49788 := hr49786.1; have y920 : Rg (-2147483648) 2147483647 r49789 := hr49789.1; have y9c21 : (0 : Int32).toInt = 0 := (by decide); have y9c22 : (1 : Int32).toInt = 1 := (by decide); have y9c23 : (2 : Int32).toInt = 2 := (by decide); have y9c24 : (3 : Int32).toInt = 3 := (by decide); omega), (show r49787.toInt = l_o3.toInt ∧ r49788.toInt = l_n3.toInt from by have y90 : r49762.toInt = (0 : Int32).toInt := congrArg Int32.toInt c49763; have y91 : ¬ r49767.toInt = (0 : Int32).toInt := fun z => c49768 (Int32.toInt_inj.mp z); have y92 : ¬ x0.toInt = (0 : Int32).toInt := fun z => k49770 (Int32.toInt_inj.mp z); have y93 : ¬ x0.toInt = (1 : Int32).toInt := fun z => k49775 (Int32.toInt_inj.mp z); have y94 : ¬ x0.toInt = (2 : Int32).toInt := fun z => k49780 (Int32.toInt_inj.mp z); have y95 : x0.toInt = (3 : Int32).toInt := congrArg Int32.toInt k49785; have y96 : Rg 0 3 x0 := g49764; have y97 : Rg 0 0 r49762 := g49766; have y98 : Rg 0 40 l_n3 := p_n3; have y99 : Rg 0 3 x0 := g49764; have y910 : Rg 0 0 r49762 := g49766; have y911 : Rg (-2147483648) 2147483647 r49789 := hr49789.1; have y912 : Rg 0 12 l_s := p_s; have y913 : Rg 0 12 l_t := p_t; have y914 : Rg 0 12 l_i := p_i; have y915 : Rg 0 120 l_tp := p_tp; have y916 : Rg 0 40 l_n0 := p_n0; have y917 : Rg 0 40 l_n1 := p_n1; have y918 : Rg 0 40 l_n2 := p_n2; have y919 : Rg 0 40 r49788 := hr49786.1; have y920 : Rg (-2147483648) 2147483647 r49789 := hr49789.1; have y9c21 : (0 : Int32).toInt = 0 := (by decide); have y9c22 : (1 : Int32).toInt = 1 := (by decide); have y9c23 : (2 : Int32).toInt = 2 := (by decide); have y9c24 : (3 : Int32).toInt = 3 := (by decide); omega)⟩, by rw [ht]; exact hP, hD⟩, hS.F ht⟩) hS.2.2 dX11_grow_60
      exact False.elim (by have y90 : r49762.toInt = (0 : Int32).toInt := congrArg Int32.toInt c49763; have y91 : ¬ r49767.toInt = (0 : Int32).toInt := fun z => c49768 (Int32.toInt_inj.mp z); have y92 : ¬ x0.toInt = (0 : Int32).toInt := fun z => k49770 (Int32.toInt_inj.mp z); have y93 : ¬ x0.toInt = (1 : Int32).toInt := fun z => k49775 (Int32.toInt_inj.mp z); have y94 : ¬ x0.toInt = (2 : Int32).toInt := fun z => k49780 (Int32.toInt_inj.mp z); have y95 : ¬ x0.toInt = (3 : Int32).toInt := fun z => k49785 (Int32.toInt_inj.mp z); have y96 : Rg 0 3 x0 := g49764; have y97 : Rg 0 0 r49762 := g49766; have y98 : Rg 0 3 x0 := g49764; have y99 : Rg 0 0 r49762 := g49766; have y910 : Rg 0 12 l_s := p_s; have y911 : Rg 0 12 l_t := p_t; have y912 : Rg 0 12 l_i := p_i; have y913 : Rg 0 120 l_tp := p_tp; have y914 : Rg 0 40 l_n0 := p_n0; have y915 : Rg 0 40 l_n1 := p_n1; have y916 : Rg 0 40 l_n2 := p_n2; have y917 : Rg 0 40 l_n3 := p_n3; have y9c18 : (0 : Int32).toInt = 0 := (by decide); have y9c19 : (1 : Int32).toInt = 1 := (by decide); have y9c20 : (2 : Int32).toInt = 2 := (by decide); have y9c21 : (3 : Int32).toInt = 3 := (by decide); have z9 := g49764; omega)
    · have g49790 : Rg 0 0 r49767 := wk_eql hr49767.1 (by decide : Rg 0 0 (0 : Int32)) c49768 (by decide)
      refine lv_iconst (v := (-1)) hx hb dX11_grow_22 (by decide) ?_
      subst hAe
      exact W.iret (v := (-1)) hx hb hr (fun t ht hW => ⟨⟨_, (l_o0, l_o1, l_o2, l_o3, l_n0, l_n1, l_n2, l_n3, u), rfl, ⟨(by decide : Rg (-2147483648) 2147483647 ((-1) : Int32)), p_n0, p_n1, p_n2, p_n3, (show l_o0.toInt = l_o0.toInt ∧ l_n0.toInt = l_n0.toInt from by have y90 : r49762.toInt = (0 : Int32).toInt := congrArg Int32.toInt c49763; have y91 : r49767.toInt = (0 : Int32).toInt := congrArg Int32.toInt c49768; have y92 : Rg 0 3 x0 := g49764; have y93 : Rg 0 0 r49762 := g49766; have y94 : Rg 0 0 r49767 := g49790; have y95 : Rg 0 3 x0 := g49764; have y96 : Rg 0 0 r49762 := g49766; have y97 : Rg 0 12 l_s := p_s; have y98 : Rg 0 12 l_t := p_t; have y99 : Rg 0 12 l_i := p_i; have y910 : Rg 0 120 l_tp := p_tp; have y911 : Rg 0 40 l_n0 := p_n0; have y912 : Rg 0 40 l_n1 := p_n1; have y913 : Rg 0 40 l_n2 := p_n2; have y914 : Rg 0 40 l_n3 := p_n3; have y9c15 : ((-1) : Int32).toInt = -1 := (by decide); have y9c16 : (0 : Int32).toInt = 0 := (by decide); have y9c17 : (1 : Int32).toInt = 1 := (by decide); omega), (show l_o1.toInt = l_o1.toInt ∧ l_n1.toInt = l_n1.toInt from by have y90 : r49762.toInt = (0 : Int32).toInt := congrArg Int32.toInt c49763; have y91 : r49767.toInt = (0 : Int32).toInt := congrArg Int32.toInt c49768; have y92 : Rg 0 3 x0 := g49764; have y93 : Rg 0 0 r49762 := g49766; have y94 : Rg 0 0 r49767 := g49790; have y95 : Rg 0 3 x0 := g49764; have y96 : Rg 0 0 r49762 := g49766; have y97 : Rg 0 12 l_s := p_s; have y98 : Rg 0 12 l_t := p_t; have y99 : Rg 0 12 l_i := p_i; have y910 : Rg 0 120 l_tp := p_tp; have y911 : Rg 0 40 l_n0 := p_n0; have y912 : Rg 0 40 l_n1 := p_n1; have y913 : Rg 0 40 l_n2 := p_n2; have y914 : Rg 0 40 l_n3 := p_n3; have y9c15 : ((-1) : Int32).toInt = -1 := (by decide); have y9c16 : (0 : Int32).toInt = 0 := (by decide); have y9c17 : (1 : Int32).toInt = 1 := (by decide); omega), (show l_o2.toInt = l_o2.toInt ∧ l_n2.toInt = l_n2.toInt from by have y90 : r49762.toInt = (0 : Int32).toInt := congrArg Int32.toInt c49763; have y91 : r49767.toInt = (0 : Int32).toInt := congrArg Int32.toInt c49768; have y92 : Rg 0 3 x0 := g49764; have y93 : Rg 0 0 r49762 := g49766; have y94 : Rg 0 0 r49767 := g49790; have y95 : Rg 0 3 x0 := g49764; have y96 : Rg 0 0 r49762 := g49766; have y97 : Rg 0 12 l_s := p_s; have y98 : Rg 0 12 l_t := p_t; have y99 : Rg 0 12 l_i := p_i; have y910 : Rg 0 120 l_tp := p_tp; have y911 : Rg 0 40 l_n0 := p_n0; have y912 : Rg 0 40 l_n1 := p_n1; have y913 : Rg 0 40 l_n2 := p_n2; have y914 : Rg 0 40 l_n3 := p_n3; have y9c15 : ((-1) : Int32).toInt = -1 := (by decide); have y9c16 : (0 : Int32).toInt = 0 := (by decide); have y9c17 : (1 : Int32).toInt = 1 := (by decide); omega), (show l_o3.toInt = l_o3.toInt ∧ l_n3.toInt = l_n3.toInt from by have y90 : r49762.toInt = (0 : Int32).toInt := congrArg Int32.toInt c49763; have y91 : r49767.toInt = (0 : Int32).toInt := congrArg Int32.toInt c49768; have y92 : Rg 0 3 x0 := g49764; have y93 : Rg 0 0 r49762 := g49766; have y94 : Rg 0 0 r49767 := g49790; have y95 : Rg 0 3 x0 := g49764; have y96 : Rg 0 0 r49762 := g49766; have y97 : Rg 0 12 l_s := p_s; have y98 : Rg 0 12 l_t := p_t; have y99 : Rg 0 12 l_i := p_i; have y910 : Rg 0 120 l_tp := p_tp; have y911 : Rg 0 40 l_n0 := p_n0; have y912 : Rg 0 40 l_n1 := p_n1; have y913 : Rg 0 40 l_n2 := p_n2; have y914 : Rg 0 40 l_n3 := p_n3; have y9c15 : ((-1) : Int32).toInt = -1 := (by decide); have y9c16 : (0 : Int32).toInt = 0 := (by decide); have y9c17 : (1 : Int32).toInt = 1 := (by decide); omega)⟩, by rw [ht]; exact hP, hD⟩, hS.F ht⟩) hS.2.2 dX11_grow_23
  · have g49791 : Rg (-11) (-1) r49762 := rg_ne_hi (k := 0) hr49762.1 (by decide) c49763 (by decide)
    refine lv_iload_n hx hb dX11_grow_10 rfl (lv_at hl 0 rfl) ?_
    subst hAe
    exact W.iret (v := r49762) hx hb hr (fun t ht hW => ⟨⟨_, (l_o0, l_o1, l_o2, l_o3, l_n0, l_n1, l_n2, l_n3, u), rfl, ⟨(rg_any r49762), p_n0, p_n1, p_n2, p_n3, (show l_o0.toInt = l_o0.toInt ∧ l_n0.toInt = l_n0.toInt from by have y90 : ¬ r49762.toInt = (0 : Int32).toInt := fun z => c49763 (Int32.toInt_inj.mp z); have y91 : Rg (-11) (-1) r49762 := g49791; have y92 : Rg (-11) (-1) r49762 := g49791; have y93 : Rg (-11) (-1) r49762 := g49791; have y94 : Rg 0 12 l_s := p_s; have y95 : Rg 0 12 l_t := p_t; have y96 : Rg 0 12 l_i := p_i; have y97 : Rg 0 120 l_tp := p_tp; have y98 : Rg 0 40 l_n0 := p_n0; have y99 : Rg 0 40 l_n1 := p_n1; have y910 : Rg 0 40 l_n2 := p_n2; have y911 : Rg 0 40 l_n3 := p_n3; have y912 : Rg (-11) (-1) r49762 := g49791; have y9c13 : (0 : Int32).toInt = 0 := (by decide); have y9c14 : (1 : Int32).toInt = 1 := (by decide); omega), (show l_o1.toInt = l_o1.toInt ∧ l_n1.toInt = l_n1.toInt from by have y90 : ¬ r49762.toInt = (0 : Int32).toInt := fun z => c49763 (Int32.toInt_inj.mp z); have y91 : Rg (-11) (-1) r49762 := g49791; have y92 : Rg (-11) (-1) r49762 := g49791; have y93 : Rg (-11) (-1) r49762 := g49791; have y94 : Rg 0 12 l_s := p_s; have y95 : Rg 0 12 l_t := p_t; have y96 : Rg 0 12 l_i := p_i; have y97 : Rg 0 120 l_tp := p_tp; have y98 : Rg 0 40 l_n0 := p_n0; have y99 : Rg 0 40 l_n1 := p_n1; have y910 : Rg 0 40 l_n2 := p_n2; have y911 : Rg 0 40 l_n3 := p_n3; have y912 : Rg (-11) (-1) r49762 := g49791; have y9c13 : (0 : Int32).toInt = 0 := (by decide); have y9c14 : (1 : Int32).toInt = 1 := (by decide); omega), (show l_o2.toInt = l_o2.toInt ∧ l_n2.toInt = l_n2.toInt from by have y90 : ¬ r49762.toInt = (0 : Int32).toInt := fun z => c49763 (Int32.toInt_inj.mp z); have y91 : Rg (-11) (-1) r49762 := g49791; have y92 : Rg (-11) (-1) r49762 := g49791; have y93 : Rg (-11) (-1) r49762 := g49791; have y94 : Rg 0 12 l_s := p_s; have y95 : Rg 0 12 l_t := p_t; have y96 : Rg 0 12 l_i := p_i; have y97 : Rg 0 120 l_tp := p_tp; have y98 : Rg 0 40 l_n0 := p_n0; have y99 : Rg 0 40 l_n1 := p_n1; have y910 : Rg 0 40 l_n2 := p_n2; have y911 : Rg 0 40 l_n3 := p_n3; have y912 : Rg (-11) (-1) r49762 := g49791; have y9c13 : (0 : Int32).toInt = 0 := (by decide); have y9c14 : (1 : Int32).toInt = 1 := (by decide); omega), (show l_o3.toInt = l_o3.toInt ∧ l_n3.toInt = l_n3.toInt from by have y90 : ¬ r49762.toInt = (0 : Int32).toInt := fun z => c49763 (Int32.toInt_inj.mp z); have y91 : Rg (-11) (-1) r49762 := g49791; have y92 : Rg (-11) (-1) r49762 := g49791; have y93 : Rg (-11) (-1) r49762 := g49791; have y94 : Rg 0 12 l_s := p_s; have y95 : Rg 0 12 l_t := p_t; have y96 : Rg 0 12 l_i := p_i; have y97 : Rg 0 120 l_tp := p_tp; have y98 : Rg 0 40 l_n0 := p_n0; have y99 : Rg 0 40 l_n1 := p_n1; have y910 : Rg 0 40 l_n2 := p_n2; have y911 : Rg 0 40 l_n3 := p_n3; have y912 : Rg (-11) (-1) r49762 := g49791; have y9c13 : (0 : Int32).toInt = 0 := (by decide); have y9c14 : (1 : Int32).toInt = 1 := (by decide); omega)⟩, by rw [ht]; exact hP, hD⟩, hS.F ht⟩) hS.2.2 dX11_grow_11
set_option maxHeartbeats 4000000 in
set_option maxRecDepth 100000 in
theorem k_X6_hasRange_z (l : Launch) (D : va_G) (cI cS : ClassId) (a : Nat → Nat) (na nc N : Nat) (L u : SU) (hL : TyX L) (hN : N = 0 ∨ N = 24576) (q : Nat) (hq : q < 4) (x0 x1 : Int32) : Met l yX6_hasRange wsX6_hasRange ({ frames := 0, cells := 0, slots := 0, locals := 0 }) (PS D cI cS (wX cI cS a na nc N L u) [.ref (a (26 + 2 * q)), .int x0, .int x1]) (vp_Si (fun r => Rg 0 1 r ∧ (r ≠ 0 → Rg 0 40 x0 ∧ Rg 0 40 x1) ∧ ((r ≠ 0 → (0 ≤ x0.toInt ∧ 0 ≤ x1.toInt ∧ x0.toInt + x1.toInt ≤ (L (26 + 2 * q) 2).toInt)) ∧ (r = 0 → ¬ (0 ≤ x0.toInt ∧ 0 ≤ x1.toInt ∧ x0.toInt + x1.toInt ≤ (L (26 + 2 * q) 2).toInt))))) 0 0 (fun _ => False) := by
  refine Met.ofW (cc := cX6_hasRange) (maxL := 3) (ret := (some .boolean)) (by decide) rfl ?_
  intro p e s m args below meth c s₁ B hml hv
  obtain ⟨rfl, hP, hKK⟩ := hv
  have hx := B.exec
  have hb := B.bytes
  have hr := B.returns
  have hts := atoms_spec (ws := wsX6_hasRange) B.pre
  have hown : s.vm.findClass RX6 = some m.cls := findClass_of_methodNamed B.named
  have hlocks := B.notSynchronized
  have hK := hKK.1
  have hin6 : ∀ w ∈ wsX60, w ∈ wsX6_hasRange := by decide +kernel
  have hl := lv_entry ([.ref (a (26 + 2 * q)), .int x0, .int x1]) (n := 3) (Nat.le_of_ble_eq_true rfl)
  rw [lg_entry_eq]
  generalize (lg_sl ([.ref (a (26 + 2 * q)), .int x0, .int x1]) ++ List.replicate (3 - (lg_sl ([.ref (a (26 + 2 * q)), .int x0, .int x1])).length) Slot.unset).toArray = ls at hl ⊢
  have hl : lv_has ls 3 [(0, .ref (a (26 + 2 * q))), (1, .int x0), (2, .int x1)] := hl
  refine lv_iload_n hx hb dX6_hasRange_0 rfl (lv_at hl 1 rfl) ?_
  refine lv_if_lt (tgt := 30) hx hb dX6_hasRange_1 (by decide) (fun c49805 => ?_) (fun c49805 => ?_)
  · have g49806 : Rg (-2147483648) (-1) x0 := rg_ltl (rg_any x0) (by decide : Rg 0 0 (0 : Int32)) c49805 (by decide)
    refine lv_iconst (v := 0) hx hb dX6_hasRange_30 (by decide) ?_
    exact W.zret (v := 0) hx hb hr (by decide) (fun t ht hW => ⟨_, rfl, ⟨(by decide : Rg 0 1 (0 : Int32)), fun h9 => absurd rfl h9, ⟨fun h9 => absurd rfl h9, fun _ => (by have y90 : x0.toInt < (0 : Int32).toInt := (lz_lt _ _).mp c49805; have y91 : Rg (-2147483648) (-1) x0 := g49806; have y92 : Rg (-2147483648) (-1) x0 := g49806; have y9c3 : (0 : Int32).toInt = 0 := (by decide); have y9c4 : (1 : Int32).toInt = 1 := (by decide); skip; omega)⟩⟩, ht⟩) (fun q hq => absurd hq List.not_mem_nil) dX6_hasRange_31
  · have g49807 : Rg 0 2147483647 x0 := rg_ler (by decide : Rg 0 0 (0 : Int32)) (rg_any x0) (rg_nlt c49805) (by decide)
    refine lv_iload_n hx hb dX6_hasRange_4 rfl (lv_at hl 2 rfl) ?_
    refine lv_if_lt (tgt := 30) hx hb dX6_hasRange_5 (by decide) (fun c49808 => ?_) (fun c49808 => ?_)
    · have g49809 : Rg (-2147483648) (-1) x1 := rg_ltl (rg_any x1) (by decide : Rg 0 0 (0 : Int32)) c49808 (by decide)
      refine lv_iconst (v := 0) hx hb dX6_hasRange_30 (by decide) ?_
      exact W.zret (v := 0) hx hb hr (by decide) (fun t ht hW => ⟨_, rfl, ⟨(by decide : Rg 0 1 (0 : Int32)), fun h9 => absurd rfl h9, ⟨fun h9 => absurd rfl h9, fun _ => (by have y90 : (0 : Int32).toInt ≤ x0.toInt := (lz_le _ _).mp (rg_nlt c49805); have y91 : x1.toInt < (0 : Int32).toInt := (lz_lt _ _).mp c49808; have y92 : Rg 0 2147483647 x0 := g49807; have y93 : Rg (-2147483648) (-1) x1 := g49809; have y94 : Rg 0 2147483647 x0 := g49807; have y95 : Rg (-2147483648) (-1) x1 := g49809; have y9c6 : (0 : Int32).toInt = 0 := (by decide); have y9c7 : (1 : Int32).toInt = 1 := (by decide); skip; omega)⟩⟩, ht⟩) (fun q hq => absurd hq List.not_mem_nil) dX6_hasRange_31
    · have g49810 : Rg 0 2147483647 x1 := rg_ler (by decide : Rg 0 0 (0 : Int32)) (rg_any x1) (rg_nlt c49808) (by decide)
      refine lv_iload_n hx hb dX6_hasRange_8 rfl (lv_at hl 2 rfl) ?_
      refine lv_aload_n hx hb dX6_hasRange_9 rfl (lv_at hl 0 rfl) ?_
      refine va_get (D := D) (ci := 6) (v := .int ((L (26 + 2 * q) 2))) (C := RX6) (T := TX6) (N := 3) hx hb hts hin6 hown hK hP (26 + 2 * q) (gx_sh hq) rfl 2 (by decide) (hts (.fieldLink RX6 28 "MissedPoints$Sheet" "size" "I") (by decide +kernel)) (fun _ h9 => h9) rfl dX6_hasRange_10 ?_
      refine lv_icmp_gt (tgt := 30) hx hb dX6_hasRange_13 (by decide) (fun c49811 => ?_) (fun c49811 => ?_)
      · have g49812 : Rg 1 2147483647 x1 := rg_ltr (hL.sh hq) g49810 c49811 (by decide)
        refine lv_iconst (v := 0) hx hb dX6_hasRange_30 (by decide) ?_
        exact W.zret (v := 0) hx hb hr (by decide) (fun t ht hW => ⟨_, rfl, ⟨(by decide : Rg 0 1 (0 : Int32)), fun h9 => absurd rfl h9, ⟨fun h9 => absurd rfl h9, fun _ => (by have y90 : (0 : Int32).toInt ≤ x0.toInt := (lz_le _ _).mp (rg_nlt c49805); have y91 : (0 : Int32).toInt ≤ x1.toInt := (lz_le _ _).mp (rg_nlt c49808); have y92 : ((L (26 + 2 * q) 2)).toInt < x1.toInt := (lz_lt _ _).mp c49811; have y93 : Rg 0 2147483647 x0 := g49807; have y94 : Rg 1 2147483647 x1 := g49812; have y95 : Rg 0 2147483647 x0 := g49807; have y96 : Rg 1 2147483647 x1 := g49812; have y9c7 : (0 : Int32).toInt = 0 := (by decide); have y9c8 : (1 : Int32).toInt = 1 := (by decide); skip; omega)⟩⟩, ht⟩) (fun q hq => absurd hq List.not_mem_nil) dX6_hasRange_31
      · have g49813 : Rg 0 40 x1 := rg_lel g49810 (hL.sh hq) (rg_nlt c49811) (by decide)
        refine lv_iload_n hx hb dX6_hasRange_16 rfl (lv_at hl 1 rfl) ?_
        refine lv_aload_n hx hb dX6_hasRange_17 rfl (lv_at hl 0 rfl) ?_
        refine va_get (D := D) (ci := 6) (v := .int ((L (26 + 2 * q) 2))) (C := RX6) (T := TX6) (N := 3) hx hb hts hin6 hown hK hP (26 + 2 * q) (gx_sh hq) rfl 2 (by decide) (hts (.fieldLink RX6 28 "MissedPoints$Sheet" "size" "I") (by decide +kernel)) (fun _ h9 => h9) rfl dX6_hasRange_18 ?_
        refine lv_iload_n hx hb dX6_hasRange_21 rfl (lv_at hl 2 rfl) ?_
        refine wk_isub (e1 := (-40)) (f := 40) hx hb dX6_hasRange_22 (hL.sh hq) g49813 (by decide) (fun r49814 hr49814 er49814 qr49814 => ?_)
        refine lv_icmp_gt (tgt := 30) hx hb dX6_hasRange_23 (by decide) (fun c49815 => ?_) (fun c49815 => ?_)
        · refine lv_iconst (v := 0) hx hb dX6_hasRange_30 (by decide) ?_
          exact W.zret (v := 0) hx hb hr (by decide) (fun t ht hW => ⟨_, rfl, ⟨(by decide : Rg 0 1 (0 : Int32)), fun h9 => absurd rfl h9, ⟨fun h9 => absurd rfl h9, fun _ => (by have y90 : (0 : Int32).toInt ≤ x0.toInt := (lz_le _ _).mp (rg_nlt c49805); have y91 : (0 : Int32).toInt ≤ x1.toInt := (lz_le _ _).mp (rg_nlt c49808); have y92 : x1.toInt ≤ ((L (26 + 2 * q) 2)).toInt := (lz_le _ _).mp (rg_nlt c49811); have y93 : r49814.toInt < x0.toInt := (lz_lt _ _).mp c49815; have y94 : Rg 0 2147483647 x0 := g49807; have y95 : Rg 0 40 x1 := g49813; have y96 : Rg 0 2147483647 x0 := g49807; have y97 : Rg 0 40 x1 := g49813; have y9c8 : (0 : Int32).toInt = 0 := (by decide); have y9c9 : (1 : Int32).toInt = 1 := (by decide); skip; omega)⟩⟩, ht⟩) (fun q hq => absurd hq List.not_mem_nil) dX6_hasRange_31
        · have g49816 : Rg 0 40 r49814 := rg_ler g49807 hr49814 (rg_nlt c49815) (by decide)
          have g49817 : Rg 0 40 x0 := rg_lel g49807 hr49814 (rg_nlt c49815) (by decide)
          refine lv_iconst (v := 1) hx hb dX6_hasRange_26 (by decide) ?_
          refine lv_goto (tgt := 31) hx hb dX6_hasRange_27 (by decide) ?_
          exact W.zret (v := 1) hx hb hr (by decide) (fun t ht hW => ⟨_, rfl, ⟨(by decide : Rg 0 1 (1 : Int32)), fun _ => ⟨g49817, g49813⟩, ⟨fun _ => (by have y90 : (0 : Int32).toInt ≤ x0.toInt := (lz_le _ _).mp (rg_nlt c49805); have y91 : (0 : Int32).toInt ≤ x1.toInt := (lz_le _ _).mp (rg_nlt c49808); have y92 : x1.toInt ≤ ((L (26 + 2 * q) 2)).toInt := (lz_le _ _).mp (rg_nlt c49811); have y93 : x0.toInt ≤ r49814.toInt := (lz_le _ _).mp (rg_nlt c49815); have y94 : Rg 0 40 x0 := g49817; have y95 : Rg 0 40 x1 := g49813; have y96 : Rg 0 40 r49814 := g49816; have y97 : Rg 0 40 x0 := g49817; have y98 : Rg 0 40 x1 := g49813; have y9c9 : (0 : Int32).toInt = 0 := (by decide); have y9c10 : (1 : Int32).toInt = 1 := (by decide); skip; omega), fun h9 => absurd h9 (by decide)⟩⟩, ht⟩) (fun q hq => absurd hq List.not_mem_nil) dX6_hasRange_31
set_option maxRecDepth 20000 in
theorem ggX6_copyTo_X6_hasRange : GoodIn wsX6_copyTo wsX6_hasRange := goodIn_r _ [10, 11, 12, 13, 14] rfl (by decide +kernel)
set_option maxRecDepth 20000 in
theorem gX6_copyTo_X6_hasRange : GoodIn wsX6_copyTo (wsV RX6 31 RX6 yX6_hasRange wsX6_hasRange) := goodIn_app (goodIn_of _ (by decide +kernel)) ggX6_copyTo_X6_hasRange
theorem dX6_copyTo_0 : decode cX6_copyTo 0 = .ok (.aload_n 0, 1) := by decide +kernel
theorem dX6_copyTo_1 : decode cX6_copyTo 1 = .ok (.iload_n 1, 1) := by decide +kernel
theorem dX6_copyTo_10 : decode cX6_copyTo 10 = .ok (.aload_n 2, 1) := by decide +kernel
theorem dX6_copyTo_11 : decode cX6_copyTo 11 = .ok (.iload_n 3, 1) := by decide +kernel
theorem dX6_copyTo_12 : decode cX6_copyTo 12 = .ok (.iload 4, 2) := by decide +kernel
theorem dX6_copyTo_14 : decode cX6_copyTo 14 = .ok (.invokevirtual 31, 3) := by decide +kernel
theorem dX6_copyTo_17 : decode cX6_copyTo 17 = .ok (.ifCond .eq 18, 3) := by decide +kernel
theorem dX6_copyTo_2 : decode cX6_copyTo 2 = .ok (.iload 4, 2) := by decide +kernel
theorem dX6_copyTo_20 : decode cX6_copyTo 20 = .ok (.aload_n 0, 1) := by decide +kernel
theorem dX6_copyTo_21 : decode cX6_copyTo 21 = .ok (.getfield 9, 3) := by decide +kernel
theorem dX6_copyTo_24 : decode cX6_copyTo 24 = .ok (.iload_n 1, 1) := by decide +kernel
theorem dX6_copyTo_25 : decode cX6_copyTo 25 = .ok (.aload_n 2, 1) := by decide +kernel
theorem dX6_copyTo_26 : decode cX6_copyTo 26 = .ok (.getfield 9, 3) := by decide +kernel
theorem dX6_copyTo_29 : decode cX6_copyTo 29 = .ok (.iload_n 3, 1) := by decide +kernel
theorem dX6_copyTo_30 : decode cX6_copyTo 30 = .ok (.iload 4, 2) := by decide +kernel
theorem dX6_copyTo_32 : decode cX6_copyTo 32 = .ok (.invokestatic 35, 3) := by decide +kernel
theorem dX6_copyTo_35 : decode cX6_copyTo 35 = .ok (.return_, 1) := by decide +kernel
theorem dX6_copyTo_4 : decode cX6_copyTo 4 = .ok (.invokevirtual 31, 3) := by decide +kernel
theorem dX6_copyTo_7 : decode cX6_copyTo 7 = .ok (.ifCond .eq 28, 3) := by decide +kernel
set_option maxHeartbeats 4000000 in
set_option maxRecDepth 100000 in
theorem k_X6_copyTo (l : Launch) (D : va_G) (cI cS : ClassId) (sz : Nat) (a : Nat → Nat) (na nc N : Nat) (L u0 : SU) (hL : TyX L) (hN : N = 0 ∨ N = 24576) (q : Nat) (hq : q < 4) (q2 : Nat) (hq2 : q2 < 4) (x0 x1 x2 : Int32) : Met l yX6_copyTo wsX6_copyTo ({ frames := 1, cells := 0, slots := 0, locals := 40 }) (PQ D cI cS (wX cI cS a na nc N L u0) sz [.ref (a (26 + 2 * q)), .int x0, .ref (a (26 + 2 * q2)), .int x1, .int x2]) (QE (S := SU) D (wX cI cS a na nc N L u0) (wX cI cS a na nc N L) sz (fun _ => True)) 0 0 (va_A (wX cI cS a na nc N L u0) sz) := by
  refine Met.ofW (cc := cX6_copyTo) (maxL := 5) (ret := none) (by decide) rfl ?_
  intro p e s m args below meth c s₁ B hml hv
  obtain ⟨rfl, hsz, hP, hKK, hD0⟩ := hv
  have hx := B.exec
  have hb := B.bytes
  have hr := B.returns
  have hts := atoms_spec (ws := wsX6_copyTo) B.pre
  have hown : s.vm.findClass RX6 = some m.cls := findClass_of_methodNamed B.named
  have hlocks := B.notSynchronized
  have hK := hKK.1
  have hin6 : ∀ w ∈ wsX60, w ∈ wsX6_copyTo := by decide +kernel
  subst hsz
  have hD := hD0.self (sz := s.heap.size)
  obtain ⟨A, hAe⟩ : ∃ A, A = va_A (wX cI cS a na nc N L u0) s.heap.size := ⟨_, rfl⟩
  rw [← hAe] at hD
  have hA : ∀ q : Nat, s.heap.size ≤ q → A q := fun q h => by rw [hAe]; exact Or.inr h
  have hS : va_S A s.heap s.heap [] := va_S.rf
  have hl := lv_entry ([.ref (a (26 + 2 * q)), .int x0, .ref (a (26 + 2 * q2)), .int x1, .int x2]) (n := 5) (Nat.le_of_ble_eq_true rfl)
  rw [lg_entry_eq]
  generalize (lg_sl ([.ref (a (26 + 2 * q)), .int x0, .ref (a (26 + 2 * q2)), .int x1, .int x2]) ++ List.replicate (5 - (lg_sl ([.ref (a (26 + 2 * q)), .int x0, .ref (a (26 + 2 * q2)), .int x1, .int x2])).length) Slot.unset).toArray = ls at hl ⊢
  have hl : lv_has ls 5 [(0, .ref (a (26 + 2 * q))), (1, .int x0), (2, .ref (a (26 + 2 * q2))), (3, .int x1), (4, .int x2)] := hl
  obtain ⟨u, hu9⟩ : ∃ u : SU, u = u0 := ⟨_, rfl⟩
  rw [← hu9] at hP hD
  refine lv_aload_n hx hb dX6_copyTo_0 rfl (lv_at hl 0 rfl) ?_
  refine lv_iload_n hx hb dX6_copyTo_1 rfl (lv_at hl 1 rfl) ?_
  refine lv_iload hx hb dX6_copyTo_2 (lv_at hl 4 rfl) ?_
  refine wk_sv (26 + 2 * q) (As := [.int x0, .int x2]) (rest := []) ⟨hx, hb, hml, hown, hts⟩ (k_X6_hasRange_z l D cI cS a na nc N L u hL hN q hq x0 x2) hKK hP (ci := 6) rfl (gx_sh hq) (cwV 2 hts gX6_copyTo_X6_hasRange rfl rfl rfl (by decide +kernel) ⟨Nat.le_of_ble_eq_true rfl, Nat.le_of_ble_eq_true rfl⟩) rfl hl.1 rfl (Nat.le_of_ble_eq_true rfl) dX6_copyTo_4 ⟨Nat.le_of_ble_eq_true rfl, Nat.le_of_ble_eq_true rfl⟩ (fun r49833 hr49833 => ?_)
  refine lv_if_eq (tgt := 35) hx hb dX6_copyTo_7 (by decide) (fun c49834 => ?_) (fun c49834 => ?_)
  · have zn49835 : ¬ (0 ≤ x0.toInt ∧ 0 ≤ x2.toInt ∧ x0.toInt + x2.toInt ≤ (L (26 + 2 * q) 2).toInt) := hr49833.2.2.2 c49834
    have g49836 : Rg 0 0 r49833 := wk_eql hr49833.1 (by decide : Rg 0 0 (0 : Int32)) c49834 (by decide)
    subst hAe
    exact W.vret hx hb hr (fun t ht hW => ⟨⟨u, rfl, trivial, by rw [ht]; exact hP, hD⟩, hS.F ht⟩) hS.2.2 dX6_copyTo_35
  · have g49837 : Rg 0 40 x0 := (hr49833.2.1 c49834).1
    have g49838 : Rg 0 40 x2 := (hr49833.2.1 c49834).2
    have zn49839 : (0 ≤ x0.toInt ∧ 0 ≤ x2.toInt ∧ x0.toInt + x2.toInt ≤ (L (26 + 2 * q) 2).toInt) := hr49833.2.2.1 c49834
    have g49840 : Rg 1 1 r49833 := rg_ne_lo (k := 0) hr49833.1 (by decide) c49834 (by decide)
    refine lv_aload_n hx hb dX6_copyTo_10 rfl (lv_at hl 2 rfl) ?_
    refine lv_iload_n hx hb dX6_copyTo_11 rfl (lv_at hl 3 rfl) ?_
    refine lv_iload hx hb dX6_copyTo_12 (lv_at hl 4 rfl) ?_
    refine wk_sv (26 + 2 * q2) (As := [.int x1, .int x2]) (rest := []) ⟨hx, hb, hml, hown, hts⟩ (k_X6_hasRange_z l D cI cS a na nc N L u hL hN q2 hq2 x1 x2) hKK hP (ci := 6) rfl (gx_sh hq2) (cwV 2 hts gX6_copyTo_X6_hasRange rfl rfl rfl (by decide +kernel) ⟨Nat.le_of_ble_eq_true rfl, Nat.le_of_ble_eq_true rfl⟩) rfl hl.1 rfl (Nat.le_of_ble_eq_true rfl) dX6_copyTo_14 ⟨Nat.le_of_ble_eq_true rfl, Nat.le_of_ble_eq_true rfl⟩ (fun r49841 hr49841 => ?_)
    refine lv_if_eq (tgt := 35) hx hb dX6_copyTo_17 (by decide) (fun c49842 => ?_) (fun c49842 => ?_)
    · have zn49843 : ¬ (0 ≤ x1.toInt ∧ 0 ≤ x2.toInt ∧ x1.toInt + x2.toInt ≤ (L (26 + 2 * q2) 2).toInt) := hr49841.2.2.2 c49842
      have g49844 : Rg 0 0 r49841 := wk_eql hr49841.1 (by decide : Rg 0 0 (0 : Int32)) c49842 (by decide)
      subst hAe
      exact W.vret hx hb hr (fun t ht hW => ⟨⟨u, rfl, trivial, by rw [ht]; exact hP, hD⟩, hS.F ht⟩) hS.2.2 dX6_copyTo_35
    · have g49845 : Rg 0 40 x1 := (hr49841.2.1 c49842).1
      have zn49846 : (0 ≤ x1.toInt ∧ 0 ≤ x2.toInt ∧ x1.toInt + x2.toInt ≤ (L (26 + 2 * q2) 2).toInt) := hr49841.2.2.1 c49842
      have g49847 : Rg 1 1 r49841 := rg_ne_lo (k := 0) hr49841.1 (by decide) c49842 (by decide)
      refine lv_aload_n hx hb dX6_copyTo_20 rfl (lv_at hl 0 rfl) ?_
      refine va_get (D := D) (ci := 6) (v := .ref (a (27 + 2 * q))) (C := RX6) (T := TX6) (N := 3) hx hb hts hin6 hown hK hP (26 + 2 * q) (gx_sh hq) rfl 0 (by decide) (hts (.fieldLink RX6 9 "MissedPoints$Sheet" "numbers" "[I") (by decide +kernel)) (fun _ h9 => h9) rfl dX6_copyTo_21 ?_
      refine lv_iload_n hx hb dX6_copyTo_24 rfl (lv_at hl 1 rfl) ?_
      refine lv_aload_n hx hb dX6_copyTo_25 rfl (lv_at hl 2 rfl) ?_
      refine va_get (D := D) (ci := 6) (v := .ref (a (27 + 2 * q2))) (C := RX6) (T := TX6) (N := 3) hx hb hts hin6 hown hK hP (26 + 2 * q2) (gx_sh hq2) rfl 0 (by decide) (hts (.fieldLink RX6 9 "MissedPoints$Sheet" "numbers" "[I") (by decide +kernel)) (fun _ h9 => h9) rfl dX6_copyTo_26 ?_
      refine lv_iload_n hx hb dX6_copyTo_29 rfl (lv_at hl 3 rfl) ?_
      refine lv_iload hx hb dX6_copyTo_30 (lv_at hl 4 rfl) ?_
      refine va_copyi hx hb (by rw [hml]; exact hl.1.symm) hown (hts (.methodLink RX6 35 arraycopyName) (by decide +kernel)) (hts (.native arraycopyName) (by decide +kernel)) (hts (.static arraycopyName) (by decide +kernel)) (hts (.initialized "java/lang/System") (by decide +kernel)) hK hP hD hS (27 + 2 * q) (27 + 2 * q2) 0 0 (gx_shn hq) (gx_shn hq2) rfl rfl rfl (fun z => absurd ((lz_lt _ _).mp z) (by have z1 := g49837; have z2 : (0 : Int32).toInt = 0 := (by decide); omega)) (fun z => absurd ((lz_lt _ _).mp z) (by have z1 := g49845; have z2 : (0 : Int32).toInt = 0 := (by decide); omega)) (fun z => absurd ((lz_lt _ _).mp z) (by have z1 := g49838; have z2 : (0 : Int32).toInt = 0 := (by decide); omega)) (wk_cpy g49837 g49838 (by decide) (by decide) (by have y90 : ¬ r49833.toInt = (0 : Int32).toInt := fun z => c49834 (Int32.toInt_inj.mp z); have y91 : ¬ r49841.toInt = (0 : Int32).toInt := fun z => c49842 (Int32.toInt_inj.mp z); have y92 : Rg 0 40 x0 := g49837; have y93 : Rg 0 40 x2 := g49838; have y94 : Rg 1 1 r49833 := g49840; have y95 : Rg 0 40 x1 := g49845; have y96 : Rg 1 1 r49841 := g49847; have y97 : Rg 0 40 x0 := g49837; have y98 : Rg 0 40 x1 := g49845; have y99 : Rg 0 40 x2 := g49838; have y910 : Rg 0 40 x2 := g49838; have y911 : Rg 0 40 x1 := g49845; have y912 : Rg 0 40 x0 := g49837; have y9c13 : (0 : Int32).toInt = 0 := (by decide); have y9c14 : (1 : Int32).toInt = 1 := (by decide); have z70 := hL.sh hq; have z71 := hL.sh hq2; omega)) (wk_cpy g49845 g49838 (by decide) (by decide) (by have y90 : ¬ r49833.toInt = (0 : Int32).toInt := fun z => c49834 (Int32.toInt_inj.mp z); have y91 : ¬ r49841.toInt = (0 : Int32).toInt := fun z => c49842 (Int32.toInt_inj.mp z); have y92 : Rg 0 40 x0 := g49837; have y93 : Rg 0 40 x2 := g49838; have y94 : Rg 1 1 r49833 := g49840; have y95 : Rg 0 40 x1 := g49845; have y96 : Rg 1 1 r49841 := g49847; have y97 : Rg 0 40 x0 := g49837; have y98 : Rg 0 40 x1 := g49845; have y99 : Rg 0 40 x2 := g49838; have y910 : Rg 0 40 x2 := g49838; have y911 : Rg 0 40 x1 := g49845; have y912 : Rg 0 40 x0 := g49837; have y9c13 : (0 : Int32).toInt = 0 := (by decide); have y9c14 : (1 : Int32).toInt = 1 := (by decide); have z70 := hL.sh hq; have z71 := hL.sh hq2; omega)) (fun _ _ => rfl) (Nat.le_of_ble_eq_true rfl) (Nat.le_of_ble_eq_true rfl) dX6_copyTo_32 (fun H locs hP hD hS => ?_)
      rw [sx_shn hq2] at hP hD
      generalize sU u (27 + 2 * q2) _ = u at hP hD
      subst hAe
      exact W.vret hx hb hr (fun t ht hW => ⟨⟨u, rfl, trivial, by rw [ht]; exact hP, hD⟩, hS.F ht⟩) hS.2.2 dX6_copyTo_35
set_option maxHeartbeats 4000000 in
set_option maxRecDepth 100000 in
theorem k_X6_isMissing_z (l : Launch) (D : va_G) (cI cS : ClassId) (a : Nat → Nat) (na nc N : Nat) (L u : SU) (hL : TyX L) (hN : N = 0 ∨ N = 24576) (q : Nat) (hq : q < 4) : Met l yX6_isMissing wsX6_isMissing ({ frames := 0, cells := 0, slots := 0, locals := 0 }) (PS D cI cS (wX cI cS a na nc N L u) [.ref (a (26 + 2 * q))]) (vp_Si (fun r => Rg 0 1 r ∧ ((r ≠ 0 → (L (26 + 2 * q) 1).toInt = -1) ∧ (r = 0 → ¬ (L (26 + 2 * q) 1).toInt = -1)))) 0 0 (fun _ => False) := by
  refine Met.ofW (cc := cX6_isMissing) (maxL := 1) (ret := (some .boolean)) (by decide) rfl ?_
  intro p e s m args below meth c s₁ B hml hv
  obtain ⟨rfl, hP, hKK⟩ := hv
  have hx := B.exec
  have hb := B.bytes
  have hr := B.returns
  have hts := atoms_spec (ws := wsX6_isMissing) B.pre
  have hown : s.vm.findClass RX6 = some m.cls := findClass_of_methodNamed B.named
  have hlocks := B.notSynchronized
  have hK := hKK.1
  have hin6 : ∀ w ∈ wsX60, w ∈ wsX6_isMissing := by decide +kernel
  have hl := lv_entry ([.ref (a (26 + 2 * q))]) (n := 1) (Nat.le_of_ble_eq_true rfl)
  rw [lg_entry_eq]
  generalize (lg_sl ([.ref (a (26 + 2 * q))]) ++ List.replicate (1 - (lg_sl ([.ref (a (26 + 2 * q))])).length) Slot.unset).toArray = ls at hl ⊢
  have hl : lv_has ls 1 [(0, .ref (a (26 + 2 * q)))] := hl
  refine lv_aload_n hx hb dX6_isMissing_0 rfl (lv_at hl 0 rfl) ?_
  refine va_get (D := D) (ci := 6) (v := .int ((L (26 + 2 * q) 1))) (C := RX6) (T := TX6) (N := 3) hx hb hts hin6 hown hK hP (26 + 2 * q) (gx_sh hq) rfl 1 (by decide) (hts (.fieldLink RX6 15 "MissedPoints$Sheet" "sort" "I") (by decide +kernel)) (fun _ h9 => h9) rfl dX6_isMissing_1 ?_
  refine lv_iconst (v := (-1)) hx hb dX6_isMissing_4 (by decide) ?_
  refine lv_icmp_ne (tgt := 12) hx hb dX6_isMissing_5 (by decide) (fun c49850 => ?_) (fun c49850 => ?_)
  · refine lv_iconst (v := 0) hx hb dX6_isMissing_12 (by decide) ?_
    exact W.zret (v := 0) hx hb hr (by decide) (fun t ht hW => ⟨_, rfl, ⟨(by decide : Rg 0 1 (0 : Int32)), ⟨fun h9 => absurd rfl h9, fun _ => (by have y90 : ¬ ((L (26 + 2 * q) 1)).toInt = ((-1) : Int32).toInt := fun z => c49850 (Int32.toInt_inj.mp z); have y9c1 : ((-1) : Int32).toInt = -1 := (by decide); have y9c2 : (0 : Int32).toInt = 0 := (by decide); have y9c3 : (1 : Int32).toInt = 1 := (by decide); have z5 : (-1 : Int32).toInt = -1 := (by decide); omega)⟩⟩, ht⟩) (fun q hq => absurd hq List.not_mem_nil) dX6_isMissing_13
  · have g49851 : Rg (-1) (-1) ((L (26 + 2 * q) 1)) := wk_eql (rg_any ((L (26 + 2 * q) 1))) (by decide : Rg (-1) (-1) ((-1) : Int32)) c49850 (by decide)
    refine lv_iconst (v := 1) hx hb dX6_isMissing_8 (by decide) ?_
    refine lv_goto (tgt := 13) hx hb dX6_isMissing_9 (by decide) ?_
    exact W.zret (v := 1) hx hb hr (by decide) (fun t ht hW => ⟨_, rfl, ⟨(by decide : Rg 0 1 (1 : Int32)), ⟨fun _ => (by have y90 : ((L (26 + 2 * q) 1)).toInt = ((-1) : Int32).toInt := congrArg Int32.toInt c49850; have y91 : Rg (-1) (-1) ((L (26 + 2 * q) 1)) := g49851; have y9c2 : ((-1) : Int32).toInt = -1 := (by decide); have y9c3 : (0 : Int32).toInt = 0 := (by decide); have y9c4 : (1 : Int32).toInt = 1 := (by decide); have z5 : (-1 : Int32).toInt = -1 := (by decide); omega), fun h9 => absurd h9 (by decide)⟩⟩, ht⟩) (fun q hq => absurd hq List.not_mem_nil) dX6_isMissing_13
set_option maxHeartbeats 4000000 in
set_option maxRecDepth 100000 in
theorem k_X11_refusalOfSheet_E (l : Launch) (D : va_G) (cI cS : ClassId) (a : Nat → Nat) (na nc N : Nat) (L u : SU) (hL : TyX L) (hN : N = 0 ∨ N = 24576) (x0 : Int32) : Met l yX11_refusalOfSheet wsX11_refusalOfSheet ({ frames := 1, cells := 0, slots := 0, locals := 40 }) (PS D cI cS (wX cI cS a na nc N L u) [.ref (a 0), .int x0]) (vp_Si (fun r => Rg (-11) 0 r ∧ (r = 0 → Rg 0 3 x0) ∧ ((x0.toInt < 0 ∨ 3 < x0.toInt → r.toInt = -2) ∧ (0 ≤ x0.toInt → x0.toInt ≤ 3 → (L (26 + 2 * x0.toNatClampNeg) 1).toInt = -1 → r.toInt = -11) ∧ (0 ≤ x0.toInt → x0.toInt ≤ 3 → ¬ (L (26 + 2 * x0.toNatClampNeg) 1).toInt = -1 → r.toInt = 0)))) 0 0 (fun _ => False) := by
  refine Met.ofW (cc := cX11_refusalOfSheet) (maxL := 2) (ret := (some .int)) (by decide) rfl ?_
  intro p e s m args below meth c s₁ B hml hv
  obtain ⟨rfl, hP, hKK⟩ := hv
  have hx := B.exec
  have hb := B.bytes
  have hr := B.returns
  have hts := atoms_spec (ws := wsX11_refusalOfSheet) B.pre
  have hown : s.vm.findClass RX11 = some m.cls := findClass_of_methodNamed B.named
  have hlocks := B.notSynchronized
  have hK := hKK.1
  have hin11 : ∀ w ∈ wsX110, w ∈ wsX11_refusalOfSheet := by decide +kernel
  have hl := lv_entry ([.ref (a 0), .int x0]) (n := 2) (Nat.le_of_ble_eq_true rfl)
  rw [lg_entry_eq]
  generalize (lg_sl ([.ref (a 0), .int x0]) ++ List.replicate (2 - (lg_sl ([.ref (a 0), .int x0])).length) Slot.unset).toArray = ls at hl ⊢
  have hl : lv_has ls 2 [(0, .ref (a 0)), (1, .int x0)] := hl
  refine lv_iload_n hx hb dX11_refusalOfSheet_0 rfl (lv_at hl 1 rfl) ?_
  refine lz_ss (As := [.int x0]) (rest := []) ⟨hx, hb, hml, hown, hts⟩ (k_X11_isSheet_z l D cI cS x0) hKK (hP.sub (ws' := []) [] rfl) (va_cwS 1 hts gX11_refusalOfSheet_X11_isSheet rfl rfl rfl (by decide +kernel) ⟨Nat.le_of_ble_eq_true rfl, Nat.le_of_ble_eq_true rfl⟩) rfl hl.1 rfl (Nat.le_of_ble_eq_true rfl) dX11_refusalOfSheet_1 ⟨Nat.le_of_ble_eq_true rfl, Nat.le_of_ble_eq_true rfl⟩ (fun r49865 hr49865 => ?_)
  refine lv_if_ne (tgt := 10) hx hb dX11_refusalOfSheet_4 (by decide) (fun c49866 => ?_) (fun c49866 => ?_)
  · have g49867 : Rg 0 3 x0 := (hr49865.2.1 c49866)
    have g49868 : Rg 1 1 r49865 := rg_ne_lo (k := 0) hr49865.1 (by decide) c49866 (by decide)
    refine lv_aload_n hx hb dX11_refusalOfSheet_10 rfl (lv_at hl 0 rfl) ?_
    refine va_get (D := D) (ci := 11) (v := .ref (a 25)) (C := RX11) (T := TX11) (N := 16) hx hb hts hin11 hown hK hP 0 rfl rfl 12 (by decide) (hts (.fieldLink RX11 75 "MissedPoints" "sheets" "[LMissedPoints$Sheet;") (by decide +kernel)) (fun _ h9 => h9) rfl dX11_refusalOfSheet_11 ?_
    refine lv_iload_n hx hb dX11_refusalOfSheet_14 rfl (lv_at hl 1 rfl) ?_
    obtain ⟨q49869, hq49869, eq49869, zq49869⟩ := ks_sh (a := a) g49867
    refine va_aldq hx hb hK hP 25 1 rfl rfl (rg_in g49867 (by decide) (by decide)) dX11_refusalOfSheet_15 ?_
    refine lz_va (y := .ref (a (26 + 2 * q49869))) (by show va_rf _ = _; rw [zq49869]; rfl) ?_
    have esq49869_1 : (L (26 + 2 * x0.toNatClampNeg) 1).toInt = (L (26 + 2 * q49869) 1).toInt := by rw [eq49869]
    have esq49869_2 : (L (26 + 2 * x0.toNatClampNeg) 2).toInt = (L (26 + 2 * q49869) 2).toInt := by rw [eq49869]
    refine wk_sv (26 + 2 * q49869) (As := []) (rest := []) ⟨hx, hb, hml, hown, hts⟩ (k_X6_isMissing_z l D cI cS a na nc N L u hL hN q49869 hq49869) hKK hP (ci := 6) rfl (gx_sh hq49869) (cwV 0 hts gX11_refusalOfSheet_X6_isMissing rfl rfl rfl (by decide +kernel) ⟨Nat.le_of_ble_eq_true rfl, Nat.le_of_ble_eq_true rfl⟩) rfl hl.1 rfl (Nat.le_of_ble_eq_true rfl) dX11_refusalOfSheet_16 ⟨Nat.le_of_ble_eq_true rfl, Nat.le_of_ble_eq_true rfl⟩ (fun r49870 hr49870 => ?_)
    refine lv_if_eq (tgt := 27) hx hb dX11_refusalOfSheet_19 (by decide) (fun c49871 => ?_) (fun c49871 => ?_)
    · have zn49872 : ¬ (L (26 + 2 * q49869) 1).toInt = -1 := hr49870.2.2 c49871
      have g49873 : Rg 0 0 r49870 := wk_eql hr49870.1 (by decide : Rg 0 0 (0 : Int32)) c49871 (by decide)
      refine lv_iconst (v := 0) hx hb dX11_refusalOfSheet_27 (by decide) ?_
      exact W.iret (v := 0) hx hb hr (fun t ht hW => ⟨_, rfl, ⟨(by decide : Rg (-11) 0 (0 : Int32)), fun _ => g49867, (by have y90 : ¬ r49865.toInt = (0 : Int32).toInt := fun z => c49866 (Int32.toInt_inj.mp z); have y91 : r49870.toInt = (0 : Int32).toInt := congrArg Int32.toInt c49871; have y92 : Rg 0 3 x0 := g49867; have y93 : Rg 1 1 r49865 := g49868; have y94 : Rg 0 0 r49870 := g49873; have y95 : Rg 0 3 x0 := g49867; have y9c6 : (0 : Int32).toInt = 0 := (by decide); have y9c7 : (1 : Int32).toInt = 1 := (by decide); skip; omega)⟩, ht⟩) (fun q hq => absurd hq List.not_mem_nil) dX11_refusalOfSheet_28
    · have zn49874 : (L (26 + 2 * q49869) 1).toInt = -1 := hr49870.2.1 c49871
      have g49875 : Rg 1 1 r49870 := rg_ne_lo (k := 0) hr49870.1 (by decide) c49871 (by decide)
      refine lv_bipush (v := (-11)) hx hb dX11_refusalOfSheet_22 (by decide) ?_
      refine lv_goto (tgt := 28) hx hb dX11_refusalOfSheet_24 (by decide) ?_
      exact W.iret (v := (-11)) hx hb hr (fun t ht hW => ⟨_, rfl, ⟨(by decide : Rg (-11) 0 ((-11) : Int32)), fun h9 => absurd h9 (by decide), (by have y90 : ¬ r49865.toInt = (0 : Int32).toInt := fun z => c49866 (Int32.toInt_inj.mp z); have y91 : ¬ r49870.toInt = (0 : Int32).toInt := fun z => c49871 (Int32.toInt_inj.mp z); have y92 : Rg 0 3 x0 := g49867; have y93 : Rg 1 1 r49865 := g49868; have y94 : Rg 1 1 r49870 := g49875; have y95 : Rg 0 3 x0 := g49867; have y9c6 : ((-11) : Int32).toInt = -11 := (by decide); have y9c7 : (0 : Int32).toInt = 0 := (by decide); have y9c8 : (1 : Int32).toInt = 1 := (by decide); skip; omega)⟩, ht⟩) (fun q hq => absurd hq List.not_mem_nil) dX11_refusalOfSheet_28
  · have zt49876 : (x0.toInt < 0 ∨ 3 < x0.toInt) := hr49865.2.2 c49866
    have g49877 : Rg 0 0 r49865 := wk_eql hr49865.1 (by decide : Rg 0 0 (0 : Int32)) c49866 (by decide)
    refine lv_bipush (v := (-2)) hx hb dX11_refusalOfSheet_7 (by decide) ?_
    exact W.iret (v := (-2)) hx hb hr (fun t ht hW => ⟨_, rfl, ⟨(by decide : Rg (-11) 0 ((-2) : Int32)), fun h9 => absurd h9 (by decide), (by have y90 : r49865.toInt = (0 : Int32).toInt := congrArg Int32.toInt c49866; have y91 : Rg 0 0 r49865 := g49877; have y9c2 : ((-2) : Int32).toInt = -2 := (by decide); have y9c3 : (0 : Int32).toInt = 0 := (by decide); have y9c4 : (1 : Int32).toInt = 1 := (by decide); skip; omega)⟩, ht⟩) (fun q hq => absurd hq List.not_mem_nil) dX11_refusalOfSheet_9
set_option maxHeartbeats 4000000 in
set_option maxRecDepth 100000 in
theorem k_X11_refusalOfNumber_E (l : Launch) (D : va_G) (cI cS : ClassId) (a : Nat → Nat) (na nc N : Nat) (L u : SU) (hL : TyX L) (hN : N = 0 ∨ N = 24576) (x0 x1 : Int32) : Met l yX11_refusalOfNumber wsX11_refusalOfNumber ({ frames := 2, cells := 0, slots := 0, locals := 80 }) (PS D cI cS (wX cI cS a na nc N L u) [.ref (a 0), .int x0, .int x1]) (vp_Si (fun r => Rg (-12) 0 r ∧ (r = 0 → Rg 0 3 x0 ∧ Rg 0 40 x1) ∧ ((x0.toInt < 0 ∨ 3 < x0.toInt → r.toInt = -2) ∧ (0 ≤ x0.toInt → x0.toInt ≤ 3 → (L (26 + 2 * x0.toNatClampNeg) 1).toInt = -1 → r.toInt = -11) ∧ (0 ≤ x0.toInt → x0.toInt ≤ 3 → ¬ (L (26 + 2 * x0.toNatClampNeg) 1).toInt = -1 → (x1.toInt < 0 ∨ (L (26 + 2 * x0.toNatClampNeg) 2).toInt ≤ x1.toInt) → r.toInt = -12) ∧ (0 ≤ x0.toInt → x0.toInt ≤ 3 → ¬ (L (26 + 2 * x0.toNatClampNeg) 1).toInt = -1 → 0 ≤ x1.toInt → x1.toInt < (L (26 + 2 * x0.toNatClampNeg) 2).toInt → r.toInt = 0)))) 0 0 (fun _ => False) := by
  refine Met.ofW (cc := cX11_refusalOfNumber) (maxL := 4) (ret := (some .int)) (by decide) rfl ?_
  intro p e s m args below meth c s₁ B hml hv
  obtain ⟨rfl, hP, hKK⟩ := hv
  have hx := B.exec
  have hb := B.bytes
  have hr := B.returns
  have hts := atoms_spec (ws := wsX11_refusalOfNumber) B.pre
  have hown : s.vm.findClass RX11 = some m.cls := findClass_of_methodNamed B.named
  have hlocks := B.notSynchronized
  have hK := hKK.1
  have hin11 : ∀ w ∈ wsX110, w ∈ wsX11_refusalOfNumber := by decide +kernel
  have hl := lv_entry ([.ref (a 0), .int x0, .int x1]) (n := 4) (Nat.le_of_ble_eq_true rfl)
  rw [lg_entry_eq]
  generalize (lg_sl ([.ref (a 0), .int x0, .int x1]) ++ List.replicate (4 - (lg_sl ([.ref (a 0), .int x0, .int x1])).length) Slot.unset).toArray = ls at hl ⊢
  have hl : lv_has ls 4 [(0, .ref (a 0)), (1, .int x0), (2, .int x1)] := hl
  refine lv_aload_n hx hb dX11_refusalOfNumber_0 rfl (lv_at hl 0 rfl) ?_
  refine lv_iload_n hx hb dX11_refusalOfNumber_1 rfl (lv_at hl 1 rfl) ?_
  refine wk_sv 0 (As := [.int x0]) (rest := []) ⟨hx, hb, hml, hown, hts⟩ (k_X11_refusalOfSheet_E l D cI cS a na nc N L u hL hN x0) hKK hP (ci := 11) rfl rfl (cwV 1 hts gX11_refusalOfNumber_X11_refusalOfSheet rfl rfl rfl (by decide +kernel) ⟨Nat.le_of_ble_eq_true rfl, Nat.le_of_ble_eq_true rfl⟩) rfl hl.1 rfl (Nat.le_of_ble_eq_true rfl) dX11_refusalOfNumber_2 ⟨Nat.le_of_ble_eq_true rfl, Nat.le_of_ble_eq_true rfl⟩ (fun r49892 hr49892 => ?_)
  have wq49893 : ((x0.toInt < 0 ∨ 3 < x0.toInt → r49892.toInt = -2) ∧ (0 ≤ x0.toInt → x0.toInt ≤ 3 → (L (26 + 2 * x0.toNatClampNeg) 1).toInt = -1 → r49892.toInt = -11) ∧ (0 ≤ x0.toInt → x0.toInt ≤ 3 → ¬ (L (26 + 2 * x0.toNatClampNeg) 1).toInt = -1 → r49892.toInt = 0)) := hr49892.2.2
  refine lv_istore_n (lv' := [(3, .int r49892), (0, .ref (a 0)), (1, .int x0), (2, .int x1)]) hx hb dX11_refusalOfNumber_5 rfl hl (by decide) rfl (fun ls hl => ?_)
  refine lv_iload_n hx hb dX11_refusalOfNumber_6 rfl (lv_at hl 0 rfl) ?_
  refine lv_if_eq (tgt := 12) hx hb dX11_refusalOfNumber_7 (by decide) (fun c49894 => ?_) (fun c49894 => ?_)
  · have g49895 : Rg 0 3 x0 := (hr49892.2.1 c49894)
    have g49896 : Rg 0 0 r49892 := wk_eql hr49892.1 (by decide : Rg 0 0 (0 : Int32)) c49894 (by decide)
    refine lv_aload_n hx hb dX11_refusalOfNumber_12 rfl (lv_at hl 1 rfl) ?_
    refine va_get (D := D) (ci := 11) (v := .ref (a 25)) (C := RX11) (T := TX11) (N := 16) hx hb hts hin11 hown hK hP 0 rfl rfl 12 (by decide) (hts (.fieldLink RX11 75 "MissedPoints" "sheets" "[LMissedPoints$Sheet;") (by decide +kernel)) (fun _ h9 => h9) rfl dX11_refusalOfNumber_13 ?_
    refine lv_iload_n hx hb dX11_refusalOfNumber_16 rfl (lv_at hl 2 rfl) ?_
    obtain ⟨q49897, hq49897, eq49897, zq49897⟩ := ks_sh (a := a) g49895
    refine va_aldq hx hb hK hP 25 1 rfl rfl (rg_in g49895 (by decide) (by decide)) dX11_refusalOfNumber_17 ?_
    refine lz_va (y := .ref (a (26 + 2 * q49897))) (by show va_rf _ = _; rw [zq49897]; rfl) ?_
    have esq49897_1 : (L (26 + 2 * x0.toNatClampNeg) 1).toInt = (L (26 + 2 * q49897) 1).toInt := by rw [eq49897]
    have esq49897_2 : (L (26 + 2 * x0.toNatClampNeg) 2).toInt = (L (26 + 2 * q49897) 2).toInt := by rw [eq49897]
    refine lv_iload_n hx hb dX11_refusalOfNumber_18 rfl (lv_at hl 3 rfl) ?_
    refine lv_iconst (v := 1) hx hb dX11_refusalOfNumber_19 (by decide) ?_
    refine wk_sv (26 + 2 * q49897) (As := [.int x1, .int 1]) (rest := []) ⟨hx, hb, hml, hown, hts⟩ (k_X6_hasRange_z l D cI cS a na nc N L u hL hN q49897 hq49897 x1 (1 : Int32)) hKK hP (ci := 6) rfl (gx_sh hq49897) (cwV 2 hts gX11_refusalOfNumber_X6_hasRange rfl rfl rfl (by decide +kernel) ⟨Nat.le_of_ble_eq_true rfl, Nat.le_of_ble_eq_true rfl⟩) rfl hl.1 rfl (Nat.le_of_ble_eq_true rfl) dX11_refusalOfNumber_20 ⟨Nat.le_of_ble_eq_true rfl, Nat.le_of_ble_eq_true rfl⟩ (fun r49898 hr49898 => ?_)
    refine lv_if_eq (tgt := 30) hx hb dX11_refusalOfNumber_23 (by decide) (fun c49899 => ?_) (fun c49899 => ?_)
    · have zn49900 : ¬ (0 ≤ x1.toInt ∧ 0 ≤ (1 : Int32).toInt ∧ x1.toInt + (1 : Int32).toInt ≤ (L (26 + 2 * q49897) 2).toInt) := hr49898.2.2.2 c49899
      have g49901 : Rg 0 0 r49898 := wk_eql hr49898.1 (by decide : Rg 0 0 (0 : Int32)) c49899 (by decide)
      refine lv_bipush (v := (-12)) hx hb dX11_refusalOfNumber_30 (by decide) ?_
      exact W.iret (v := (-12)) hx hb hr (fun t ht hW => ⟨_, rfl, ⟨(by decide : Rg (-12) 0 ((-12) : Int32)), fun h9 => absurd h9 (by decide), (by have y90 : r49892.toInt = (0 : Int32).toInt := congrArg Int32.toInt c49894; have y91 : r49898.toInt = (0 : Int32).toInt := congrArg Int32.toInt c49899; have y92 : Rg 0 3 x0 := g49895; have y93 : Rg 0 0 r49892 := g49896; have y94 : Rg 0 0 r49898 := g49901; have y95 : Rg 0 3 x0 := g49895; have y96 : Rg 0 0 r49892 := g49896; have y9c7 : ((-12) : Int32).toInt = -12 := (by decide); have y9c8 : (0 : Int32).toInt = 0 := (by decide); have y9c9 : (1 : Int32).toInt = 1 := (by decide); skip; omega)⟩, ht⟩) (fun q hq => absurd hq List.not_mem_nil) dX11_refusalOfNumber_32
    · have g49902 : Rg 0 40 x1 := (hr49898.2.1 c49899).1
      have zn49903 : (0 ≤ x1.toInt ∧ 0 ≤ (1 : Int32).toInt ∧ x1.toInt + (1 : Int32).toInt ≤ (L (26 + 2 * q49897) 2).toInt) := hr49898.2.2.1 c49899
      have g49904 : Rg 1 1 r49898 := rg_ne_lo (k := 0) hr49898.1 (by decide) c49899 (by decide)
      refine lv_iconst (v := 0) hx hb dX11_refusalOfNumber_26 (by decide) ?_
      refine lv_goto (tgt := 32) hx hb dX11_refusalOfNumber_27 (by decide) ?_
      exact W.iret (v := 0) hx hb hr (fun t ht hW => ⟨_, rfl, ⟨(by decide : Rg (-12) 0 (0 : Int32)), fun _ => ⟨g49895, g49902⟩, (by have y90 : r49892.toInt = (0 : Int32).toInt := congrArg Int32.toInt c49894; have y91 : ¬ r49898.toInt = (0 : Int32).toInt := fun z => c49899 (Int32.toInt_inj.mp z); have y92 : Rg 0 3 x0 := g49895; have y93 : Rg 0 0 r49892 := g49896; have y94 : Rg 0 40 x1 := g49902; have y95 : Rg 1 1 r49898 := g49904; have y96 : Rg 0 3 x0 := g49895; have y97 : Rg 0 40 x1 := g49902; have y98 : Rg 0 0 r49892 := g49896; have y9c9 : (0 : Int32).toInt = 0 := (by decide); have y9c10 : (1 : Int32).toInt = 1 := (by decide); skip; omega)⟩, ht⟩) (fun q hq => absurd hq List.not_mem_nil) dX11_refusalOfNumber_32
  · have g49905 : Rg (-11) (-1) r49892 := rg_ne_hi (k := 0) hr49892.1 (by decide) c49894 (by decide)
    refine lv_iload_n hx hb dX11_refusalOfNumber_10 rfl (lv_at hl 0 rfl) ?_
    exact W.iret (v := r49892) hx hb hr (fun t ht hW => ⟨_, rfl, ⟨(show Rg (-12) 0 r49892 from rg_w g49905 (by decide) (by decide)), fun h9 => absurd h9 (wk_nz g49905 (by decide)), (by have y90 : ¬ r49892.toInt = (0 : Int32).toInt := fun z => c49894 (Int32.toInt_inj.mp z); have y91 : Rg (-11) (-1) r49892 := g49905; have y92 : Rg (-11) (-1) r49892 := g49905; have y93 : Rg (-11) (-1) r49892 := g49905; have y94 : Rg (-11) (-1) r49892 := g49905; have y9c5 : (0 : Int32).toInt = 0 := (by decide); have y9c6 : (1 : Int32).toInt = 1 := (by decide); skip; omega)⟩, ht⟩) (fun q hq => absurd hq List.not_mem_nil) dX11_refusalOfNumber_11
set_option maxHeartbeats 4000000 in
set_option maxRecDepth 100000 in
theorem k_X11_write_E (l : Launch) (D : va_G) (cI cS : ClassId) (sz : Nat) (a : Nat → Nat) (na nc N : Nat) (L u0 : SU) (hL : TyX L) (hN : N = 0 ∨ N = 24576) (x0 x1 x2 : Int32) : Met l yX11_write wsX11_write ({ frames := 3, cells := 0, slots := 0, locals := 120 }) (PQ D cI cS (wX cI cS a na nc N L u0) sz [.ref (a 0), .int x0, .int x1, .int x2]) (QF (S := SU) D (wX cI cS a na nc N L u0) (wX cI cS a na nc N L) sz (fun r _ => Rg (-12) 1 r ∧ ((x0.toInt < 0 ∨ 3 < x0.toInt → r.toInt = -2) ∧ (0 ≤ x0.toInt → x0.toInt ≤ 3 → (L (26 + 2 * x0.toNatClampNeg) 1).toInt = -1 → r.toInt = -11) ∧ (0 ≤ x0.toInt → x0.toInt ≤ 3 → ¬ (L (26 + 2 * x0.toNatClampNeg) 1).toInt = -1 → (x1.toInt < 0 ∨ (L (26 + 2 * x0.toNatClampNeg) 2).toInt ≤ x1.toInt) → r.toInt = -12) ∧ (0 ≤ x0.toInt → x0.toInt ≤ 3 → ¬ (L (26 + 2 * x0.toNatClampNeg) 1).toInt = -1 → 0 ≤ x1.toInt → x1.toInt < (L (26 + 2 * x0.toNatClampNeg) 2).toInt → r.toInt = 1)))) 0 0 (va_A (wX cI cS a na nc N L u0) sz) := by
  refine Met.ofW (cc := cX11_write) (maxL := 5) (ret := (some .int)) (by decide) rfl ?_
  intro p e s m args below meth c s₁ B hml hv
  obtain ⟨rfl, hsz, hP, hKK, hD0⟩ := hv
  have hx := B.exec
  have hb := B.bytes
  have hr := B.returns
  have hts := atoms_spec (ws := wsX11_write) B.pre
  have hown : s.vm.findClass RX11 = some m.cls := findClass_of_methodNamed B.named
  have hlocks := B.notSynchronized
  have hK := hKK.1
  have hin11 : ∀ w ∈ wsX110, w ∈ wsX11_write := by decide +kernel
  subst hsz
  have hD := hD0.self (sz := s.heap.size)
  obtain ⟨A, hAe⟩ : ∃ A, A = va_A (wX cI cS a na nc N L u0) s.heap.size := ⟨_, rfl⟩
  rw [← hAe] at hD
  have hA : ∀ q : Nat, s.heap.size ≤ q → A q := fun q h => by rw [hAe]; exact Or.inr h
  have hS : va_S A s.heap s.heap [] := va_S.rf
  have hl := lv_entry ([.ref (a 0), .int x0, .int x1, .int x2]) (n := 5) (Nat.le_of_ble_eq_true rfl)
  rw [lg_entry_eq]
  generalize (lg_sl ([.ref (a 0), .int x0, .int x1, .int x2]) ++ List.replicate (5 - (lg_sl ([.ref (a 0), .int x0, .int x1, .int x2])).length) Slot.unset).toArray = ls at hl ⊢
  have hl : lv_has ls 5 [(0, .ref (a 0)), (1, .int x0), (2, .int x1), (3, .int x2)] := hl
  obtain ⟨u, hu9⟩ : ∃ u : SU, u = u0 := ⟨_, rfl⟩
  rw [← hu9] at hP hD
  refine lv_aload_n hx hb dX11_write_0 rfl (lv_at hl 0 rfl) ?_
  refine lv_iload_n hx hb dX11_write_1 rfl (lv_at hl 1 rfl) ?_
  refine lv_iload_n hx hb dX11_write_2 rfl (lv_at hl 2 rfl) ?_
  refine wk_sv 0 (As := [.int x0, .int x1]) (rest := []) ⟨hx, hb, hml, hown, hts⟩ (k_X11_refusalOfNumber_E l D cI cS a na nc N L u hL hN x0 x1) hKK hP (ci := 11) rfl rfl (cwV 2 hts gX11_write_X11_refusalOfNumber rfl rfl rfl (by decide +kernel) ⟨Nat.le_of_ble_eq_true rfl, Nat.le_of_ble_eq_true rfl⟩) rfl hl.1 rfl (Nat.le_of_ble_eq_true rfl) dX11_write_3 ⟨Nat.le_of_ble_eq_true rfl, Nat.le_of_ble_eq_true rfl⟩ (fun r49915 hr49915 => ?_)
  have wq49916 : ((x0.toInt < 0 ∨ 3 < x0.toInt → r49915.toInt = -2) ∧ (0 ≤ x0.toInt → x0.toInt ≤ 3 → (L (26 + 2 * x0.toNatClampNeg) 1).toInt = -1 → r49915.toInt = -11) ∧ (0 ≤ x0.toInt → x0.toInt ≤ 3 → ¬ (L (26 + 2 * x0.toNatClampNeg) 1).toInt = -1 → (x1.toInt < 0 ∨ (L (26 + 2 * x0.toNatClampNeg) 2).toInt ≤ x1.toInt) → r49915.toInt = -12) ∧ (0 ≤ x0.toInt → x0.toInt ≤ 3 → ¬ (L (26 + 2 * x0.toNatClampNeg) 1).toInt = -1 → 0 ≤ x1.toInt → x1.toInt < (L (26 + 2 * x0.toNatClampNeg) 2).toInt → r49915.toInt = 0)) := hr49915.2.2
  refine lv_istore (lv' := [(4, .int r49915), (0, .ref (a 0)), (1, .int x0), (2, .int x1), (3, .int x2)]) hx hb dX11_write_6 hl (by decide) rfl (fun ls hl => ?_)
  refine lv_iload hx hb dX11_write_8 (lv_at hl 0 rfl) ?_
  refine lv_if_eq (tgt := 16) hx hb dX11_write_10 (by decide) (fun c49917 => ?_) (fun c49917 => ?_)
  · have g49918 : Rg 0 3 x0 := (hr49915.2.1 c49917).1
    have g49919 : Rg 0 40 x1 := (hr49915.2.1 c49917).2
    have g49920 : Rg 0 0 r49915 := wk_eql hr49915.1 (by decide : Rg 0 0 (0 : Int32)) c49917 (by decide)
    refine lv_aload_n hx hb dX11_write_16 rfl (lv_at hl 1 rfl) ?_
    refine va_get (D := D) (ci := 11) (v := .ref (a 25)) (C := RX11) (T := TX11) (N := 16) hx hb hts hin11 hown hK hP 0 rfl rfl 12 (by decide) (hts (.fieldLink RX11 75 "MissedPoints" "sheets" "[LMissedPoints$Sheet;") (by decide +kernel)) (fun _ h9 => h9) rfl dX11_write_17 ?_
    refine lv_iload_n hx hb dX11_write_20 rfl (lv_at hl 2 rfl) ?_
    obtain ⟨q49921, hq49921, eq49921, zq49921⟩ := ks_sh (a := a) g49918
    refine va_aldq hx hb hK hP 25 1 rfl rfl (rg_in g49918 (by decide) (by decide)) dX11_write_21 ?_
    refine lz_va (y := .ref (a (26 + 2 * q49921))) (by show va_rf _ = _; rw [zq49921]; rfl) ?_
    have esq49921_1 : (L (26 + 2 * x0.toNatClampNeg) 1).toInt = (L (26 + 2 * q49921) 1).toInt := by rw [eq49921]
    have esq49921_2 : (L (26 + 2 * x0.toNatClampNeg) 2).toInt = (L (26 + 2 * q49921) 2).toInt := by rw [eq49921]
    refine lv_iload_n hx hb dX11_write_22 rfl (lv_at hl 3 rfl) ?_
    refine lv_iload_n hx hb dX11_write_23 rfl (lv_at hl 4 rfl) ?_
    refine wk_qv (wX cI cS a na nc N L) u (As := [.int x1, .int x2]) (rest := []) ⟨hx, hb, hml, hown, hts⟩ (k_X6_store l D cI cS _ a na nc N L u hL hN q49921 hq49921 x1 x2) hKK hP hD hS hA (26 + 2 * q49921) (ci := 6) rfl (gx_sh hq49921) (cwV 2 hts gX11_write_X6_store rfl rfl rfl (by decide +kernel) ⟨Nat.le_of_ble_eq_true rfl, Nat.le_of_ble_eq_true rfl⟩) rfl hl.1 rfl (Nat.le_of_ble_eq_true rfl) dX11_write_24 ⟨Nat.le_of_ble_eq_true rfl, Nat.le_of_ble_eq_true rfl⟩ (fun u H locs hr49922 hP hD hS => ?_)
    refine lv_iconst (v := 1) hx hb dX11_write_27 (by decide) ?_
    subst hAe
    exact W.iret (v := 1) hx hb hr (fun t ht hW => ⟨⟨_, u, rfl, ⟨(by decide : Rg (-12) 1 (1 : Int32)), (by have y90 : r49915.toInt = (0 : Int32).toInt := congrArg Int32.toInt c49917; have y91 : Rg 0 3 x0 := g49918; have y92 : Rg 0 40 x1 := g49919; have y93 : Rg 0 0 r49915 := g49920; have y94 : Rg 0 3 x0 := g49918; have y95 : Rg 0 40 x1 := g49919; have y96 : Rg 0 0 r49915 := g49920; have y9c7 : (0 : Int32).toInt = 0 := (by decide); have y9c8 : (1 : Int32).toInt = 1 := (by decide); skip; omega)⟩, by rw [ht]; exact hP, hD⟩, hS.F ht⟩) hS.2.2 dX11_write_28
  · have g49923 : Rg (-12) (-1) r49915 := rg_ne_hi (k := 0) hr49915.1 (by decide) c49917 (by decide)
    refine lv_iload hx hb dX11_write_13 (lv_at hl 0 rfl) ?_
    subst hAe
    exact W.iret (v := r49915) hx hb hr (fun t ht hW => ⟨⟨_, u, rfl, ⟨(show Rg (-12) 1 r49915 from rg_w g49923 (by decide) (by decide)), (by have y90 : ¬ r49915.toInt = (0 : Int32).toInt := fun z => c49917 (Int32.toInt_inj.mp z); have y91 : Rg (-12) (-1) r49915 := g49923; have y92 : Rg (-12) (-1) r49915 := g49923; have y93 : Rg (-12) (-1) r49915 := g49923; have y94 : Rg (-12) (-1) r49915 := g49923; have y9c5 : (0 : Int32).toInt = 0 := (by decide); have y9c6 : (1 : Int32).toInt = 1 := (by decide); skip; omega)⟩, by rw [ht]; exact hP, hD⟩, hS.F ht⟩) hS.2.2 dX11_write_15
set_option maxRecDepth 20000 in
theorem ggX11_copy_X11_isSheet : GoodIn wsX11_copy wsX11_isSheet := goodIn_r _ [5] rfl (by decide +kernel)
set_option maxRecDepth 20000 in
theorem gX11_copy_X11_isSheet : GoodIn wsX11_copy (va_wsS RX11 248 yX11_isSheet wsX11_isSheet) := goodIn_app (goodIn_of _ (by decide +kernel)) ggX11_copy_X11_isSheet
set_option maxRecDepth 20000 in
theorem ggX11_copy_X6_copyTo : GoodIn wsX11_copy wsX6_copyTo := goodIn_r _ [20, 21, 22, 23, 24, 25, 26, 13, 14, 9, 15, 16, 43, 44, 45] rfl (by decide +kernel)
set_option maxRecDepth 20000 in
theorem gX11_copy_X6_copyTo : GoodIn wsX11_copy (wsV RX11 347 RX6 yX6_copyTo wsX6_copyTo) := goodIn_app (goodIn_of _ (by decide +kernel)) ggX11_copy_X6_copyTo
set_option maxRecDepth 20000 in
theorem ggX11_copy_X6_hasRange : GoodIn wsX11_copy wsX6_hasRange := goodIn_r _ [15, 16, 43, 44, 45] rfl (by decide +kernel)
set_option maxRecDepth 20000 in
theorem gX11_copy_X6_hasRange : GoodIn wsX11_copy (wsV RX11 344 RX6 yX6_hasRange wsX6_hasRange) := goodIn_app (goodIn_of _ (by decide +kernel)) ggX11_copy_X6_hasRange
set_option maxRecDepth 20000 in
theorem ggX11_copy_X6_isMissing : GoodIn wsX11_copy wsX6_isMissing := goodIn_r _ [10, 11, 43, 44, 45] rfl (by decide +kernel)
set_option maxRecDepth 20000 in
theorem gX11_copy_X6_isMissing : GoodIn wsX11_copy (wsV RX11 251 RX6 yX6_isMissing wsX6_isMissing) := goodIn_app (goodIn_of _ (by decide +kernel)) ggX11_copy_X6_isMissing
theorem dX11_copy_0 : decode cX11_copy 0 = .ok (.iload_n 1, 1) := by decide +kernel
theorem dX11_copy_1 : decode cX11_copy 1 = .ok (.invokestatic 248, 3) := by decide +kernel
theorem dX11_copy_101 : decode cX11_copy 101 = .ok (.iload 5, 2) := by decide +kernel
theorem dX11_copy_103 : decode cX11_copy 103 = .ok (.invokevirtual 347, 3) := by decide +kernel
theorem dX11_copy_106 : decode cX11_copy 106 = .ok (.iload 5, 2) := by decide +kernel
theorem dX11_copy_108 : decode cX11_copy 108 = .ok (.ireturn, 1) := by decide +kernel
theorem dX11_copy_11 : decode cX11_copy 11 = .ok (.ifCond .ne 6, 3) := by decide +kernel
theorem dX11_copy_14 : decode cX11_copy 14 = .ok (.bipush (-2), 2) := by decide +kernel
theorem dX11_copy_16 : decode cX11_copy 16 = .ok (.ireturn, 1) := by decide +kernel
theorem dX11_copy_17 : decode cX11_copy 17 = .ok (.aload_n 0, 1) := by decide +kernel
theorem dX11_copy_18 : decode cX11_copy 18 = .ok (.getfield 75, 3) := by decide +kernel
theorem dX11_copy_21 : decode cX11_copy 21 = .ok (.iload_n 1, 1) := by decide +kernel
theorem dX11_copy_22 : decode cX11_copy 22 = .ok (.aaload, 1) := by decide +kernel
theorem dX11_copy_23 : decode cX11_copy 23 = .ok (.astore 6, 2) := by decide +kernel
theorem dX11_copy_25 : decode cX11_copy 25 = .ok (.aload_n 0, 1) := by decide +kernel
theorem dX11_copy_26 : decode cX11_copy 26 = .ok (.getfield 75, 3) := by decide +kernel
theorem dX11_copy_29 : decode cX11_copy 29 = .ok (.iload_n 3, 1) := by decide +kernel
theorem dX11_copy_30 : decode cX11_copy 30 = .ok (.aaload, 1) := by decide +kernel
theorem dX11_copy_31 : decode cX11_copy 31 = .ok (.astore 7, 2) := by decide +kernel
theorem dX11_copy_33 : decode cX11_copy 33 = .ok (.aload 6, 2) := by decide +kernel
theorem dX11_copy_35 : decode cX11_copy 35 = .ok (.invokevirtual 251, 3) := by decide +kernel
theorem dX11_copy_38 : decode cX11_copy 38 = .ok (.ifCond .ne 11, 3) := by decide +kernel
theorem dX11_copy_4 : decode cX11_copy 4 = .ok (.ifCond .eq 10, 3) := by decide +kernel
theorem dX11_copy_41 : decode cX11_copy 41 = .ok (.aload 7, 2) := by decide +kernel
theorem dX11_copy_43 : decode cX11_copy 43 = .ok (.invokevirtual 251, 3) := by decide +kernel
theorem dX11_copy_46 : decode cX11_copy 46 = .ok (.ifCond .eq 6, 3) := by decide +kernel
theorem dX11_copy_49 : decode cX11_copy 49 = .ok (.bipush (-11), 2) := by decide +kernel
theorem dX11_copy_51 : decode cX11_copy 51 = .ok (.ireturn, 1) := by decide +kernel
theorem dX11_copy_52 : decode cX11_copy 52 = .ok (.aload 6, 2) := by decide +kernel
theorem dX11_copy_54 : decode cX11_copy 54 = .ok (.getfield 240, 3) := by decide +kernel
theorem dX11_copy_57 : decode cX11_copy 57 = .ok (.aload 7, 2) := by decide +kernel
theorem dX11_copy_59 : decode cX11_copy 59 = .ok (.getfield 240, 3) := by decide +kernel
theorem dX11_copy_62 : decode cX11_copy 62 = .ok (.if_icmp .eq 6, 3) := by decide +kernel
theorem dX11_copy_65 : decode cX11_copy 65 = .ok (.bipush (-13), 2) := by decide +kernel
theorem dX11_copy_67 : decode cX11_copy 67 = .ok (.ireturn, 1) := by decide +kernel
theorem dX11_copy_68 : decode cX11_copy 68 = .ok (.aload 6, 2) := by decide +kernel
theorem dX11_copy_7 : decode cX11_copy 7 = .ok (.iload_n 3, 1) := by decide +kernel
theorem dX11_copy_70 : decode cX11_copy 70 = .ok (.iload_n 2, 1) := by decide +kernel
theorem dX11_copy_71 : decode cX11_copy 71 = .ok (.iload 5, 2) := by decide +kernel
theorem dX11_copy_73 : decode cX11_copy 73 = .ok (.invokevirtual 344, 3) := by decide +kernel
theorem dX11_copy_76 : decode cX11_copy 76 = .ok (.ifCond .eq 15, 3) := by decide +kernel
theorem dX11_copy_79 : decode cX11_copy 79 = .ok (.aload 7, 2) := by decide +kernel
theorem dX11_copy_8 : decode cX11_copy 8 = .ok (.invokestatic 248, 3) := by decide +kernel
theorem dX11_copy_81 : decode cX11_copy 81 = .ok (.iload 4, 2) := by decide +kernel
theorem dX11_copy_83 : decode cX11_copy 83 = .ok (.iload 5, 2) := by decide +kernel
theorem dX11_copy_85 : decode cX11_copy 85 = .ok (.invokevirtual 344, 3) := by decide +kernel
theorem dX11_copy_88 : decode cX11_copy 88 = .ok (.ifCond .ne 6, 3) := by decide +kernel
theorem dX11_copy_91 : decode cX11_copy 91 = .ok (.bipush (-12), 2) := by decide +kernel
theorem dX11_copy_93 : decode cX11_copy 93 = .ok (.ireturn, 1) := by decide +kernel
theorem dX11_copy_94 : decode cX11_copy 94 = .ok (.aload 6, 2) := by decide +kernel
theorem dX11_copy_96 : decode cX11_copy 96 = .ok (.iload_n 2, 1) := by decide +kernel
theorem dX11_copy_97 : decode cX11_copy 97 = .ok (.aload 7, 2) := by decide +kernel
theorem dX11_copy_99 : decode cX11_copy 99 = .ok (.iload 4, 2) := by decide +kernel
set_option maxHeartbeats 4000000 in
set_option maxRecDepth 100000 in
theorem k_X11_copy (l : Launch) (D : va_G) (cI cS : ClassId) (sz : Nat) (a : Nat → Nat) (na nc N : Nat) (L u0 : SU) (hL : TyX L) (hN : N = 0 ∨ N = 24576) (x0 x1 x2 x3 x4 : Int32) : Met l yX11_copy wsX11_copy ({ frames := 2, cells := 0, slots := 0, locals := 80 }) (PQ D cI cS (wX cI cS a na nc N L u0) sz [.ref (a 0), .int x0, .int x1, .int x2, .int x3, .int x4]) (QF (S := SU) D (wX cI cS a na nc N L u0) (wX cI cS a na nc N L) sz (fun r _ => Rg (-13) 40 r ∧ ((x0.toInt < 0 ∨ 3 < x0.toInt ∨ x2.toInt < 0 ∨ 3 < x2.toInt → r.toInt = -2) ∧ (0 ≤ x0.toInt → x0.toInt ≤ 3 → 0 ≤ x2.toInt → x2.toInt ≤ 3 → ((L (26 + 2 * x0.toNatClampNeg) 1).toInt = -1 ∨ (L (26 + 2 * x2.toNatClampNeg) 1).toInt = -1) → r.toInt = -11) ∧ (0 ≤ x0.toInt → x0.toInt ≤ 3 → 0 ≤ x2.toInt → x2.toInt ≤ 3 → ¬ (L (26 + 2 * x0.toNatClampNeg) 1).toInt = -1 → ¬ (L (26 + 2 * x2.toNatClampNeg) 1).toInt = -1 → ¬ (L (26 + 2 * x0.toNatClampNeg) 1).toInt = (L (26 + 2 * x2.toNatClampNeg) 1).toInt → r.toInt = -13) ∧ (0 ≤ x0.toInt → x0.toInt ≤ 3 → 0 ≤ x2.toInt → x2.toInt ≤ 3 → ¬ (L (26 + 2 * x0.toNatClampNeg) 1).toInt = -1 → ¬ (L (26 + 2 * x2.toNatClampNeg) 1).toInt = -1 → (L (26 + 2 * x0.toNatClampNeg) 1).toInt = (L (26 + 2 * x2.toNatClampNeg) 1).toInt → (x4.toInt < 0 ∨ x1.toInt < 0 ∨ x3.toInt < 0 ∨ (L (26 + 2 * x0.toNatClampNeg) 2).toInt < x1.toInt + x4.toInt ∨ (L (26 + 2 * x2.toNatClampNeg) 2).toInt < x3.toInt + x4.toInt) → r.toInt = -12) ∧ ((0 ≤ x0.toInt ∧ x0.toInt ≤ 3 ∧ 0 ≤ x2.toInt ∧ x2.toInt ≤ 3 ∧ ¬ (L (26 + 2 * x0.toNatClampNeg) 1).toInt = -1 ∧ ¬ (L (26 + 2 * x2.toNatClampNeg) 1).toInt = -1 ∧ (L (26 + 2 * x0.toNatClampNeg) 1).toInt = (L (26 + 2 * x2.toNatClampNeg) 1).toInt ∧ 0 ≤ x4.toInt ∧ 0 ≤ x1.toInt ∧ 0 ≤ x3.toInt ∧ x1.toInt + x4.toInt ≤ (L (26 + 2 * x0.toNatClampNeg) 2).toInt ∧ x3.toInt + x4.toInt ≤ (L (26 + 2 * x2.toNatClampNeg) 2).toInt) → r.toInt = x4.toInt)))) 0 0 (va_A (wX cI cS a na nc N L u0) sz) := by
  refine Met.ofW (cc := cX11_copy) (maxL := 8) (ret := (some .int)) (by decide) rfl ?_
  intro p e s m args below meth c s₁ B hml hv
  obtain ⟨rfl, hsz, hP, hKK, hD0⟩ := hv
  have hx := B.exec
  have hb := B.bytes
  have hr := B.returns
  have hts := atoms_spec (ws := wsX11_copy) B.pre
  have hown : s.vm.findClass RX11 = some m.cls := findClass_of_methodNamed B.named
  have hlocks := B.notSynchronized
  have hK := hKK.1
  have hin6 : ∀ w ∈ wsX60, w ∈ wsX11_copy := by decide +kernel
  have hin11 : ∀ w ∈ wsX110, w ∈ wsX11_copy := by decide +kernel
  subst hsz
  have hD := hD0.self (sz := s.heap.size)
  obtain ⟨A, hAe⟩ : ∃ A, A = va_A (wX cI cS a na nc N L u0) s.heap.size := ⟨_, rfl⟩
  rw [← hAe] at hD
  have hA : ∀ q : Nat, s.heap.size ≤ q → A q := fun q h => by rw [hAe]; exact Or.inr h
  have hS : va_S A s.heap s.heap [] := va_S.rf
  have hl := lv_entry ([.ref (a 0), .int x0, .int x1, .int x2, .int x3, .int x4]) (n := 8) (Nat.le_of_ble_eq_true rfl)
  rw [lg_entry_eq]
  generalize (lg_sl ([.ref (a 0), .int x0, .int x1, .int x2, .int x3, .int x4]) ++ List.replicate (8 - (lg_sl ([.ref (a 0), .int x0, .int x1, .int x2, .int x3, .int x4])).length) Slot.unset).toArray = ls at hl ⊢
  have hl : lv_has ls 8 [(0, .ref (a 0)), (1, .int x0), (2, .int x1), (3, .int x2), (4, .int x3), (5, .int x4)] := hl
  obtain ⟨u, hu9⟩ : ∃ u : SU, u = u0 := ⟨_, rfl⟩
  rw [← hu9] at hP hD
  refine lv_iload_n hx hb dX11_copy_0 rfl (lv_at hl 1 rfl) ?_
  refine lz_ss (As := [.int x0]) (rest := []) ⟨hx, hb, hml, hown, hts⟩ (k_X11_isSheet_z l D cI cS x0) hKK (hP.sub (ws' := []) [] rfl) (va_cwS 1 hts gX11_copy_X11_isSheet rfl rfl rfl (by decide +kernel) ⟨Nat.le_of_ble_eq_true rfl, Nat.le_of_ble_eq_true rfl⟩) rfl hl.1 rfl (Nat.le_of_ble_eq_true rfl) dX11_copy_1 ⟨Nat.le_of_ble_eq_true rfl, Nat.le_of_ble_eq_true rfl⟩ (fun r49967 hr49967 => ?_)
  refine lv_if_eq (tgt := 14) hx hb dX11_copy_4 (by decide) (fun c49968 => ?_) (fun c49968 => ?_)
  · have zt49969 : (x0.toInt < 0 ∨ 3 < x0.toInt) := hr49967.2.2 c49968
    have g49970 : Rg 0 0 r49967 := wk_eql hr49967.1 (by decide : Rg 0 0 (0 : Int32)) c49968 (by decide)
    refine lv_bipush (v := (-2)) hx hb dX11_copy_14 (by decide) ?_
    subst hAe
    exact W.iret (v := (-2)) hx hb hr (fun t ht hW => ⟨⟨_, u, rfl, ⟨(by decide : Rg (-13) 40 ((-2) : Int32)), (by have y90 : r49967.toInt = (0 : Int32).toInt := congrArg Int32.toInt c49968; have y91 : Rg 0 0 r49967 := g49970; have y9c2 : ((-2) : Int32).toInt = -2 := (by decide); have y9c3 : (0 : Int32).toInt = 0 := (by decide); have y9c4 : (1 : Int32).toInt = 1 := (by decide); skip; omega)⟩, by rw [ht]; exact hP, hD⟩, hS.F ht⟩) hS.2.2 dX11_copy_16
  · have g49971 : Rg 0 3 x0 := (hr49967.2.1 c49968)
    have g49972 : Rg 1 1 r49967 := rg_ne_lo (k := 0) hr49967.1 (by decide) c49968 (by decide)
    refine lv_iload_n hx hb dX11_copy_7 rfl (lv_at hl 3 rfl) ?_
    refine lz_ss (As := [.int x2]) (rest := []) ⟨hx, hb, hml, hown, hts⟩ (k_X11_isSheet_z l D cI cS x2) hKK (hP.sub (ws' := []) [] rfl) (va_cwS 1 hts gX11_copy_X11_isSheet rfl rfl rfl (by decide +kernel) ⟨Nat.le_of_ble_eq_true rfl, Nat.le_of_ble_eq_true rfl⟩) rfl hl.1 rfl (Nat.le_of_ble_eq_true rfl) dX11_copy_8 ⟨Nat.le_of_ble_eq_true rfl, Nat.le_of_ble_eq_true rfl⟩ (fun r49973 hr49973 => ?_)
    refine lv_if_ne (tgt := 17) hx hb dX11_copy_11 (by decide) (fun c49974 => ?_) (fun c49974 => ?_)
    · have g49975 : Rg 0 3 x2 := (hr49973.2.1 c49974)
      have g49976 : Rg 1 1 r49973 := rg_ne_lo (k := 0) hr49973.1 (by decide) c49974 (by decide)
      refine lv_aload_n hx hb dX11_copy_17 rfl (lv_at hl 0 rfl) ?_
      refine va_get (D := D) (ci := 11) (v := .ref (a 25)) (C := RX11) (T := TX11) (N := 16) hx hb hts hin11 hown hK hP 0 rfl rfl 12 (by decide) (hts (.fieldLink RX11 75 "MissedPoints" "sheets" "[LMissedPoints$Sheet;") (by decide +kernel)) (fun _ h9 => h9) rfl dX11_copy_18 ?_
      refine lv_iload_n hx hb dX11_copy_21 rfl (lv_at hl 1 rfl) ?_
      obtain ⟨q49977, hq49977, eq49977, zq49977⟩ := ks_sh (a := a) g49971
      refine va_aldq hx hb hK hP 25 1 rfl rfl (rg_in g49971 (by decide) (by decide)) dX11_copy_22 ?_
      refine lz_va (y := .ref (a (26 + 2 * q49977))) (by show va_rf _ = _; rw [zq49977]; rfl) ?_
      have esq49977_1 : (L (26 + 2 * x0.toNatClampNeg) 1).toInt = (L (26 + 2 * q49977) 1).toInt := by rw [eq49977]
      have esq49977_2 : (L (26 + 2 * x0.toNatClampNeg) 2).toInt = (L (26 + 2 * q49977) 2).toInt := by rw [eq49977]
      refine lv_astore (lv' := [(6, .ref (a (26 + 2 * q49977))), (0, .ref (a 0)), (1, .int x0), (2, .int x1), (3, .int x2), (4, .int x3), (5, .int x4)]) hx hb dX11_copy_23 hl (by decide) rfl (fun ls hl => ?_)
      refine lv_aload_n hx hb dX11_copy_25 rfl (lv_at hl 1 rfl) ?_
      refine va_get (D := D) (ci := 11) (v := .ref (a 25)) (C := RX11) (T := TX11) (N := 16) hx hb hts hin11 hown hK hP 0 rfl rfl 12 (by decide) (hts (.fieldLink RX11 75 "MissedPoints" "sheets" "[LMissedPoints$Sheet;") (by decide +kernel)) (fun _ h9 => h9) rfl dX11_copy_26 ?_
      refine lv_iload_n hx hb dX11_copy_29 rfl (lv_at hl 4 rfl) ?_
      obtain ⟨q49978, hq49978, eq49978, zq49978⟩ := ks_sh (a := a) g49975
      refine va_aldq hx hb hK hP 25 1 rfl rfl (rg_in g49975 (by decide) (by decide)) dX11_copy_30 ?_
      refine lz_va (y := .ref (a (26 + 2 * q49978))) (by show va_rf _ = _; rw [zq49978]; rfl) ?_
      have esq49978_1 : (L (26 + 2 * x2.toNatClampNeg) 1).toInt = (L (26 + 2 * q49978) 1).toInt := by rw [eq49978]
      have esq49978_2 : (L (26 + 2 * x2.toNatClampNeg) 2).toInt = (L (26 + 2 * q49978) 2).toInt := by rw [eq49978]
      refine lv_astore (lv' := [(7, .ref (a (26 + 2 * q49978))), (6, .ref (a (26 + 2 * q49977))), (0, .ref (a 0)), (1, .int x0), (2, .int x1), (3, .int x2), (4, .int x3), (5, .int x4)]) hx hb dX11_copy_31 hl (by decide) rfl (fun ls hl => ?_)
      refine lv_aload hx hb dX11_copy_33 (lv_at hl 1 rfl) ?_
      refine wk_sv (26 + 2 * q49977) (As := []) (rest := []) ⟨hx, hb, hml, hown, hts⟩ (k_X6_isMissing_z l D cI cS a na nc N L u hL hN q49977 hq49977) hKK hP (ci := 6) rfl (gx_sh hq49977) (cwV 0 hts gX11_copy_X6_isMissing rfl rfl rfl (by decide +kernel) ⟨Nat.le_of_ble_eq_true rfl, Nat.le_of_ble_eq_true rfl⟩) rfl hl.1 rfl (Nat.le_of_ble_eq_true rfl) dX11_copy_35 ⟨Nat.le_of_ble_eq_true rfl, Nat.le_of_ble_eq_true rfl⟩ (fun r49979 hr49979 => ?_)
      refine lv_if_ne (tgt := 49) hx hb dX11_copy_38 (by decide) (fun c49980 => ?_) (fun c49980 => ?_)
      · have zn49981 : (L (26 + 2 * q49977) 1).toInt = -1 := hr49979.2.1 c49980
        have g49982 : Rg 1 1 r49979 := rg_ne_lo (k := 0) hr49979.1 (by decide) c49980 (by decide)
        refine lv_bipush (v := (-11)) hx hb dX11_copy_49 (by decide) ?_
        subst hAe
        exact W.iret (v := (-11)) hx hb hr (fun t ht hW => ⟨⟨_, u, rfl, ⟨(by decide : Rg (-13) 40 ((-11) : Int32)), (by have y90 : ¬ r49967.toInt = (0 : Int32).toInt := fun z => c49968 (Int32.toInt_inj.mp z); have y91 : ¬ r49973.toInt = (0 : Int32).toInt := fun z => c49974 (Int32.toInt_inj.mp z); have y92 : ¬ r49979.toInt = (0 : Int32).toInt := fun z => c49980 (Int32.toInt_inj.mp z); have y93 : Rg 0 3 x0 := g49971; have y94 : Rg 1 1 r49967 := g49972; have y95 : Rg 0 3 x2 := g49975; have y96 : Rg 1 1 r49973 := g49976; have y97 : Rg 1 1 r49979 := g49982; have y98 : Rg 0 3 x0 := g49971; have y99 : Rg 0 3 x2 := g49975; have y9c10 : ((-11) : Int32).toInt = -11 := (by decide); have y9c11 : (0 : Int32).toInt = 0 := (by decide); have y9c12 : (1 : Int32).toInt = 1 := (by decide); skip; omega)⟩, by rw [ht]; exact hP, hD⟩, hS.F ht⟩) hS.2.2 dX11_copy_51
      · have zn49983 : ¬ (L (26 + 2 * q49977) 1).toInt = -1 := hr49979.2.2 c49980
        have g49984 : Rg 0 0 r49979 := wk_eql hr49979.1 (by decide : Rg 0 0 (0 : Int32)) c49980 (by decide)
        refine lv_aload hx hb dX11_copy_41 (lv_at hl 0 rfl) ?_
        refine wk_sv (26 + 2 * q49978) (As := []) (rest := []) ⟨hx, hb, hml, hown, hts⟩ (k_X6_isMissing_z l D cI cS a na nc N L u hL hN q49978 hq49978) hKK hP (ci := 6) rfl (gx_sh hq49978) (cwV 0 hts gX11_copy_X6_isMissing rfl rfl rfl (by decide +kernel) ⟨Nat.le_of_ble_eq_true rfl, Nat.le_of_ble_eq_true rfl⟩) rfl hl.1 rfl (Nat.le_of_ble_eq_true rfl) dX11_copy_43 ⟨Nat.le_of_ble_eq_true rfl, Nat.le_of_ble_eq_true rfl⟩ (fun r49985 hr49985 => ?_)
        refine lv_if_eq (tgt := 52) hx hb dX11_copy_46 (by decide) (fun c49986 => ?_) (fun c49986 => ?_)
        · have zn49987 : ¬ (L (26 + 2 * q49978) 1).toInt = -1 := hr49985.2.2 c49986
          have g49988 : Rg 0 0 r49985 := wk_eql hr49985.1 (by decide : Rg 0 0 (0 : Int32)) c49986 (by decide)
          refine lv_aload hx hb dX11_copy_52 (lv_at hl 1 rfl) ?_
          refine va_getN (D := D) (ci := 6) (v := .int ((L (26 + 2 * q49977) 1))) (C := RX6) (T := TX6) (N := 3) hx hb hts hin6 hown hK hP (26 + 2 * q49977) (gx_sh hq49977) rfl 1 (by decide) (va_Nw.use rfl hKK.2.2.2.2.2.2.2.1) (fun _ h9 => h9) rfl dX11_copy_54 ?_
          refine lv_aload hx hb dX11_copy_57 (lv_at hl 0 rfl) ?_
          refine va_getN (D := D) (ci := 6) (v := .int ((L (26 + 2 * q49978) 1))) (C := RX6) (T := TX6) (N := 3) hx hb hts hin6 hown hK hP (26 + 2 * q49978) (gx_sh hq49978) rfl 1 (by decide) (va_Nw.use rfl hKK.2.2.2.2.2.2.2.1) (fun _ h9 => h9) rfl dX11_copy_59 ?_
          refine lv_icmp_eq (tgt := 68) hx hb dX11_copy_62 (by decide) (fun c49989 => ?_) (fun c49989 => ?_)
          · refine lv_aload hx hb dX11_copy_68 (lv_at hl 1 rfl) ?_
            refine lv_iload_n hx hb dX11_copy_70 rfl (lv_at hl 4 rfl) ?_
            refine lv_iload hx hb dX11_copy_71 (lv_at hl 7 rfl) ?_
            refine wk_sv (26 + 2 * q49977) (As := [.int x1, .int x4]) (rest := []) ⟨hx, hb, hml, hown, hts⟩ (k_X6_hasRange_z l D cI cS a na nc N L u hL hN q49977 hq49977 x1 x4) hKK hP (ci := 6) rfl (gx_sh hq49977) (cwV 2 hts gX11_copy_X6_hasRange rfl rfl rfl (by decide +kernel) ⟨Nat.le_of_ble_eq_true rfl, Nat.le_of_ble_eq_true rfl⟩) rfl hl.1 rfl (Nat.le_of_ble_eq_true rfl) dX11_copy_73 ⟨Nat.le_of_ble_eq_true rfl, Nat.le_of_ble_eq_true rfl⟩ (fun r49990 hr49990 => ?_)
            refine lv_if_eq (tgt := 91) hx hb dX11_copy_76 (by decide) (fun c49991 => ?_) (fun c49991 => ?_)
            · have zn49992 : ¬ (0 ≤ x1.toInt ∧ 0 ≤ x4.toInt ∧ x1.toInt + x4.toInt ≤ (L (26 + 2 * q49977) 2).toInt) := hr49990.2.2.2 c49991
              have g49993 : Rg 0 0 r49990 := wk_eql hr49990.1 (by decide : Rg 0 0 (0 : Int32)) c49991 (by decide)
              refine lv_bipush (v := (-12)) hx hb dX11_copy_91 (by decide) ?_
              subst hAe
              exact W.iret (v := (-12)) hx hb hr (fun t ht hW => ⟨⟨_, u, rfl, ⟨(by decide : Rg (-13) 40 ((-12) : Int32)), (by have y90 : ¬ r49967.toInt = (0 : Int32).toInt := fun z => c49968 (Int32.toInt_inj.mp z); have y91 : ¬ r49973.toInt = (0 : Int32).toInt := fun z => c49974 (Int32.toInt_inj.mp z); have y92 : r49979.toInt = (0 : Int32).toInt := congrArg Int32.toInt c49980; have y93 : r49985.toInt = (0 : Int32).toInt := congrArg Int32.toInt c49986; have y94 : ((L (26 + 2 * q49977) 1)).toInt = ((L (26 + 2 * q49978) 1)).toInt := congrArg Int32.toInt c49989; have y95 : r49990.toInt = (0 : Int32).toInt := congrArg Int32.toInt c49991; have y96 : Rg 0 3 x0 := g49971; have y97 : Rg 1 1 r49967 := g49972; have y98 : Rg 0 3 x2 := g49975; have y99 : Rg 1 1 r49973 := g49976; have y910 : Rg 0 0 r49979 := g49984; have y911 : Rg 0 0 r49985 := g49988; have y912 : Rg 0 0 r49990 := g49993; have y913 : Rg 0 3 x0 := g49971; have y914 : Rg 0 3 x2 := g49975; have y9c15 : ((-12) : Int32).toInt = -12 := (by decide); have y9c16 : (0 : Int32).toInt = 0 := (by decide); have y9c17 : (1 : Int32).toInt = 1 := (by decide); skip; omega)⟩, by rw [ht]; exact hP, hD⟩, hS.F ht⟩) hS.2.2 dX11_copy_93
            · have g49994 : Rg 0 40 x1 := (hr49990.2.1 c49991).1
              have g49995 : Rg 0 40 x4 := (hr49990.2.1 c49991).2
              have zn49996 : (0 ≤ x1.toInt ∧ 0 ≤ x4.toInt ∧ x1.toInt + x4.toInt ≤ (L (26 + 2 * q49977) 2).toInt) := hr49990.2.2.1 c49991
              have g49997 : Rg 1 1 r49990 := rg_ne_lo (k := 0) hr49990.1 (by decide) c49991 (by decide)
              refine lv_aload hx hb dX11_copy_79 (lv_at hl 0 rfl) ?_
              refine lv_iload hx hb dX11_copy_81 (lv_at hl 6 rfl) ?_
              refine lv_iload hx hb dX11_copy_83 (lv_at hl 7 rfl) ?_
              refine wk_sv (26 + 2 * q49978) (As := [.int x3, .int x4]) (rest := []) ⟨hx, hb, hml, hown, hts⟩ (k_X6_hasRange_z l D cI cS a na nc N L u hL hN q49978 hq49978 x3 x4) hKK hP (ci := 6) rfl (gx_sh hq49978) (cwV 2 hts gX11_copy_X6_hasRange rfl rfl rfl (by decide +kernel) ⟨Nat.le_of_ble_eq_true rfl, Nat.le_of_ble_eq_true rfl⟩) rfl hl.1 rfl (Nat.le_of_ble_eq_true rfl) dX11_copy_85 ⟨Nat.le_of_ble_eq_true rfl, Nat.le_of_ble_eq_true rfl⟩ (fun r49998 hr49998 => ?_)
              refine lv_if_ne (tgt := 94) hx hb dX11_copy_88 (by decide) (fun c49999 => ?_) (fun c49999 => ?_)
              · have g50000 : Rg 0 40 x3 := (hr49998.2.1 c49999).1
                have zn50001 : (0 ≤ x3.toInt ∧ 0 ≤ x4.toInt ∧ x3.toInt + x4.toInt ≤ (L (26 + 2 * q49978) 2).toInt) := hr49998.2.2.1 c49999
                have g50002 : Rg 1 1 r49998 := rg_ne_lo (k := 0) hr49998.1 (by decide) c49999 (by decide)
                refine lv_aload hx hb dX11_copy_94 (lv_at hl 1 rfl) ?_
                refine lv_iload_n hx hb dX11_copy_96 rfl (lv_at hl 4 rfl) ?_
                refine lv_aload hx hb dX11_copy_97 (lv_at hl 0 rfl) ?_
                refine lv_iload hx hb dX11_copy_99 (lv_at hl 6 rfl) ?_
                refine lv_iload hx hb dX11_copy_101 (lv_at hl 7 rfl) ?_
                refine wk_qv (wX cI cS a na nc N L) u (As := [.int x1, .ref (a (26 + 2 * q49978)), .int x3, .int x4]) (rest := []) ⟨hx, hb, hml, hown, hts⟩ (k_X6_copyTo l D cI cS _ a na nc N L u hL hN q49977 hq49977 q49978 hq49978 x1 x3 x4) hKK hP hD hS hA (26 + 2 * q49977) (ci := 6) rfl (gx_sh hq49977) (cwV 4 hts gX11_copy_X6_copyTo rfl rfl rfl (by decide +kernel) ⟨Nat.le_of_ble_eq_true rfl, Nat.le_of_ble_eq_true rfl⟩) rfl hl.1 rfl (Nat.le_of_ble_eq_true rfl) dX11_copy_103 ⟨Nat.le_of_ble_eq_true rfl, Nat.le_of_ble_eq_true rfl⟩ (fun u H locs hr50003 hP hD hS => ?_)
                refine lv_iload hx hb dX11_copy_106 (lv_at hl 7 rfl) ?_
                subst hAe
                exact W.iret (v := x4) hx hb hr (fun t ht hW => ⟨⟨_, u, rfl, ⟨(show Rg (-13) 40 x4 from rg_w g49995 (by decide) (by decide)), (by have y90 : ¬ r49967.toInt = (0 : Int32).toInt := fun z => c49968 (Int32.toInt_inj.mp z); have y91 : ¬ r49973.toInt = (0 : Int32).toInt := fun z => c49974 (Int32.toInt_inj.mp z); have y92 : r49979.toInt = (0 : Int32).toInt := congrArg Int32.toInt c49980; have y93 : r49985.toInt = (0 : Int32).toInt := congrArg Int32.toInt c49986; have y94 : ((L (26 + 2 * q49977) 1)).toInt = ((L (26 + 2 * q49978) 1)).toInt := congrArg Int32.toInt c49989; have y95 : ¬ r49990.toInt = (0 : Int32).toInt := fun z => c49991 (Int32.toInt_inj.mp z); have y96 : ¬ r49998.toInt = (0 : Int32).toInt := fun z => c49999 (Int32.toInt_inj.mp z); have y97 : Rg 0 3 x0 := g49971; have y98 : Rg 1 1 r49967 := g49972; have y99 : Rg 0 3 x2 := g49975; have y910 : Rg 1 1 r49973 := g49976; have y911 : Rg 0 0 r49979 := g49984; have y912 : Rg 0 0 r49985 := g49988; have y913 : Rg 0 40 x1 := g49994; have y914 : Rg 0 40 x4 := g49995; have y915 : Rg 1 1 r49990 := g49997; have y916 : Rg 0 40 x3 := g50000; have y917 : Rg 1 1 r49998 := g50002; have y918 : Rg 0 3 x0 := g49971; have y919 : Rg 0 40 x1 := g49994; have y920 : Rg 0 3 x2 := g49975; have y921 : Rg 0 40 x3 := g50000; have y922 : Rg 0 40 x4 := g49995; have y923 : Rg 0 40 x4 := g49995; have y924 : Rg 0 40 x4 := g49995; have y9c25 : (0 : Int32).toInt = 0 := (by decide); have y9c26 : (1 : Int32).toInt = 1 := (by decide); skip; omega)⟩, by rw [ht]; exact hP, hD⟩, hS.F ht⟩) hS.2.2 dX11_copy_108
              · have zn50004 : ¬ (0 ≤ x3.toInt ∧ 0 ≤ x4.toInt ∧ x3.toInt + x4.toInt ≤ (L (26 + 2 * q49978) 2).toInt) := hr49998.2.2.2 c49999
                have g50005 : Rg 0 0 r49998 := wk_eql hr49998.1 (by decide : Rg 0 0 (0 : Int32)) c49999 (by decide)
                refine lv_bipush (v := (-12)) hx hb dX11_copy_91 (by decide) ?_
                subst hAe
                exact W.iret (v := (-12)) hx hb hr (fun t ht hW => ⟨⟨_, u, rfl, ⟨(by decide : Rg (-13) 40 ((-12) : Int32)), (by have y90 : ¬ r49967.toInt = (0 : Int32).toInt := fun z => c49968 (Int32.toInt_inj.mp z); have y91 : ¬ r49973.toInt = (0 : Int32).toInt := fun z => c49974 (Int32.toInt_inj.mp z); have y92 : r49979.toInt = (0 : Int32).toInt := congrArg Int32.toInt c49980; have y93 : r49985.toInt = (0 : Int32).toInt := congrArg Int32.toInt c49986; have y94 : ((L (26 + 2 * q49977) 1)).toInt = ((L (26 + 2 * q49978) 1)).toInt := congrArg Int32.toInt c49989; have y95 : ¬ r49990.toInt = (0 : Int32).toInt := fun z => c49991 (Int32.toInt_inj.mp z); have y96 : r49998.toInt = (0 : Int32).toInt := congrArg Int32.toInt c49999; have y97 : Rg 0 3 x0 := g49971; have y98 : Rg 1 1 r49967 := g49972; have y99 : Rg 0 3 x2 := g49975; have y910 : Rg 1 1 r49973 := g49976; have y911 : Rg 0 0 r49979 := g49984; have y912 : Rg 0 0 r49985 := g49988; have y913 : Rg 0 40 x1 := g49994; have y914 : Rg 0 40 x4 := g49995; have y915 : Rg 1 1 r49990 := g49997; have y916 : Rg 0 0 r49998 := g50005; have y917 : Rg 0 3 x0 := g49971; have y918 : Rg 0 40 x1 := g49994; have y919 : Rg 0 3 x2 := g49975; have y920 : Rg 0 40 x4 := g49995; have y9c21 : ((-12) : Int32).toInt = -12 := (by decide); have y9c22 : (0 : Int32).toInt = 0 := (by decide); have y9c23 : (1 : Int32).toInt = 1 := (by decide); skip; omega)⟩, by rw [ht]; exact hP, hD⟩, hS.F ht⟩) hS.2.2 dX11_copy_93
          · refine lv_bipush (v := (-13)) hx hb dX11_copy_65 (by decide) ?_
            subst hAe
            exact W.iret (v := (-13)) hx hb hr (fun t ht hW => ⟨⟨_, u, rfl, ⟨(by decide : Rg (-13) 40 ((-13) : Int32)), (by have y90 : ¬ r49967.toInt = (0 : Int32).toInt := fun z => c49968 (Int32.toInt_inj.mp z); have y91 : ¬ r49973.toInt = (0 : Int32).toInt := fun z => c49974 (Int32.toInt_inj.mp z); have y92 : r49979.toInt = (0 : Int32).toInt := congrArg Int32.toInt c49980; have y93 : r49985.toInt = (0 : Int32).toInt := congrArg Int32.toInt c49986; have y94 : ¬ ((L (26 + 2 * q49977) 1)).toInt = ((L (26 + 2 * q49978) 1)).toInt := fun z => c49989 (Int32.toInt_inj.mp z); have y95 : Rg 0 3 x0 := g49971; have y96 : Rg 1 1 r49967 := g49972; have y97 : Rg 0 3 x2 := g49975; have y98 : Rg 1 1 r49973 := g49976; have y99 : Rg 0 0 r49979 := g49984; have y910 : Rg 0 0 r49985 := g49988; have y911 : Rg 0 3 x0 := g49971; have y912 : Rg 0 3 x2 := g49975; have y9c13 : ((-13) : Int32).toInt = -13 := (by decide); have y9c14 : (0 : Int32).toInt = 0 := (by decide); have y9c15 : (1 : Int32).toInt = 1 := (by decide); skip; omega)⟩, by rw [ht]; exact hP, hD⟩, hS.F ht⟩) hS.2.2 dX11_copy_67
        · have zn50006 : (L (26 + 2 * q49978) 1).toInt = -1 := hr49985.2.1 c49986
          have g50007 : Rg 1 1 r49985 := rg_ne_lo (k := 0) hr49985.1 (by decide) c49986 (by decide)
          refine lv_bipush (v := (-11)) hx hb dX11_copy_49 (by decide) ?_
          subst hAe
          exact W.iret (v := (-11)) hx hb hr (fun t ht hW => ⟨⟨_, u, rfl, ⟨(by decide : Rg (-13) 40 ((-11) : Int32)), (by have y90 : ¬ r49967.toInt = (0 : Int32).toInt := fun z => c49968 (Int32.toInt_inj.mp z); have y91 : ¬ r49973.toInt = (0 : Int32).toInt := fun z => c49974 (Int32.toInt_inj.mp z); have y92 : r49979.toInt = (0 : Int32).toInt := congrArg Int32.toInt c49980; have y93 : ¬ r49985.toInt = (0 : Int32).toInt := fun z => c49986 (Int32.toInt_inj.mp z); have y94 : Rg 0 3 x0 := g49971; have y95 : Rg 1 1 r49967 := g49972; have y96 : Rg 0 3 x2 := g49975; have y97 : Rg 1 1 r49973 := g49976; have y98 : Rg 0 0 r49979 := g49984; have y99 : Rg 1 1 r49985 := g50007; have y910 : Rg 0 3 x0 := g49971; have y911 : Rg 0 3 x2 := g49975; have y9c12 : ((-11) : Int32).toInt = -11 := (by decide); have y9c13 : (0 : Int32).toInt = 0 := (by decide); have y9c14 : (1 : Int32).toInt = 1 := (by decide); skip; omega)⟩, by rw [ht]; exact hP, hD⟩, hS.F ht⟩) hS.2.2 dX11_copy_51
    · have zt50008 : (x2.toInt < 0 ∨ 3 < x2.toInt) := hr49973.2.2 c49974
      have g50009 : Rg 0 0 r49973 := wk_eql hr49973.1 (by decide : Rg 0 0 (0 : Int32)) c49974 (by decide)
      refine lv_bipush (v := (-2)) hx hb dX11_copy_14 (by decide) ?_
      subst hAe
      exact W.iret (v := (-2)) hx hb hr (fun t ht hW => ⟨⟨_, u, rfl, ⟨(by decide : Rg (-13) 40 ((-2) : Int32)), (by have y90 : ¬ r49967.toInt = (0 : Int32).toInt := fun z => c49968 (Int32.toInt_inj.mp z); have y91 : r49973.toInt = (0 : Int32).toInt := congrArg Int32.toInt c49974; have y92 : Rg 0 3 x0 := g49971; have y93 : Rg 1 1 r49967 := g49972; have y94 : Rg 0 0 r49973 := g50009; have y95 : Rg 0 3 x0 := g49971; have y9c6 : ((-2) : Int32).toInt = -2 := (by decide); have y9c7 : (0 : Int32).toInt = 0 := (by decide); have y9c8 : (1 : Int32).toInt = 1 := (by decide); skip; omega)⟩, by rw [ht]; exact hP, hD⟩, hS.F ht⟩) hS.2.2 dX11_copy_16
