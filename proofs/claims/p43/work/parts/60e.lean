set_option maxRecDepth 20000 in
theorem ggX11_grow_X11_refusalOfTold : GoodIn wsX11_grow wsX11_refusalOfTold := goodIn_r _ [7, 1, 2, 8, 9, 10, 6, 11, 12, 13, 14, 15, 16, 17, 18, 19, 20, 21, 22, 23, 24, 25, 26, 27, 28, 29, 30, 31, 32, 33, 34, 35, 36, 37, 38, 39, 40, 41, 42, 43, 44, 45, 46, 47, 48, 49, 50, 51, 52, 154, 155, 156, 157, 158, 159, 160, 161, 162, 163, 164, 165, 166, 167, 168, 169, 170, 171, 172, 173, 174, 175, 176, 177, 178, 179, 180, 181] rfl (by decide +kernel)
set_option maxRecDepth 20000 in
theorem gX11_grow_X11_refusalOfTold : GoodIn wsX11_grow (wsV RX11 225 RX11 yX11_refusalOfTold wsX11_refusalOfTold) := goodIn_app (goodIn_of _ (by decide +kernel)) ggX11_grow_X11_refusalOfTold
set_option maxRecDepth 20000 in
theorem ggX11_grow_X9_lineCount : GoodIn wsX11_grow wsX9_lineCount := goodIn_r _ [62, 26, 63, 64, 65, 24, 66, 27, 67, 68, 69, 70, 71, 72, 73, 173, 174, 175, 176, 177, 178, 179, 180, 181] rfl (by decide +kernel)
set_option maxRecDepth 20000 in
theorem gX11_grow_X9_lineCount : GoodIn wsX11_grow (wsV RX11 247 RX9 yX9_lineCount wsX9_lineCount) := goodIn_app (goodIn_of _ (by decide +kernel)) ggX11_grow_X9_lineCount
set_option maxRecDepth 20000 in
theorem ggX11_grow_X9_seekWay : GoodIn wsX11_grow wsX9_seekWay := goodIn_r _ [56, 57, 58, 26, 59, 60, 61, 24, 62, 63, 64, 65, 66, 27, 67, 68, 69, 70, 71, 72, 73, 74, 75, 76, 41, 77, 52, 78, 79, 80, 81, 82, 83, 84, 85, 86, 87, 88, 89, 90, 91, 92, 93, 94, 95, 96, 97, 98, 99, 100, 101, 102, 103, 104, 105, 106, 107, 108, 109, 110, 111, 112, 113, 114, 115, 116, 117, 118, 119, 120, 121, 122, 123, 124, 125, 126, 127, 128, 43, 48, 49, 50, 51, 173, 174, 175, 176, 177, 178, 179, 180, 181, 182, 183, 184, 185, 186, 187] rfl (by decide +kernel)
set_option maxRecDepth 20000 in
theorem gX11_grow_X9_seekWay : GoodIn wsX11_grow (wsV RX11 231 RX9 yX9_seekWay wsX9_seekWay) := goodIn_app (goodIn_of _ (by decide +kernel)) ggX11_grow_X9_seekWay
set_option maxRecDepth 20000 in
theorem ggX11_grow_X9_turnWay : GoodIn wsX11_grow wsX9_turnWay := goodIn_r _ [132, 57, 120, 26, 27, 133, 45, 46, 41, 47, 48, 49, 50, 51, 52, 173, 174, 175, 176, 177, 178, 179, 180, 181] rfl (by decide +kernel)
set_option maxRecDepth 20000 in
theorem gX11_grow_X9_turnWay : GoodIn wsX11_grow (wsV RX11 237 RX9 yX9_turnWay wsX9_turnWay) := goodIn_app (goodIn_of _ (by decide +kernel)) ggX11_grow_X9_turnWay
set_option maxRecDepth 20000 in
theorem ggX11_grow_X9_writeTo : GoodIn wsX11_grow wsX9_writeTo := goodIn_r _ [137, 26, 27, 138, 139, 140, 18, 141, 20, 142, 143, 144, 145, 146, 147, 148, 37, 32, 149, 150, 151, 152, 33, 34, 35, 36, 173, 174, 175, 176, 177, 178, 179, 180, 181, 170, 171, 172] rfl (by decide +kernel)
set_option maxRecDepth 20000 in
theorem gX11_grow_X9_writeTo : GoodIn wsX11_grow (wsV RX11 243 RX9 yX9_writeTo wsX9_writeTo) := goodIn_app (goodIn_of _ (by decide +kernel)) ggX11_grow_X9_writeTo
theorem dX11_grow_0 : decode cX11_grow 0 = .ok (.aload_n 0, 1) := by decide +kernel
theorem dX11_grow_1 : decode cX11_grow 1 = .ok (.iload_n 1, 1) := by decide +kernel
theorem dX11_grow_10 : decode cX11_grow 10 = .ok (.iload_n 2, 1) := by decide +kernel
theorem dX11_grow_11 : decode cX11_grow 11 = .ok (.ireturn, 1) := by decide +kernel
theorem dX11_grow_12 : decode cX11_grow 12 = .ok (.aload_n 0, 1) := by decide +kernel
theorem dX11_grow_13 : decode cX11_grow 13 = .ok (.getfield 82, 3) := by decide +kernel
theorem dX11_grow_16 : decode cX11_grow 16 = .ok (.invokevirtual 231, 3) := by decide +kernel
theorem dX11_grow_19 : decode cX11_grow 19 = .ok (.ifCond .ne 5, 3) := by decide +kernel
theorem dX11_grow_2 : decode cX11_grow 2 = .ok (.invokevirtual 225, 3) := by decide +kernel
theorem dX11_grow_22 : decode cX11_grow 22 = .ok (.iconst (-1), 1) := by decide +kernel
theorem dX11_grow_23 : decode cX11_grow 23 = .ok (.ireturn, 1) := by decide +kernel
theorem dX11_grow_24 : decode cX11_grow 24 = .ok (.aload_n 0, 1) := by decide +kernel
theorem dX11_grow_25 : decode cX11_grow 25 = .ok (.getfield 82, 3) := by decide +kernel
theorem dX11_grow_28 : decode cX11_grow 28 = .ok (.invokevirtual 237, 3) := by decide +kernel
theorem dX11_grow_31 : decode cX11_grow 31 = .ok (.aload_n 0, 1) := by decide +kernel
theorem dX11_grow_32 : decode cX11_grow 32 = .ok (.getfield 82, 3) := by decide +kernel
theorem dX11_grow_35 : decode cX11_grow 35 = .ok (.aload_n 0, 1) := by decide +kernel
theorem dX11_grow_36 : decode cX11_grow 36 = .ok (.getfield 75, 3) := by decide +kernel
theorem dX11_grow_39 : decode cX11_grow 39 = .ok (.iload_n 1, 1) := by decide +kernel
theorem dX11_grow_40 : decode cX11_grow 40 = .ok (.aaload, 1) := by decide +kernel
theorem dX11_grow_41 : decode cX11_grow 41 = .ok (.aload_n 0, 1) := by decide +kernel
theorem dX11_grow_42 : decode cX11_grow 42 = .ok (.getfield 75, 3) := by decide +kernel
theorem dX11_grow_45 : decode cX11_grow 45 = .ok (.iload_n 1, 1) := by decide +kernel
theorem dX11_grow_46 : decode cX11_grow 46 = .ok (.aaload, 1) := by decide +kernel
theorem dX11_grow_47 : decode cX11_grow 47 = .ok (.getfield 240, 3) := by decide +kernel
theorem dX11_grow_5 : decode cX11_grow 5 = .ok (.istore_n 2, 1) := by decide +kernel
theorem dX11_grow_50 : decode cX11_grow 50 = .ok (.invokevirtual 243, 3) := by decide +kernel
theorem dX11_grow_53 : decode cX11_grow 53 = .ok (.aload_n 0, 1) := by decide +kernel
theorem dX11_grow_54 : decode cX11_grow 54 = .ok (.getfield 82, 3) := by decide +kernel
theorem dX11_grow_57 : decode cX11_grow 57 = .ok (.invokevirtual 247, 3) := by decide +kernel
theorem dX11_grow_6 : decode cX11_grow 6 = .ok (.iload_n 2, 1) := by decide +kernel
theorem dX11_grow_60 : decode cX11_grow 60 = .ok (.ireturn, 1) := by decide +kernel
theorem dX11_grow_7 : decode cX11_grow 7 = .ok (.ifCond .eq 5, 3) := by decide +kernel
set_option maxHeartbeats 4000000 in
set_option maxRecDepth 100000 in
theorem k_X11_grow (l : Launch) (D : va_G) (cI cS : ClassId) (sz : Nat) (a : Nat → Nat) (na nc N : Nat) (l_s l_t l_i l_kp l_iz l_z l_tp l_o0 l_o1 l_o2 l_o3 l_n0 l_n1 l_n2 l_n3 : Int32) (u0 : SU) (hL : TyX (mkL l_s l_t l_i l_kp l_iz l_z l_tp l_o0 l_o1 l_o2 l_o3 l_n0 l_n1 l_n2 l_n3)) (hN : N = 0 ∨ N = 24576) (x0 : Int32) : Met l yX11_grow wsX11_grow ({ frames := 17, cells := 0, slots := 0, locals := 680 }) (PQ D cI cS (wX cI cS a na nc N (mkL l_s l_t l_i l_kp l_iz l_z l_tp l_o0 l_o1 l_o2 l_o3 l_n0 l_n1 l_n2 l_n3) u0) sz [.ref (a 0), .int x0]) (QF (S := Int32 × Int32 × Int32 × Int32 × Int32 × Int32 × Int32 × Int32 × SU) D (wX cI cS a na nc N (mkL l_s l_t l_i l_kp l_iz l_z l_tp l_o0 l_o1 l_o2 l_o3 l_n0 l_n1 l_n2 l_n3) u0) (fun q => wX cI cS a na nc N (mkL l_s l_t l_i l_kp l_iz l_z l_tp q.1 q.2.1 q.2.2.1 q.2.2.2.1 q.2.2.2.2.1 q.2.2.2.2.2.1 q.2.2.2.2.2.2.1 q.2.2.2.2.2.2.2.1) q.2.2.2.2.2.2.2.2) sz (fun r q => Rg (-2147483648) 2147483647 r ∧ Rg 0 40 q.2.2.2.2.1 ∧ Rg 0 40 q.2.2.2.2.2.1 ∧ Rg 0 40 q.2.2.2.2.2.2.1 ∧ Rg 0 40 q.2.2.2.2.2.2.2.1 ∧ (q.1.toInt = l_o0.toInt ∧ q.2.2.2.2.1.toInt = l_n0.toInt) ∧ (q.2.1.toInt = l_o1.toInt ∧ q.2.2.2.2.2.1.toInt = l_n1.toInt) ∧ (q.2.2.1.toInt = l_o2.toInt ∧ q.2.2.2.2.2.2.1.toInt = l_n2.toInt) ∧ (q.2.2.2.1.toInt = l_o3.toInt ∧ q.2.2.2.2.2.2.2.1.toInt = l_n3.toInt))) 0 0 (va_A (wX cI cS a na nc N (mkL l_s l_t l_i l_kp l_iz l_z l_tp l_o0 l_o1 l_o2 l_o3 l_n0 l_n1 l_n2 l_n3) u0) sz) := by
  refine Met.ofW (cc := cX11_grow) (maxL := 3) (ret := (some .int)) (by decide) rfl ?_
  intro p e s m args below meth c s₁ B hml hv
  obtain ⟨rfl, hsz, hP, hKK, hD0⟩ := hv
  have hx := B.exec
  have hb := B.bytes
  have hr := B.returns
  have hts := atoms_spec (ws := wsX11_grow) B.pre
  have hown : s.vm.findClass RX11 = some m.cls := findClass_of_methodNamed B.named
  have hlocks := B.notSynchronized
  have hK := hKK.1
  have hin6 : ∀ w ∈ wsX60, w ∈ wsX11_grow := by decide +kernel
  have hin11 : ∀ w ∈ wsX110, w ∈ wsX11_grow := by decide +kernel
  subst hsz
  have hD := hD0.self (sz := s.heap.size)
  obtain ⟨A, hAe⟩ : ∃ A, A = va_A (wX cI cS a na nc N (mkL l_s l_t l_i l_kp l_iz l_z l_tp l_o0 l_o1 l_o2 l_o3 l_n0 l_n1 l_n2 l_n3) u0) s.heap.size := ⟨_, rfl⟩
  rw [← hAe] at hD
  have hA : ∀ q : Nat, s.heap.size ≤ q → A q := fun q h => by rw [hAe]; exact Or.inr h
  have hS : va_S A s.heap s.heap [] := va_S.rf
  have hl := lv_entry ([.ref (a 0), .int x0]) (n := 3) (Nat.le_of_ble_eq_true rfl)
  rw [lg_entry_eq]
  generalize (lg_sl ([.ref (a 0), .int x0]) ++ List.replicate (3 - (lg_sl ([.ref (a 0), .int x0])).length) Slot.unset).toArray = ls at hl ⊢
  have hl : lv_has ls 3 [(0, .ref (a 0)), (1, .int x0)] := hl
  obtain ⟨u, hu9⟩ : ∃ u : SU, u = u0 := ⟨_, rfl⟩
  rw [← hu9] at hP hD
  have p_s : Rg 0 12 l_s := hL.1
  have p_t : Rg 0 12 l_t := hL.2.1
  have p_i : Rg 0 12 l_i := hL.2.2.1
  have p_tp : Rg 0 120 l_tp := hL.2.2.2.1
  have p_n0 : Rg 0 40 l_n0 := hL.2.2.2.2.1
  have p_n1 : Rg 0 40 l_n1 := hL.2.2.2.2.2.1
  have p_n2 : Rg 0 40 l_n2 := hL.2.2.2.2.2.2.1
  have p_n3 : Rg 0 40 l_n3 := hL.2.2.2.2.2.2.2
  refine lv_aload_n hx hb dX11_grow_0 rfl (lv_at hl 0 rfl) ?_
  refine lv_iload_n hx hb dX11_grow_1 rfl (lv_at hl 1 rfl) ?_
  refine wk_qi (wX cI cS a na nc N (mkL l_s l_t l_i l_kp l_iz l_z l_tp l_o0 l_o1 l_o2 l_o3 l_n0 l_n1 l_n2 l_n3)) u (As := [.int x0]) (rest := []) ⟨hx, hb, hml, hown, hts⟩ (k_X11_refusalOfTold_z l D cI cS _ a na nc N (mkL l_s l_t l_i l_kp l_iz l_z l_tp l_o0 l_o1 l_o2 l_o3 l_n0 l_n1 l_n2 l_n3) u (show TyX (mkL l_s l_t l_i l_kp l_iz l_z l_tp l_o0 l_o1 l_o2 l_o3 l_n0 l_n1 l_n2 l_n3) from ⟨p_s, p_t, p_i, p_tp, p_n0, p_n1, p_n2, p_n3⟩) hN x0) hKK hP hD hS hA 0 (ci := 11) rfl rfl (cwV 1 hts gX11_grow_X11_refusalOfTold rfl rfl rfl (by decide +kernel) ⟨Nat.le_of_ble_eq_true rfl, Nat.le_of_ble_eq_true rfl⟩) rfl hl.1 rfl (Nat.le_of_ble_eq_true rfl) dX11_grow_2 ⟨Nat.le_of_ble_eq_true rfl, Nat.le_of_ble_eq_true rfl⟩ (fun r51921 u H locs hr51921 hP hD hS => ?_)
  refine lv_istore_n (lv' := [(2, .int r51921), (0, .ref (a 0)), (1, .int x0)]) hx hb dX11_grow_5 rfl hl (by decide) rfl (fun ls hl => ?_)
  refine lv_iload_n hx hb dX11_grow_6 rfl (lv_at hl 0 rfl) ?_
  refine lv_if_eq (tgt := 12) hx hb dX11_grow_7 (by decide) (fun c51922 => ?_) (fun c51922 => ?_)
  · have g51923 : Rg 0 3 x0 := (hr51921.2.1 c51922)
    have zt51924 : (((mkL l_s l_t l_i l_kp l_iz l_z l_tp l_o0 l_o1 l_o2 l_o3 l_n0 l_n1 l_n2 l_n3) (26 + 2 * x0.toNatClampNeg) 2).toInt = l_s.toInt) := hr51921.2.2 c51922
    have g51925 : Rg 0 0 r51921 := wk_eql hr51921.1 (by decide : Rg 0 0 (0 : Int32)) c51922 (by decide)
    refine lv_aload_n hx hb dX11_grow_12 rfl (lv_at hl 1 rfl) ?_
    refine va_get (D := D) (ci := 11) (v := .ref (a 34)) (C := RX11) (T := TX11) (N := 16) hx hb hts hin11 hown hK hP 0 rfl rfl 13 (by decide) (hts (.fieldLink RX11 82 "MissedPoints" "told" "LMissedPoints$Told;") (by decide +kernel)) (fun _ h9 => h9) rfl dX11_grow_13 ?_
    refine wk_qi (wX cI cS a na nc N (mkL l_s l_t l_i l_kp l_iz l_z l_tp l_o0 l_o1 l_o2 l_o3 l_n0 l_n1 l_n2 l_n3)) u (As := []) (rest := []) ⟨hx, hb, hml, hown, hts⟩ (k_X9_seekWay l D cI cS _ a na nc N (mkL l_s l_t l_i l_kp l_iz l_z l_tp l_o0 l_o1 l_o2 l_o3 l_n0 l_n1 l_n2 l_n3) u (show TyX (mkL l_s l_t l_i l_kp l_iz l_z l_tp l_o0 l_o1 l_o2 l_o3 l_n0 l_n1 l_n2 l_n3) from ⟨p_s, p_t, p_i, p_tp, p_n0, p_n1, p_n2, p_n3⟩) hN) hKK hP hD hS hA 34 (ci := 9) rfl rfl (cwV 0 hts gX11_grow_X9_seekWay rfl rfl rfl (by decide +kernel) ⟨Nat.le_of_ble_eq_true rfl, Nat.le_of_ble_eq_true rfl⟩) rfl hl.1 rfl (Nat.le_of_ble_eq_true rfl) dX11_grow_16 ⟨Nat.le_of_ble_eq_true rfl, Nat.le_of_ble_eq_true rfl⟩ (fun r51926 u H locs hr51926 hP hD hS => ?_)
    refine lv_if_ne (tgt := 24) hx hb dX11_grow_19 (by decide) (fun c51927 => ?_) (fun c51927 => ?_)
    · refine lv_aload_n hx hb dX11_grow_24 rfl (lv_at hl 1 rfl) ?_
      refine va_get (D := D) (ci := 11) (v := .ref (a 34)) (C := RX11) (T := TX11) (N := 16) hx hb hts hin11 hown hK hP 0 rfl rfl 13 (by decide) (hts (.fieldLink RX11 82 "MissedPoints" "told" "LMissedPoints$Told;") (by decide +kernel)) (fun _ h9 => h9) rfl dX11_grow_25 ?_
      refine wk_qv (wX cI cS a na nc N (mkL l_s l_t l_i l_kp l_iz l_z l_tp l_o0 l_o1 l_o2 l_o3 l_n0 l_n1 l_n2 l_n3)) u (As := []) (rest := []) ⟨hx, hb, hml, hown, hts⟩ (k_X9_turnWay l D cI cS _ a na nc N (mkL l_s l_t l_i l_kp l_iz l_z l_tp l_o0 l_o1 l_o2 l_o3 l_n0 l_n1 l_n2 l_n3) u (show TyX (mkL l_s l_t l_i l_kp l_iz l_z l_tp l_o0 l_o1 l_o2 l_o3 l_n0 l_n1 l_n2 l_n3) from ⟨p_s, p_t, p_i, p_tp, p_n0, p_n1, p_n2, p_n3⟩) hN) hKK hP hD hS hA 34 (ci := 9) rfl rfl (cwV 0 hts gX11_grow_X9_turnWay rfl rfl rfl (by decide +kernel) ⟨Nat.le_of_ble_eq_true rfl, Nat.le_of_ble_eq_true rfl⟩) rfl hl.1 rfl (Nat.le_of_ble_eq_true rfl) dX11_grow_28 ⟨Nat.le_of_ble_eq_true rfl, Nat.le_of_ble_eq_true rfl⟩ (fun u H locs hr51928 hP hD hS => ?_)
      refine lv_aload_n hx hb dX11_grow_31 rfl (lv_at hl 1 rfl) ?_
      refine va_get (D := D) (ci := 11) (v := .ref (a 34)) (C := RX11) (T := TX11) (N := 16) hx hb hts hin11 hown hK hP 0 rfl rfl 13 (by decide) (hts (.fieldLink RX11 82 "MissedPoints" "told" "LMissedPoints$Told;") (by decide +kernel)) (fun _ h9 => h9) rfl dX11_grow_32 ?_
      refine lv_aload_n hx hb dX11_grow_35 rfl (lv_at hl 1 rfl) ?_
      refine va_get (D := D) (ci := 11) (v := .ref (a 25)) (C := RX11) (T := TX11) (N := 16) hx hb hts hin11 hown hK hP 0 rfl rfl 12 (by decide) (hts (.fieldLink RX11 75 "MissedPoints" "sheets" "[LMissedPoints$Sheet;") (by decide +kernel)) (fun _ h9 => h9) rfl dX11_grow_36 ?_
      refine lv_iload_n hx hb dX11_grow_39 rfl (lv_at hl 2 rfl) ?_
      by_cases k51929 : x0 = 0
      · refine va_aldq hx hb hK hP 25 1 rfl rfl (rg_in g51923 (by decide) (by decide)) dX11_grow_40 ?_
        refine lz_va (y := .ref (a 26)) (by rw [k51929]; rfl) ?_
        have sj : l_n0.toInt = l_s.toInt := by have z := zt51924; rw [k51929] at z; exact z
        refine lv_aload_n hx hb dX11_grow_41 rfl (lv_at hl 1 rfl) ?_
        refine va_get (D := D) (ci := 11) (v := .ref (a 25)) (C := RX11) (T := TX11) (N := 16) hx hb hts hin11 hown hK hP 0 rfl rfl 12 (by decide) (hts (.fieldLink RX11 75 "MissedPoints" "sheets" "[LMissedPoints$Sheet;") (by decide +kernel)) (fun _ h9 => h9) rfl dX11_grow_42 ?_
        refine lv_iload_n hx hb dX11_grow_45 rfl (lv_at hl 2 rfl) ?_
        refine va_aldq hx hb hK hP 25 1 rfl rfl (rg_in g51923 (by decide) (by decide)) dX11_grow_46 ?_
        refine lz_va (y := .ref (a 26)) (by rw [k51929]; rfl) ?_
        have sj : l_n0.toInt = l_s.toInt := by have z := zt51924; rw [k51929] at z; exact z
        refine va_getN (D := D) (ci := 6) (v := .int l_o0) (C := RX6) (T := TX6) (N := 3) hx hb hts hin6 hown hK hP 26 rfl rfl 1 (by decide) (va_Nw.use rfl hKK.2.2.2.2.2.2.2.1) (fun _ h9 => h9) rfl dX11_grow_47 ?_
        refine wk_qv (S := Int32 × Int32 × SU) (fun q => wX cI cS a na nc N (mkL l_s l_t l_i l_kp l_iz l_z l_tp q.1 l_o1 l_o2 l_o3 q.2.1 l_n1 l_n2 l_n3) q.2.2) (l_o0, l_n0, u) (As := [.ref (a 26), .int l_o0]) (rest := []) ⟨hx, hb, hml, hown, hts⟩ (k_X9_writeTo_0 l D cI cS _ a na nc N l_s l_t l_i l_kp l_iz l_z l_tp l_o0 l_o1 l_o2 l_o3 l_n0 l_n1 l_n2 l_n3 u (show TyX (mkL l_s l_t l_i l_kp l_iz l_z l_tp l_o0 l_o1 l_o2 l_o3 l_n0 l_n1 l_n2 l_n3) from ⟨p_s, p_t, p_i, p_tp, p_n0, p_n1, p_n2, p_n3⟩) hN l_o0) hKK hP hD hS hA 34 (ci := 9) rfl rfl (cwV 2 hts gX11_grow_X9_writeTo rfl rfl rfl (by decide +kernel) ⟨Nat.le_of_ble_eq_true rfl, Nat.le_of_ble_eq_true rfl⟩) rfl hl.1 rfl (Nat.le_of_ble_eq_true rfl) dX11_grow_50 ⟨Nat.le_of_ble_eq_true rfl, Nat.le_of_ble_eq_true rfl⟩ (fun q9 H locs hr51930 hP hD hS => ?_)
        obtain ⟨r51931, r51932, u⟩ := q9
        have hr51930 : Rg 0 40 r51932 ∧ (r51931.toInt = l_o0.toInt ∧ r51932.toInt = l_s.toInt) := hr51930
        have hP : va_P D cls (wX cI cS a na nc N (mkL l_s l_t l_i l_kp l_iz l_z l_tp r51931 l_o1 l_o2 l_o3 r51932 l_n1 l_n2 l_n3) u) H := hP
        have hD : va_D A (wX cI cS a na nc N (mkL l_s l_t l_i l_kp l_iz l_z l_tp r51931 l_o1 l_o2 l_o3 r51932 l_n1 l_n2 l_n3) u) := hD
        have kr51930_0 := hr51930.2
        refine lv_aload_n hx hb dX11_grow_53 rfl (lv_at hl 1 rfl) ?_
        refine va_get (D := D) (ci := 11) (v := .ref (a 34)) (C := RX11) (T := TX11) (N := 16) hx hb hts hin11 hown hK hP 0 rfl rfl 13 (by decide) (hts (.fieldLink RX11 82 "MissedPoints" "told" "LMissedPoints$Told;") (by decide +kernel)) (fun _ h9 => h9) rfl dX11_grow_54 ?_
        refine wk_sv 34 (As := []) (rest := []) ⟨hx, hb, hml, hown, hts⟩ (k_X9_lineCount l D cI cS a na nc N (mkL l_s l_t l_i l_kp l_iz l_z l_tp r51931 l_o1 l_o2 l_o3 r51932 l_n1 l_n2 l_n3) u (show TyX (mkL l_s l_t l_i l_kp l_iz l_z l_tp r51931 l_o1 l_o2 l_o3 r51932 l_n1 l_n2 l_n3) from ⟨p_s, p_t, p_i, p_tp, hr51930.1, p_n1, p_n2, p_n3⟩) hN) hKK hP (ci := 9) rfl rfl (cwV 0 hts gX11_grow_X9_lineCount rfl rfl rfl (by decide +kernel) ⟨Nat.le_of_ble_eq_true rfl, Nat.le_of_ble_eq_true rfl⟩) rfl hl.1 rfl (Nat.le_of_ble_eq_true rfl) dX11_grow_57 ⟨Nat.le_of_ble_eq_true rfl, Nat.le_of_ble_eq_true rfl⟩ (fun r51933 hr51933 => ?_)
        subst hAe
        exact W.iret (v := r51933) hx hb hr (fun t ht hW => ⟨⟨_, (r51931, l_o1, l_o2, l_o3, r51932, l_n1, l_n2, l_n3, u), rfl, ⟨hr51933.1, hr51930.1, p_n1, p_n2, p_n3, (show r51931.toInt = l_o0.toInt ∧ r51932.toInt = l_n0.toInt from by have y90 : r51921.toInt = (0 : Int32).toInt := congrArg Int32.toInt c51922; have y91 : ¬ r51926.toInt = (0 : Int32).toInt := fun z => c51927 (Int32.toInt_inj.mp z); have y92 : x0.toInt = (0 : Int32).toInt := congrArg Int32.toInt k51929; have y93 : Rg 0 3 x0 := g51923; have y94 : Rg 0 0 r51921 := g51925; have y95 : Rg 0 40 l_n0 := p_n0; have y96 : Rg 0 3 x0 := g51923; have y97 : Rg 0 0 r51921 := g51925; have y98 : Rg (-2147483648) 2147483647 r51933 := hr51933.1; have y99 : Rg 0 12 l_s := p_s; have y910 : Rg 0 12 l_t := p_t; have y911 : Rg 0 12 l_i := p_i; have y912 : Rg 0 120 l_tp := p_tp; have y913 : Rg 0 40 r51932 := hr51930.1; have y914 : Rg 0 40 l_n1 := p_n1; have y915 : Rg 0 40 l_n2 := p_n2; have y916 : Rg 0 40 l_n3 := p_n3; have y917 : Rg (-2147483648) 2147483647 r51933 := hr51933.1; have y9c18 : (0 : Int32).toInt = 0 := (by decide); have y9c19 : (1 : Int32).toInt = 1 := (by decide); omega), (show l_o1.toInt = l_o1.toInt ∧ l_n1.toInt = l_n1.toInt from by have y90 : r51921.toInt = (0 : Int32).toInt := congrArg Int32.toInt c51922; have y91 : ¬ r51926.toInt = (0 : Int32).toInt := fun z => c51927 (Int32.toInt_inj.mp z); have y92 : x0.toInt = (0 : Int32).toInt := congrArg Int32.toInt k51929; have y93 : Rg 0 3 x0 := g51923; have y94 : Rg 0 0 r51921 := g51925; have y95 : Rg 0 40 l_n0 := p_n0; have y96 : Rg 0 3 x0 := g51923; have y97 : Rg 0 0 r51921 := g51925; have y98 : Rg (-2147483648) 2147483647 r51933 := hr51933.1; have y99 : Rg 0 12 l_s := p_s; have y910 : Rg 0 12 l_t := p_t; have y911 : Rg 0 12 l_i := p_i; have y912 : Rg 0 120 l_tp := p_tp; have y913 : Rg 0 40 r51932 := hr51930.1; have y914 : Rg 0 40 l_n1 := p_n1; have y915 : Rg 0 40 l_n2 := p_n2; have y916 : Rg 0 40 l_n3 := p_n3; have y917 : Rg (-2147483648) 2147483647 r51933 := hr51933.1; have y9c18 : (0 : Int32).toInt = 0 := (by decide); have y9c19 : (1 : Int32).toInt = 1 := (by decide); omega), (show l_o2.toInt = l_o2.toInt ∧ l_n2.toInt = l_n2.toInt from by have y90 : r51921.toInt = (0 : Int32).toInt := congrArg Int32.toInt c51922; have y91 : ¬ r51926.toInt = (0 : Int32).toInt := fun z => c51927 (Int32.toInt_inj.mp z); have y92 : x0.toInt = (0 : Int32).toInt := congrArg Int32.toInt k51929; have y93 : Rg 0 3 x0 := g51923; have y94 : Rg 0 0 r51921 := g51925; have y95 : Rg 0 40 l_n0 := p_n0; have y96 : Rg 0 3 x0 := g51923; have y97 : Rg 0 0 r51921 := g51925; have y98 : Rg (-2147483648) 2147483647 r51933 := hr51933.1; have y99 : Rg 0 12 l_s := p_s; have y910 : Rg 0 12 l_t := p_t; have y911 : Rg 0 12 l_i := p_i; have y912 : Rg 0 120 l_tp := p_tp; have y913 : Rg 0 40 r51932 := hr51930.1; have y914 : Rg 0 40 l_n1 := p_n1; have y915 : Rg 0 40 l_n2 := p_n2; have y916 : Rg 0 40 l_n3 := p_n3; have y917 : Rg (-2147483648) 2147483647 r51933 := hr51933.1; have y9c18 : (0 : Int32).toInt = 0 := (by decide); have y9c19 : (1 : Int32).toInt = 1 := (by decide); omega), (show l_o3.toInt = l_o3.toInt ∧ l_n3.toInt = l_n3.toInt from by have y90 : r51921.toInt = (0 : Int32).toInt := congrArg Int32.toInt c51922; have y91 : ¬ r51926.toInt = (0 : Int32).toInt := fun z => c51927 (Int32.toInt_inj.mp z); have y92 : x0.toInt = (0 : Int32).toInt := congrArg Int32.toInt k51929; have y93 : Rg 0 3 x0 := g51923; have y94 : Rg 0 0 r51921 := g51925; have y95 : Rg 0 40 l_n0 := p_n0; have y96 : Rg 0 3 x0 := g51923; have y97 : Rg 0 0 r51921 := g51925; have y98 : Rg (-2147483648) 2147483647 r51933 := hr51933.1; have y99 : Rg 0 12 l_s := p_s; have y910 : Rg 0 12 l_t := p_t; have y911 : Rg 0 12 l_i := p_i; have y912 : Rg 0 120 l_tp := p_tp; have y913 : Rg 0 40 r51932 := hr51930.1; have y914 : Rg 0 40 l_n1 := p_n1; have y915 : Rg 0 40 l_n2 := p_n2; have y916 : Rg 0 40 l_n3 := p_n3; have y917 : Rg (-2147483648) 2147483647 r51933 := hr51933.1; have y9c18 : (0 : Int32).toInt = 0 := (by decide); have y9c19 : (1 : Int32).toInt = 1 := (by decide); omega)⟩, by rw [ht]; exact hP, hD⟩, hS.F ht⟩) hS.2.2 dX11_grow_60
      by_cases k51934 : x0 = 1
      · refine va_aldq hx hb hK hP 25 1 rfl rfl (rg_in g51923 (by decide) (by decide)) dX11_grow_40 ?_
        refine lz_va (y := .ref (a 28)) (by rw [k51934]; rfl) ?_
        have sj : l_n1.toInt = l_s.toInt := by have z := zt51924; rw [k51934] at z; exact z
        refine lv_aload_n hx hb dX11_grow_41 rfl (lv_at hl 1 rfl) ?_
        refine va_get (D := D) (ci := 11) (v := .ref (a 25)) (C := RX11) (T := TX11) (N := 16) hx hb hts hin11 hown hK hP 0 rfl rfl 12 (by decide) (hts (.fieldLink RX11 75 "MissedPoints" "sheets" "[LMissedPoints$Sheet;") (by decide +kernel)) (fun _ h9 => h9) rfl dX11_grow_42 ?_
        refine lv_iload_n hx hb dX11_grow_45 rfl (lv_at hl 2 rfl) ?_
        refine va_aldq hx hb hK hP 25 1 rfl rfl (rg_in g51923 (by decide) (by decide)) dX11_grow_46 ?_
        refine lz_va (y := .ref (a 28)) (by rw [k51934]; rfl) ?_
        have sj : l_n1.toInt = l_s.toInt := by have z := zt51924; rw [k51934] at z; exact z
        refine va_getN (D := D) (ci := 6) (v := .int l_o1) (C := RX6) (T := TX6) (N := 3) hx hb hts hin6 hown hK hP 28 rfl rfl 1 (by decide) (va_Nw.use rfl hKK.2.2.2.2.2.2.2.1) (fun _ h9 => h9) rfl dX11_grow_47 ?_
        refine wk_qv (S := Int32 × Int32 × SU) (fun q => wX cI cS a na nc N (mkL l_s l_t l_i l_kp l_iz l_z l_tp l_o0 q.1 l_o2 l_o3 l_n0 q.2.1 l_n2 l_n3) q.2.2) (l_o1, l_n1, u) (As := [.ref (a 28), .int l_o1]) (rest := []) ⟨hx, hb, hml, hown, hts⟩ (k_X9_writeTo_1 l D cI cS _ a na nc N l_s l_t l_i l_kp l_iz l_z l_tp l_o0 l_o1 l_o2 l_o3 l_n0 l_n1 l_n2 l_n3 u (show TyX (mkL l_s l_t l_i l_kp l_iz l_z l_tp l_o0 l_o1 l_o2 l_o3 l_n0 l_n1 l_n2 l_n3) from ⟨p_s, p_t, p_i, p_tp, p_n0, p_n1, p_n2, p_n3⟩) hN l_o1) hKK hP hD hS hA 34 (ci := 9) rfl rfl (cwV 2 hts gX11_grow_X9_writeTo rfl rfl rfl (by decide +kernel) ⟨Nat.le_of_ble_eq_true rfl, Nat.le_of_ble_eq_true rfl⟩) rfl hl.1 rfl (Nat.le_of_ble_eq_true rfl) dX11_grow_50 ⟨Nat.le_of_ble_eq_true rfl, Nat.le_of_ble_eq_true rfl⟩ (fun q9 H locs hr51935 hP hD hS => ?_)
        obtain ⟨r51936, r51937, u⟩ := q9
        have hr51935 : Rg 0 40 r51937 ∧ (r51936.toInt = l_o1.toInt ∧ r51937.toInt = l_s.toInt) := hr51935
        have hP : va_P D cls (wX cI cS a na nc N (mkL l_s l_t l_i l_kp l_iz l_z l_tp l_o0 r51936 l_o2 l_o3 l_n0 r51937 l_n2 l_n3) u) H := hP
        have hD : va_D A (wX cI cS a na nc N (mkL l_s l_t l_i l_kp l_iz l_z l_tp l_o0 r51936 l_o2 l_o3 l_n0 r51937 l_n2 l_n3) u) := hD
        have kr51935_0 := hr51935.2
        refine lv_aload_n hx hb dX11_grow_53 rfl (lv_at hl 1 rfl) ?_
        refine va_get (D := D) (ci := 11) (v := .ref (a 34)) (C := RX11) (T := TX11) (N := 16) hx hb hts hin11 hown hK hP 0 rfl rfl 13 (by decide) (hts (.fieldLink RX11 82 "MissedPoints" "told" "LMissedPoints$Told;") (by decide +kernel)) (fun _ h9 => h9) rfl dX11_grow_54 ?_
        refine wk_sv 34 (As := []) (rest := []) ⟨hx, hb, hml, hown, hts⟩ (k_X9_lineCount l D cI cS a na nc N (mkL l_s l_t l_i l_kp l_iz l_z l_tp l_o0 r51936 l_o2 l_o3 l_n0 r51937 l_n2 l_n3) u (show TyX (mkL l_s l_t l_i l_kp l_iz l_z l_tp l_o0 r51936 l_o2 l_o3 l_n0 r51937 l_n2 l_n3) from ⟨p_s, p_t, p_i, p_tp, p_n0, hr51935.1, p_n2, p_n3⟩) hN) hKK hP (ci := 9) rfl rfl (cwV 0 hts gX11_grow_X9_lineCount rfl rfl rfl (by decide +kernel) ⟨Nat.le_of_ble_eq_true rfl, Nat.le_of_ble_eq_true rfl⟩) rfl hl.1 rfl (Nat.le_of_ble_eq_true rfl) dX11_grow_57 ⟨Nat.le_of_ble_eq_true rfl, Nat.le_of_ble_eq_true rfl⟩ (fun r51938 hr51938 => ?_)
        subst hAe
        exact W.iret (v := r51938) hx hb hr (fun t ht hW => ⟨⟨_, (l_o0, r51936, l_o2, l_o3, l_n0, r51937, l_n2, l_n3, u), rfl, ⟨hr51938.1, p_n0, hr51935.1, p_n2, p_n3, (show l_o0.toInt = l_o0.toInt ∧ l_n0.toInt = l_n0.toInt from by have y90 : r51921.toInt = (0 : Int32).toInt := congrArg Int32.toInt c51922; have y91 : ¬ r51926.toInt = (0 : Int32).toInt := fun z => c51927 (Int32.toInt_inj.mp z); have y92 : ¬ x0.toInt = (0 : Int32).toInt := fun z => k51929 (Int32.toInt_inj.mp z); have y93 : x0.toInt = (1 : Int32).toInt := congrArg Int32.toInt k51934; have y94 : Rg 0 3 x0 := g51923; have y95 : Rg 0 0 r51921 := g51925; have y96 : Rg 0 40 l_n1 := p_n1; have y97 : Rg 0 3 x0 := g51923; have y98 : Rg 0 0 r51921 := g51925; have y99 : Rg (-2147483648) 2147483647 r51938 := hr51938.1; have y910 : Rg 0 12 l_s := p_s; have y911 : Rg 0 12 l_t := p_t; have y912 : Rg 0 12 l_i := p_i; have y913 : Rg 0 120 l_tp := p_tp; have y914 : Rg 0 40 l_n0 := p_n0; have y915 : Rg 0 40 r51937 := hr51935.1; have y916 : Rg 0 40 l_n2 := p_n2; have y917 : Rg 0 40 l_n3 := p_n3; have y918 : Rg (-2147483648) 2147483647 r51938 := hr51938.1; have y9c19 : (0 : Int32).toInt = 0 := (by decide); have y9c20 : (1 : Int32).toInt = 1 := (by decide); omega), (show r51936.toInt = l_o1.toInt ∧ r51937.toInt = l_n1.toInt from by have y90 : r51921.toInt = (0 : Int32).toInt := congrArg Int32.toInt c51922; have y91 : ¬ r51926.toInt = (0 : Int32).toInt := fun z => c51927 (Int32.toInt_inj.mp z); have y92 : ¬ x0.toInt = (0 : Int32).toInt := fun z => k51929 (Int32.toInt_inj.mp z); have y93 : x0.toInt = (1 : Int32).toInt := congrArg Int32.toInt k51934; have y94 : Rg 0 3 x0 := g51923; have y95 : Rg 0 0 r51921 := g51925; have y96 : Rg 0 40 l_n1 := p_n1; have y97 : Rg 0 3 x0 := g51923; have y98 : Rg 0 0 r51921 := g51925; have y99 : Rg (-2147483648) 2147483647 r51938 := hr51938.1; have y910 : Rg 0 12 l_s := p_s; have y911 : Rg 0 12 l_t := p_t; have y912 : Rg 0 12 l_i := p_i; have y913 : Rg 0 120 l_tp := p_tp; have y914 : Rg 0 40 l_n0 := p_n0; have y915 : Rg 0 40 r51937 := hr51935.1; have y916 : Rg 0 40 l_n2 := p_n2; have y917 : Rg 0 40 l_n3 := p_n3; have y918 : Rg (-2147483648) 2147483647 r51938 := hr51938.1; have y9c19 : (0 : Int32).toInt = 0 := (by decide); have y9c20 : (1 : Int32).toInt = 1 := (by decide); omega), (show l_o2.toInt = l_o2.toInt ∧ l_n2.toInt = l_n2.toInt from by have y90 : r51921.toInt = (0 : Int32).toInt := congrArg Int32.toInt c51922; have y91 : ¬ r51926.toInt = (0 : Int32).toInt := fun z => c51927 (Int32.toInt_inj.mp z); have y92 : ¬ x0.toInt = (0 : Int32).toInt := fun z => k51929 (Int32.toInt_inj.mp z); have y93 : x0.toInt = (1 : Int32).toInt := congrArg Int32.toInt k51934; have y94 : Rg 0 3 x0 := g51923; have y95 : Rg 0 0 r51921 := g51925; have y96 : Rg 0 40 l_n1 := p_n1; have y97 : Rg 0 3 x0 := g51923; have y98 : Rg 0 0 r51921 := g51925; have y99 : Rg (-2147483648) 2147483647 r51938 := hr51938.1; have y910 : Rg 0 12 l_s := p_s; have y911 : Rg 0 12 l_t := p_t; have y912 : Rg 0 12 l_i := p_i; have y913 : Rg 0 120 l_tp := p_tp; have y914 : Rg 0 40 l_n0 := p_n0; have y915 : Rg 0 40 r51937 := hr51935.1; have y916 : Rg 0 40 l_n2 := p_n2; have y917 : Rg 0 40 l_n3 := p_n3; have y918 : Rg (-2147483648) 2147483647 r51938 := hr51938.1; have y9c19 : (0 : Int32).toInt = 0 := (by decide); have y9c20 : (1 : Int32).toInt = 1 := (by decide); omega), (show l_o3.toInt = l_o3.toInt ∧ l_n3.toInt = l_n3.toInt from by have y90 : r51921.toInt = (0 : Int32).toInt := congrArg Int32.toInt c51922; have y91 : ¬ r51926.toInt = (0 : Int32).toInt := fun z => c51927 (Int32.toInt_inj.mp z); have y92 : ¬ x0.toInt = (0 : Int32).toInt := fun z => k51929 (Int32.toInt_inj.mp z); have y93 : x0.toInt = (1 : Int32).toInt := congrArg Int32.toInt k51934; have y94 : Rg 0 3 x0 := g51923; have y95 : Rg 0 0 r51921 := g51925; have y96 : Rg 0 40 l_n1 := p_n1; have y97 : Rg 0 3 x0 := g51923; have y98 : Rg 0 0 r51921 := g51925; have y99 : Rg (-2147483648) 2147483647 r51938 := hr51938.1; have y910 : Rg 0 12 l_s := p_s; have y911 : Rg 0 12 l_t := p_t; have y912 : Rg 0 12 l_i := p_i; have y913 : Rg 0 120 l_tp := p_tp; have y914 : Rg 0 40 l_n0 := p_n0; have y915 : Rg 0 40 r51937 := hr51935.1; have y916 : Rg 0 40 l_n2 := p_n2; have y917 : Rg 0 40 l_n3 := p_n3; have y918 : Rg (-2147483648) 2147483647 r51938 := hr51938.1; have y9c19 : (0 : Int32).toInt = 0 := (by decide); have y9c20 : (1 : Int32).toInt = 1 := (by decide); omega)⟩, by rw [ht]; exact hP, hD⟩, hS.F ht⟩) hS.2.2 dX11_grow_60
      by_cases k51939 : x0 = 2
      · refine va_aldq hx hb hK hP 25 1 rfl rfl (rg_in g51923 (by decide) (by decide)) dX11_grow_40 ?_
        refine lz_va (y := .ref (a 30)) (by rw [k51939]; rfl) ?_
        have sj : l_n2.toInt = l_s.toInt := by have z := zt51924; rw [k51939] at z; exact z
        refine lv_aload_n hx hb dX11_grow_41 rfl (lv_at hl 1 rfl) ?_
        refine va_get (D := D) (ci := 11) (v := .ref (a 25)) (C := RX11) (T := TX11) (N := 16) hx hb hts hin11 hown hK hP 0 rfl rfl 12 (by decide) (hts (.fieldLink RX11 75 "MissedPoints" "sheets" "[LMissedPoints$Sheet;") (by decide +kernel)) (fun _ h9 => h9) rfl dX11_grow_42 ?_
        refine lv_iload_n hx hb dX11_grow_45 rfl (lv_at hl 2 rfl) ?_
        refine va_aldq hx hb hK hP 25 1 rfl rfl (rg_in g51923 (by decide) (by decide)) dX11_grow_46 ?_
        refine lz_va (y := .ref (a 30)) (by rw [k51939]; rfl) ?_
        have sj : l_n2.toInt = l_s.toInt := by have z := zt51924; rw [k51939] at z; exact z
        refine va_getN (D := D) (ci := 6) (v := .int l_o2) (C := RX6) (T := TX6) (N := 3) hx hb hts hin6 hown hK hP 30 rfl rfl 1 (by decide) (va_Nw.use rfl hKK.2.2.2.2.2.2.2.1) (fun _ h9 => h9) rfl dX11_grow_47 ?_
        refine wk_qv (S := Int32 × Int32 × SU) (fun q => wX cI cS a na nc N (mkL l_s l_t l_i l_kp l_iz l_z l_tp l_o0 l_o1 q.1 l_o3 l_n0 l_n1 q.2.1 l_n3) q.2.2) (l_o2, l_n2, u) (As := [.ref (a 30), .int l_o2]) (rest := []) ⟨hx, hb, hml, hown, hts⟩ (k_X9_writeTo_2 l D cI cS _ a na nc N l_s l_t l_i l_kp l_iz l_z l_tp l_o0 l_o1 l_o2 l_o3 l_n0 l_n1 l_n2 l_n3 u (show TyX (mkL l_s l_t l_i l_kp l_iz l_z l_tp l_o0 l_o1 l_o2 l_o3 l_n0 l_n1 l_n2 l_n3) from ⟨p_s, p_t, p_i, p_tp, p_n0, p_n1, p_n2, p_n3⟩) hN l_o2) hKK hP hD hS hA 34 (ci := 9) rfl rfl (cwV 2 hts gX11_grow_X9_writeTo rfl rfl rfl (by decide +kernel) ⟨Nat.le_of_ble_eq_true rfl, Nat.le_of_ble_eq_true rfl⟩) rfl hl.1 rfl (Nat.le_of_ble_eq_true rfl) dX11_grow_50 ⟨Nat.le_of_ble_eq_true rfl, Nat.le_of_ble_eq_true rfl⟩ (fun q9 H locs hr51940 hP hD hS => ?_)
        obtain ⟨r51941, r51942, u⟩ := q9
        have hr51940 : Rg 0 40 r51942 ∧ (r51941.toInt = l_o2.toInt ∧ r51942.toInt = l_s.toInt) := hr51940
        have hP : va_P D cls (wX cI cS a na nc N (mkL l_s l_t l_i l_kp l_iz l_z l_tp l_o0 l_o1 r51941 l_o3 l_n0 l_n1 r51942 l_n3) u) H := hP
        have hD : va_D A (wX cI cS a na nc N (mkL l_s l_t l_i l_kp l_iz l_z l_tp l_o0 l_o1 r51941 l_o3 l_n0 l_n1 r51942 l_n3) u) := hD
        have kr51940_0 := hr51940.2
        refine lv_aload_n hx hb dX11_grow_53 rfl (lv_at hl 1 rfl) ?_
        refine va_get (D := D) (ci := 11) (v := .ref (a 34)) (C := RX11) (T := TX11) (N := 16) hx hb hts hin11 hown hK hP 0 rfl rfl 13 (by decide) (hts (.fieldLink RX11 82 "MissedPoints" "told" "LMissedPoints$Told;") (by decide +kernel)) (fun _ h9 => h9) rfl dX11_grow_54 ?_
        refine wk_sv 34 (As := []) (rest := []) ⟨hx, hb, hml, hown, hts⟩ (k_X9_lineCount l D cI cS a na nc N (mkL l_s l_t l_i l_kp l_iz l_z l_tp l_o0 l_o1 r51941 l_o3 l_n0 l_n1 r51942 l_n3) u (show TyX (mkL l_s l_t l_i l_kp l_iz l_z l_tp l_o0 l_o1 r51941 l_o3 l_n0 l_n1 r51942 l_n3) from ⟨p_s, p_t, p_i, p_tp, p_n0, p_n1, hr51940.1, p_n3⟩) hN) hKK hP (ci := 9) rfl rfl (cwV 0 hts gX11_grow_X9_lineCount rfl rfl rfl (by decide +kernel) ⟨Nat.le_of_ble_eq_true rfl, Nat.le_of_ble_eq_true rfl⟩) rfl hl.1 rfl (Nat.le_of_ble_eq_true rfl) dX11_grow_57 ⟨Nat.le_of_ble_eq_true rfl, Nat.le_of_ble_eq_true rfl⟩ (fun r51943 hr51943 => ?_)
        subst hAe
        exact W.iret (v := r51943) hx hb hr (fun t ht hW => ⟨⟨_, (l_o0, l_o1, r51941, l_o3, l_n0, l_n1, r51942, l_n3, u), rfl, ⟨hr51943.1, p_n0, p_n1, hr51940.1, p_n3, (show l_o0.toInt = l_o0.toInt ∧ l_n0.toInt = l_n0.toInt from by have y90 : r51921.toInt = (0 : Int32).toInt := congrArg Int32.toInt c51922; have y91 : ¬ r51926.toInt = (0 : Int32).toInt := fun z => c51927 (Int32.toInt_inj.mp z); have y92 : ¬ x0.toInt = (0 : Int32).toInt := fun z => k51929 (Int32.toInt_inj.mp z); have y93 : ¬ x0.toInt = (1 : Int32).toInt := fun z => k51934 (Int32.toInt_inj.mp z); have y94 : x0.toInt = (2 : Int32).toInt := congrArg Int32.toInt k51939; have y95 : Rg 0 3 x0 := g51923; have y96 : Rg 0 0 r51921 := g51925; have y97 : Rg 0 40 l_n2 := p_n2; have y98 : Rg 0 3 x0 := g51923; have y99 : Rg 0 0 r51921 := g51925; have y910 : Rg (-2147483648) 2147483647 r51943 := hr51943.1; have y911 : Rg 0 12 l_s := p_s; have y912 : Rg 0 12 l_t := p_t; have y913 : Rg 0 12 l_i := p_i; have y914 : Rg 0 120 l_tp := p_tp; have y915 : Rg 0 40 l_n0 := p_n0; have y916 : Rg 0 40 l_n1 := p_n1; have y917 : Rg 0 40 r51942 := hr51940.1; have y918 : Rg 0 40 l_n3 := p_n3; have y919 : Rg (-2147483648) 2147483647 r51943 := hr51943.1; have y9c20 : (0 : Int32).toInt = 0 := (by decide); have y9c21 : (1 : Int32).toInt = 1 := (by decide); have y9c22 : (2 : Int32).toInt = 2 := (by decide); omega), (show l_o1.toInt = l_o1.toInt ∧ l_n1.toInt = l_n1.toInt from by have y90 : r51921.toInt = (0 : Int32).toInt := congrArg Int32.toInt c51922; have y91 : ¬ r51926.toInt = (0 : Int32).toInt := fun z => c51927 (Int32.toInt_inj.mp z); have y92 : ¬ x0.toInt = (0 : Int32).toInt := fun z => k51929 (Int32.toInt_inj.mp z); have y93 : ¬ x0.toInt = (1 : Int32).toInt := fun z => k51934 (Int32.toInt_inj.mp z); have y94 : x0.toInt = (2 : Int32).toInt := congrArg Int32.toInt k51939; have y95 : Rg 0 3 x0 := g51923; have y96 : Rg 0 0 r51921 := g51925; have y97 : Rg 0 40 l_n2 := p_n2; have y98 : Rg 0 3 x0 := g51923; have y99 : Rg 0 0 r51921 := g51925; have y910 : Rg (-2147483648) 2147483647 r51943 := hr51943.1; have y911 : Rg 0 12 l_s := p_s; have y912 : Rg 0 12 l_t := p_t; have y913 : Rg 0 12 l_i := p_i; have y914 : Rg 0 120 l_tp := p_tp; have y915 : Rg 0 40 l_n0 := p_n0; have y916 : Rg 0 40 l_n1 := p_n1; have y917 : Rg 0 40 r51942 := hr51940.1; have y918 : Rg 0 40 l_n3 := p_n3; have y919 : Rg (-2147483648) 2147483647 r51943 := hr51943.1; have y9c20 : (0 : Int32).toInt = 0 := (by decide); have y9c21 : (1 : Int32).toInt = 1 := (by decide); have y9c22 : (2 : Int32).toInt = 2 := (by decide); omega), (show r51941.toInt = l_o2.toInt ∧ r51942.toInt = l_n2.toInt from by have y90 : r51921.toInt = (0 : Int32).toInt := congrArg Int32.toInt c51922; have y91 : ¬ r51926.toInt = (0 : Int32).toInt := fun z => c51927 (Int32.toInt_inj.mp z); have y92 : ¬ x0.toInt = (0 : Int32).toInt := fun z => k51929 (Int32.toInt_inj.mp z); have y93 : ¬ x0.toInt = (1 : Int32).toInt := fun z => k51934 (Int32.toInt_inj.mp z); have y94 : x0.toInt = (2 : Int32).toInt := congrArg Int32.toInt k51939; have y95 : Rg 0 3 x0 := g51923; have y96 : Rg 0 0 r51921 := g51925; have y97 : Rg 0 40 l_n2 := p_n2; have y98 : Rg 0 3 x0 := g51923; have y99 : Rg 0 0 r51921 := g51925; have y910 : Rg (-2147483648) 2147483647 r51943 := hr51943.1; have y911 : Rg 0 12 l_s := p_s; have y912 : Rg 0 12 l_t := p_t; have y913 : Rg 0 12 l_i := p_i; have y914 : Rg 0 120 l_tp := p_tp; have y915 : Rg 0 40 l_n0 := p_n0; have y916 : Rg 0 40 l_n1 := p_n1; have y917 : Rg 0 40 r51942 := hr51940.1; have y918 : Rg 0 40 l_n3 := p_n3; have y919 : Rg (-2147483648) 2147483647 r51943 := hr51943.1; have y9c20 : (0 : Int32).toInt = 0 := (by decide); have y9c21 : (1 : Int32).toInt = 1 := (by decide); have y9c22 : (2 : Int32).toInt = 2 := (by decide); omega), (show l_o3.toInt = l_o3.toInt ∧ l_n3.toInt = l_n3.toInt from by have y90 : r51921.toInt = (0 : Int32).toInt := congrArg Int32.toInt c51922; have y91 : ¬ r51926.toInt = (0 : Int32).toInt := fun z => c51927 (Int32.toInt_inj.mp z); have y92 : ¬ x0.toInt = (0 : Int32).toInt := fun z => k51929 (Int32.toInt_inj.mp z); have y93 : ¬ x0.toInt = (1 : Int32).toInt := fun z => k51934 (Int32.toInt_inj.mp z); have y94 : x0.toInt = (2 : Int32).toInt := congrArg Int32.toInt k51939; have y95 : Rg 0 3 x0 := g51923; have y96 : Rg 0 0 r51921 := g51925; have y97 : Rg 0 40 l_n2 := p_n2; have y98 : Rg 0 3 x0 := g51923; have y99 : Rg 0 0 r51921 := g51925; have y910 : Rg (-2147483648) 2147483647 r51943 := hr51943.1; have y911 : Rg 0 12 l_s := p_s; have y912 : Rg 0 12 l_t := p_t; have y913 : Rg 0 12 l_i := p_i; have y914 : Rg 0 120 l_tp := p_tp; have y915 : Rg 0 40 l_n0 := p_n0; have y916 : Rg 0 40 l_n1 := p_n1; have y917 : Rg 0 40 r51942 := hr51940.1; have y918 : Rg 0 40 l_n3 := p_n3; have y919 : Rg (-2147483648) 2147483647 r51943 := hr51943.1; have y9c20 : (0 : Int32).toInt = 0 := (by decide); have y9c21 : (1 : Int32).toInt = 1 := (by decide); have y9c22 : (2 : Int32).toInt = 2 := (by decide); omega)⟩, by rw [ht]; exact hP, hD⟩, hS.F ht⟩) hS.2.2 dX11_grow_60
      by_cases k51944 : x0 = 3
      · refine va_aldq hx hb hK hP 25 1 rfl rfl (rg_in g51923 (by decide) (by decide)) dX11_grow_40 ?_
        refine lz_va (y := .ref (a 32)) (by rw [k51944]; rfl) ?_
        have sj : l_n3.toInt = l_s.toInt := by have z := zt51924; rw [k51944] at z; exact z
        refine lv_aload_n hx hb dX11_grow_41 rfl (lv_at hl 1 rfl) ?_
        refine va_get (D := D) (ci := 11) (v := .ref (a 25)) (C := RX11) (T := TX11) (N := 16) hx hb hts hin11 hown hK hP 0 rfl rfl 12 (by decide) (hts (.fieldLink RX11 75 "MissedPoints" "sheets" "[LMissedPoints$Sheet;") (by decide +kernel)) (fun _ h9 => h9) rfl dX11_grow_42 ?_
        refine lv_iload_n hx hb dX11_grow_45 rfl (lv_at hl 2 rfl) ?_
        refine va_aldq hx hb hK hP 25 1 rfl rfl (rg_in g51923 (by decide) (by decide)) dX11_grow_46 ?_
        refine lz_va (y := .ref (a 32)) (by rw [k51944]; rfl) ?_
        have sj : l_n3.toInt = l_s.toInt := by have z := zt51924; rw [k51944] at z; exact z
        refine va_getN (D := D) (ci := 6) (v := .int l_o3) (C := RX6) (T := TX6) (N := 3) hx hb hts hin6 hown hK hP 32 rfl rfl 1 (by decide) (va_Nw.use rfl hKK.2.2.2.2.2.2.2.1) (fun _ h9 => h9) rfl dX11_grow_47 ?_
        refine wk_qv (S := Int32 × Int32 × SU) (fun q => wX cI cS a na nc N (mkL l_s l_t l_i l_kp l_iz l_z l_tp l_o0 l_o1 l_o2 q.1 l_n0 l_n1 l_n2 q.2.1) q.2.2) (l_o3, l_n3, u) (As := [.ref (a 32), .int l_o3]) (rest := []) ⟨hx, hb, hml, hown, hts⟩ (k_X9_writeTo_3 l D cI cS _ a na nc N l_s l_t l_i l_kp l_iz l_z l_tp l_o0 l_o1 l_o2 l_o3 l_n0 l_n1 l_n2 l_n3 u (show TyX (mkL l_s l_t l_i l_kp l_iz l_z l_tp l_o0 l_o1 l_o2 l_o3 l_n0 l_n1 l_n2 l_n3) from ⟨p_s, p_t, p_i, p_tp, p_n0, p_n1, p_n2, p_n3⟩) hN l_o3) hKK hP hD hS hA 34 (ci := 9) rfl rfl (cwV 2 hts gX11_grow_X9_writeTo rfl rfl rfl (by decide +kernel) ⟨Nat.le_of_ble_eq_true rfl, Nat.le_of_ble_eq_true rfl⟩) rfl hl.1 rfl (Nat.le_of_ble_eq_true rfl) dX11_grow_50 ⟨Nat.le_of_ble_eq_true rfl, Nat.le_of_ble_eq_true rfl⟩ (fun q9 H locs hr51945 hP hD hS => ?_)
        obtain ⟨r51946, r51947, u⟩ := q9
        have hr51945 : Rg 0 40 r51947 ∧ (r51946.toInt = l_o3.toInt ∧ r51947.toInt = l_s.toInt) := hr51945
        have hP : va_P D cls (wX cI cS a na nc N (mkL l_s l_t l_i l_kp l_iz l_z l_tp l_o0 l_o1 l_o2 r51946 l_n0 l_n1 l_n2 r51947) u) H := hP
        have hD : va_D A (wX cI cS a na nc N (mkL l_s l_t l_i l_kp l_iz l_z l_tp l_o0 l_o1 l_o2 r51946 l_n0 l_n1 l_n2 r51947) u) := hD
        have kr51945_0 := hr51945.2
        refine lv_aload_n hx hb dX11_grow_53 rfl (lv_at hl 1 rfl) ?_
        refine va_get (D := D) (ci := 11) (v := .ref (a 34)) (C := RX11) (T := TX11) (N := 16) hx hb hts hin11 hown hK hP 0 rfl rfl 13 (by decide) (hts (.fieldLink RX11 82 "MissedPoints" "told" "LMissedPoints$Told;") (by decide +kernel)) (fun _ h9 => h9) rfl dX11_grow_54 ?_
        refine wk_sv 34 (As := []) (rest := []) ⟨hx, hb, hml, hown, hts⟩ (k_X9_lineCount l D cI cS a na nc N (mkL l_s l_t l_i l_kp l_iz l_z l_tp l_o0 l_o1 l_o2 r51946 l_n0 l_n1 l_n2 r51947) u (show TyX (mkL l_s l_t l_i l_kp l_iz l_z l_tp l_o0 l_o1 l_o2 r51946 l_n0 l_n1 l_n2 r51947) from ⟨p_s, p_t, p_i, p_tp, p_n0, p_n1, p_n2, hr51945.1⟩) hN) hKK hP (ci := 9) rfl rfl (cwV 0 hts gX11_grow_X9_lineCount rfl rfl rfl (by decide +kernel) ⟨Nat.le_of_ble_eq_true rfl, Nat.le_of_ble_eq_true rfl⟩) rfl hl.1 rfl (Nat.le_of_ble_eq_true rfl) dX11_grow_57 ⟨Nat.le_of_ble_eq_true rfl, Nat.le_of_ble_eq_true rfl⟩ (fun r51948 hr51948 => ?_)
        subst hAe
        exact W.iret (v := r51948) hx hb hr (fun t ht hW => ⟨⟨_, (l_o0, l_o1, l_o2, r51946, l_n0, l_n1, l_n2, r51947, u), rfl, ⟨hr51948.1, p_n0, p_n1, p_n2, hr51945.1, (show l_o0.toInt = l_o0.toInt ∧ l_n0.toInt = l_n0.toInt from by have y90 : r51921.toInt = (0 : Int32).toInt := congrArg Int32.toInt c51922; have y91 : ¬ r51926.toInt = (0 : Int32).toInt := fun z => c51927 (Int32.toInt_inj.mp z); have y92 : ¬ x0.toInt = (0 : Int32).toInt := fun z => k51929 (Int32.toInt_inj.mp z); have y93 : ¬ x0.toInt = (1 : Int32).toInt := fun z => k51934 (Int32.toInt_inj.mp z); have y94 : ¬ x0.toInt = (2 : Int32).toInt := fun z => k51939 (Int32.toInt_inj.mp z); have y95 : x0.toInt = (3 : Int32).toInt := congrArg Int32.toInt k51944; have y96 : Rg 0 3 x0 := g51923; have y97 : Rg 0 0 r51921 := g51925; have y98 : Rg 0 40 l_n3 := p_n3; have y99 : Rg 0 3 x0 := g51923; have y910 : Rg 0 0 r51921 := g51925; have y911 : Rg (-2147483648) 2147483647 r51948 := hr51948.1; have y912 : Rg 0 12 l_s := p_s; have y913 : Rg 0 12 l_t := p_t; have y914 : Rg 0 12 l_i := p_i; have y915 : Rg 0 120 l_tp := p_tp; have y916 : Rg 0 40 l_n0 := p_n0; have y917 : Rg 0 40 l_n1 := p_n1; have y918 : Rg 0 40 l_n2 := p_n2; have y919 : Rg 0 40 r51947 := hr51945.1; have y920 : Rg (-2147483648) 2147483647 r51948 := hr51948.1; have y9c21 : (0 : Int32).toInt = 0 := (by decide); have y9c22 : (1 : Int32).toInt = 1 := (by decide); have y9c23 : (2 : Int32).toInt = 2 := (by decide); have y9c24 : (3 : Int32).toInt = 3 := (by decide); omega), (show l_o1.toInt = l_o1.toInt ∧ l_n1.toInt = l_n1.toInt from by have y90 : r51921.toInt = (0 : Int32).toInt := congrArg Int32.toInt c51922; have y91 : ¬ r51926.toInt = (0 : Int32).toInt := fun z => c51927 (Int32.toInt_inj.mp z); have y92 : ¬ x0.toInt = (0 : Int32).toInt := fun z => k51929 (Int32.toInt_inj.mp z); have y93 : ¬ x0.toInt = (1 : Int32).toInt := fun z => k51934 (Int32.toInt_inj.mp z); have y94 : ¬ x0.toInt = (2 : Int32).toInt := fun z => k51939 (Int32.toInt_inj.mp z); have y95 : x0.toInt = (3 : Int32).toInt := congrArg Int32.toInt k51944; have y96 : Rg 0 3 x0 := g51923; have y97 : Rg 0 0 r51921 := g51925; have y98 : Rg 0 40 l_n3 := p_n3; have y99 : Rg 0 3 x0 := g51923; have y910 : Rg 0 0 r51921 := g51925; have y911 : Rg (-2147483648) 2147483647 r51948 := hr51948.1; have y912 : Rg 0 12 l_s := p_s; have y913 : Rg 0 12 l_t := p_t; have y914 : Rg 0 12 l_i := p_i; have y915 : Rg 0 120 l_tp := p_tp; have y916 : Rg 0 40 l_n0 := p_n0; have y917 : Rg 0 40 l_n1 := p_n1; have y918 : Rg 0 40 l_n2 := p_n2; have y919 : Rg 0 40 r51947 := hr51945.1; have y920 : Rg (-2147483648) 2147483647 r51948 := hr51948.1; have y9c21 : (0 : Int32).toInt = 0 := (by decide); have y9c22 : (1 : Int32).toInt = 1 := (by decide); have y9c23 : (2 : Int32).toInt = 2 := (by decide); have y9c24 : (3 : Int32).toInt = 3 := (by decide); omega), (show l_o2.toInt = l_o2.toInt ∧ l_n2.toInt = l_n2.toInt from by have y90 : r51921.toInt = (0 : Int32).toInt := congrArg Int32.toInt c51922; have y91 : ¬ r51926.toInt = (0 : Int32).toInt := fun z => c51927 (Int32.toInt_inj.mp z); have y92 : ¬ x0.toInt = (0 : Int32).toInt := fun z => k51929 (Int32.toInt_inj.mp z); have y93 : ¬ x0.toInt = (1 : Int32).toInt := fun z => k51934 (Int32.toInt_inj.mp z); have y94 : ¬ x0.toInt = (2 : Int32).toInt := fun z => k51939 (Int32.toInt_inj.mp z); have y95 : x0.toInt = (3 : Int32).toInt := congrArg Int32.toInt k51944; have y96 : Rg 0 3 x0 := g51923; have y97 : Rg 0 0 r51921 := g51925; have y98 : Rg 0 40 l_n3 := p_n3; have y99 : Rg 0 3 x0 := g51923; have y910 : Rg 0 0 r51921 := g51925; have y911 : Rg (-2147483648) 2147483647 r51948 := hr51948.1; have y912 : Rg 0 12 l_s := p_s; have y913 : Rg 0 12 l_t := p_t; have y914 : Rg 0 12 l_i := p_i; have y915 : Rg 0 120 l_tp := p_tp; have y916 : Rg 0 40 l_n0 := p_n0; have y917 : Rg 0 40 l_n1 := p_n1; have y918 : Rg 0 40 l_n2 := p_n2; have y919 : Rg 0 40 r51947 := hr51945.1; have y920 : Rg (-2147483648) 2147483647 r51948 := hr51948.1; have y9c21 : (0 : Int32).toInt = 0 := (by decide); have y9c22 : (1 : Int32).toInt = 1 := (by decide); have y9c23 : (2 : Int32).toInt = 2 := (by decide); have y9c24 : (3 : Int32).toInt = 3 := (by decide); omega), (show r51946.toInt = l_o3.toInt ∧ r51947.toInt = l_n3.toInt from by have y90 : r51921.toInt = (0 : Int32).toInt := congrArg Int32.toInt c51922; have y91 : ¬ r51926.toInt = (0 : Int32).toInt := fun z => c51927 (Int32.toInt_inj.mp z); have y92 : ¬ x0.toInt = (0 : Int32).toInt := fun z => k51929 (Int32.toInt_inj.mp z); have y93 : ¬ x0.toInt = (1 : Int32).toInt := fun z => k51934 (Int32.toInt_inj.mp z); have y94 : ¬ x0.toInt = (2 : Int32).toInt := fun z => k51939 (Int32.toInt_inj.mp z); have y95 : x0.toInt = (3 : Int32).toInt := congrArg Int32.toInt k51944; have y96 : Rg 0 3 x0 := g51923; have y97 : Rg 0 0 r51921 := g51925; have y98 : Rg 0 40 l_n3 := p_n3; have y99 : Rg 0 3 x0 := g51923; have y910 : Rg 0 0 r51921 := g51925; have y911 : Rg (-2147483648) 2147483647 r51948 := hr51948.1; have y912 : Rg 0 12 l_s := p_s; have y913 : Rg 0 12 l_t := p_t; have y914 : Rg 0 12 l_i := p_i; have y915 : Rg 0 120 l_tp := p_tp; have y916 : Rg 0 40 l_n0 := p_n0; have y917 : Rg 0 40 l_n1 := p_n1; have y918 : Rg 0 40 l_n2 := p_n2; have y919 : Rg 0 40 r51947 := hr51945.1; have y920 : Rg (-2147483648) 2147483647 r51948 := hr51948.1; have y9c21 : (0 : Int32).toInt = 0 := (by decide); have y9c22 : (1 : Int32).toInt = 1 := (by decide); have y9c23 : (2 : Int32).toInt = 2 := (by decide); have y9c24 : (3 : Int32).toInt = 3 := (by decide); omega)⟩, by rw [ht]; exact hP, hD⟩, hS.F ht⟩) hS.2.2 dX11_grow_60
      exact False.elim (by have y90 : r51921.toInt = (0 : Int32).toInt := congrArg Int32.toInt c51922; have y91 : ¬ r51926.toInt = (0 : Int32).toInt := fun z => c51927 (Int32.toInt_inj.mp z); have y92 : ¬ x0.toInt = (0 : Int32).toInt := fun z => k51929 (Int32.toInt_inj.mp z); have y93 : ¬ x0.toInt = (1 : Int32).toInt := fun z => k51934 (Int32.toInt_inj.mp z); have y94 : ¬ x0.toInt = (2 : Int32).toInt := fun z => k51939 (Int32.toInt_inj.mp z); have y95 : ¬ x0.toInt = (3 : Int32).toInt := fun z => k51944 (Int32.toInt_inj.mp z); have y96 : Rg 0 3 x0 := g51923; have y97 : Rg 0 0 r51921 := g51925; have y98 : Rg 0 3 x0 := g51923; have y99 : Rg 0 0 r51921 := g51925; have y910 : Rg 0 12 l_s := p_s; have y911 : Rg 0 12 l_t := p_t; have y912 : Rg 0 12 l_i := p_i; have y913 : Rg 0 120 l_tp := p_tp; have y914 : Rg 0 40 l_n0 := p_n0; have y915 : Rg 0 40 l_n1 := p_n1; have y916 : Rg 0 40 l_n2 := p_n2; have y917 : Rg 0 40 l_n3 := p_n3; have y9c18 : (0 : Int32).toInt = 0 := (by decide); have y9c19 : (1 : Int32).toInt = 1 := (by decide); have y9c20 : (2 : Int32).toInt = 2 := (by decide); have y9c21 : (3 : Int32).toInt = 3 := (by decide); have z9 := g51923; omega)
    · have g51949 : Rg 0 0 r51926 := wk_eql hr51926.1 (by decide : Rg 0 0 (0 : Int32)) c51927 (by decide)
      refine lv_iconst (v := (-1)) hx hb dX11_grow_22 (by decide) ?_
      subst hAe
      exact W.iret (v := (-1)) hx hb hr (fun t ht hW => ⟨⟨_, (l_o0, l_o1, l_o2, l_o3, l_n0, l_n1, l_n2, l_n3, u), rfl, ⟨(by decide : Rg (-2147483648) 2147483647 ((-1) : Int32)), p_n0, p_n1, p_n2, p_n3, (show l_o0.toInt = l_o0.toInt ∧ l_n0.toInt = l_n0.toInt from by have y90 : r51921.toInt = (0 : Int32).toInt := congrArg Int32.toInt c51922; have y91 : r51926.toInt = (0 : Int32).toInt := congrArg Int32.toInt c51927; have y92 : Rg 0 3 x0 := g51923; have y93 : Rg 0 0 r51921 := g51925; have y94 : Rg 0 0 r51926 := g51949; have y95 : Rg 0 3 x0 := g51923; have y96 : Rg 0 0 r51921 := g51925; have y97 : Rg 0 12 l_s := p_s; have y98 : Rg 0 12 l_t := p_t; have y99 : Rg 0 12 l_i := p_i; have y910 : Rg 0 120 l_tp := p_tp; have y911 : Rg 0 40 l_n0 := p_n0; have y912 : Rg 0 40 l_n1 := p_n1; have y913 : Rg 0 40 l_n2 := p_n2; have y914 : Rg 0 40 l_n3 := p_n3; have y9c15 : ((-1) : Int32).toInt = -1 := (by decide); have y9c16 : (0 : Int32).toInt = 0 := (by decide); have y9c17 : (1 : Int32).toInt = 1 := (by decide); omega), (show l_o1.toInt = l_o1.toInt ∧ l_n1.toInt = l_n1.toInt from by have y90 : r51921.toInt = (0 : Int32).toInt := congrArg Int32.toInt c51922; have y91 : r51926.toInt = (0 : Int32).toInt := congrArg Int32.toInt c51927; have y92 : Rg 0 3 x0 := g51923; have y93 : Rg 0 0 r51921 := g51925; have y94 : Rg 0 0 r51926 := g51949; have y95 : Rg 0 3 x0 := g51923; have y96 : Rg 0 0 r51921 := g51925; have y97 : Rg 0 12 l_s := p_s; have y98 : Rg 0 12 l_t := p_t; have y99 : Rg 0 12 l_i := p_i; have y910 : Rg 0 120 l_tp := p_tp; have y911 : Rg 0 40 l_n0 := p_n0; have y912 : Rg 0 40 l_n1 := p_n1; have y913 : Rg 0 40 l_n2 := p_n2; have y914 : Rg 0 40 l_n3 := p_n3; have y9c15 : ((-1) : Int32).toInt = -1 := (by decide); have y9c16 : (0 : Int32).toInt = 0 := (by decide); have y9c17 : (1 : Int32).toInt = 1 := (by decide); omega), (show l_o2.toInt = l_o2.toInt ∧ l_n2.toInt = l_n2.toInt from by have y90 : r51921.toInt = (0 : Int32).toInt := congrArg Int32.toInt c51922; have y91 : r51926.toInt = (0 : Int32).toInt := congrArg Int32.toInt c51927; have y92 : Rg 0 3 x0 := g51923; have y93 : Rg 0 0 r51921 := g51925; have y94 : Rg 0 0 r51926 := g51949; have y95 : Rg 0 3 x0 := g51923; have y96 : Rg 0 0 r51921 := g51925; have y97 : Rg 0 12 l_s := p_s; have y98 : Rg 0 12 l_t := p_t; have y99 : Rg 0 12 l_i := p_i; have y910 : Rg 0 120 l_tp := p_tp; have y911 : Rg 0 40 l_n0 := p_n0; have y912 : Rg 0 40 l_n1 := p_n1; have y913 : Rg 0 40 l_n2 := p_n2; have y914 : Rg 0 40 l_n3 := p_n3; have y9c15 : ((-1) : Int32).toInt = -1 := (by decide); have y9c16 : (0 : Int32).toInt = 0 := (by decide); have y9c17 : (1 : Int32).toInt = 1 := (by decide); omega), (show l_o3.toInt = l_o3.toInt ∧ l_n3.toInt = l_n3.toInt from by have y90 : r51921.toInt = (0 : Int32).toInt := congrArg Int32.toInt c51922; have y91 : r51926.toInt = (0 : Int32).toInt := congrArg Int32.toInt c51927; have y92 : Rg 0 3 x0 := g51923; have y93 : Rg 0 0 r51921 := g51925; have y94 : Rg 0 0 r51926 := g51949; have y95 : Rg 0 3 x0 := g51923; have y96 : Rg 0 0 r51921 := g51925; have y97 : Rg 0 12 l_s := p_s; have y98 : Rg 0 12 l_t := p_t; have y99 : Rg 0 12 l_i := p_i; have y910 : Rg 0 120 l_tp := p_tp; have y911 : Rg 0 40 l_n0 := p_n0; have y912 : Rg 0 40 l_n1 := p_n1; have y913 : Rg 0 40 l_n2 := p_n2; have y914 : Rg 0 40 l_n3 := p_n3; have y9c15 : ((-1) : Int32).toInt = -1 := (by decide); have y9c16 : (0 : Int32).toInt = 0 := (by decide); have y9c17 : (1 : Int32).toInt = 1 := (by decide); omega)⟩, by rw [ht]; exact hP, hD⟩, hS.F ht⟩) hS.2.2 dX11_grow_23
  · have g51950 : Rg (-11) (-1) r51921 := rg_ne_hi (k := 0) hr51921.1 (by decide) c51922 (by decide)
    refine lv_iload_n hx hb dX11_grow_10 rfl (lv_at hl 0 rfl) ?_
    subst hAe
    exact W.iret (v := r51921) hx hb hr (fun t ht hW => ⟨⟨_, (l_o0, l_o1, l_o2, l_o3, l_n0, l_n1, l_n2, l_n3, u), rfl, ⟨(rg_any r51921), p_n0, p_n1, p_n2, p_n3, (show l_o0.toInt = l_o0.toInt ∧ l_n0.toInt = l_n0.toInt from by have y90 : ¬ r51921.toInt = (0 : Int32).toInt := fun z => c51922 (Int32.toInt_inj.mp z); have y91 : Rg (-11) (-1) r51921 := g51950; have y92 : Rg (-11) (-1) r51921 := g51950; have y93 : Rg (-11) (-1) r51921 := g51950; have y94 : Rg 0 12 l_s := p_s; have y95 : Rg 0 12 l_t := p_t; have y96 : Rg 0 12 l_i := p_i; have y97 : Rg 0 120 l_tp := p_tp; have y98 : Rg 0 40 l_n0 := p_n0; have y99 : Rg 0 40 l_n1 := p_n1; have y910 : Rg 0 40 l_n2 := p_n2; have y911 : Rg 0 40 l_n3 := p_n3; have y912 : Rg (-11) (-1) r51921 := g51950; have y9c13 : (0 : Int32).toInt = 0 := (by decide); have y9c14 : (1 : Int32).toInt = 1 := (by decide); omega), (show l_o1.toInt = l_o1.toInt ∧ l_n1.toInt = l_n1.toInt from by have y90 : ¬ r51921.toInt = (0 : Int32).toInt := fun z => c51922 (Int32.toInt_inj.mp z); have y91 : Rg (-11) (-1) r51921 := g51950; have y92 : Rg (-11) (-1) r51921 := g51950; have y93 : Rg (-11) (-1) r51921 := g51950; have y94 : Rg 0 12 l_s := p_s; have y95 : Rg 0 12 l_t := p_t; have y96 : Rg 0 12 l_i := p_i; have y97 : Rg 0 120 l_tp := p_tp; have y98 : Rg 0 40 l_n0 := p_n0; have y99 : Rg 0 40 l_n1 := p_n1; have y910 : Rg 0 40 l_n2 := p_n2; have y911 : Rg 0 40 l_n3 := p_n3; have y912 : Rg (-11) (-1) r51921 := g51950; have y9c13 : (0 : Int32).toInt = 0 := (by decide); have y9c14 : (1 : Int32).toInt = 1 := (by decide); omega), (show l_o2.toInt = l_o2.toInt ∧ l_n2.toInt = l_n2.toInt from by have y90 : ¬ r51921.toInt = (0 : Int32).toInt := fun z => c51922 (Int32.toInt_inj.mp z); have y91 : Rg (-11) (-1) r51921 := g51950; have y92 : Rg (-11) (-1) r51921 := g51950; have y93 : Rg (-11) (-1) r51921 := g51950; have y94 : Rg 0 12 l_s := p_s; have y95 : Rg 0 12 l_t := p_t; have y96 : Rg 0 12 l_i := p_i; have y97 : Rg 0 120 l_tp := p_tp; have y98 : Rg 0 40 l_n0 := p_n0; have y99 : Rg 0 40 l_n1 := p_n1; have y910 : Rg 0 40 l_n2 := p_n2; have y911 : Rg 0 40 l_n3 := p_n3; have y912 : Rg (-11) (-1) r51921 := g51950; have y9c13 : (0 : Int32).toInt = 0 := (by decide); have y9c14 : (1 : Int32).toInt = 1 := (by decide); omega), (show l_o3.toInt = l_o3.toInt ∧ l_n3.toInt = l_n3.toInt from by have y90 : ¬ r51921.toInt = (0 : Int32).toInt := fun z => c51922 (Int32.toInt_inj.mp z); have y91 : Rg (-11) (-1) r51921 := g51950; have y92 : Rg (-11) (-1) r51921 := g51950; have y93 : Rg (-11) (-1) r51921 := g51950; have y94 : Rg 0 12 l_s := p_s; have y95 : Rg 0 12 l_t := p_t; have y96 : Rg 0 12 l_i := p_i; have y97 : Rg 0 120 l_tp := p_tp; have y98 : Rg 0 40 l_n0 := p_n0; have y99 : Rg 0 40 l_n1 := p_n1; have y910 : Rg 0 40 l_n2 := p_n2; have y911 : Rg 0 40 l_n3 := p_n3; have y912 : Rg (-11) (-1) r51921 := g51950; have y9c13 : (0 : Int32).toInt = 0 := (by decide); have y9c14 : (1 : Int32).toInt = 1 := (by decide); omega)⟩, by rw [ht]; exact hP, hD⟩, hS.F ht⟩) hS.2.2 dX11_grow_11
set_option maxHeartbeats 4000000 in
set_option maxRecDepth 100000 in
theorem k_X6_hasRange_z (l : Launch) (D : va_G) (cI cS : ClassId) (a : Nat → Nat) (na nc N : Nat) (L u : SU) (hL : TyX L) (hN : N = 0 ∨ N = 24576) (q : Nat) (hq : q < 4) (x0 x1 : Int32) : Met l yX6_hasRange wsX6_hasRange ({ frames := 0, cells := 0, slots := 0, locals := 0 }) (PS D cI cS (wX cI cS a na nc N L u) [.ref (a (26 + 2 * q)), .int x0, .int x1]) (vp_Si (fun r => Rg 0 1 r ∧ (r ≠ 0 → Rg 0 40 x0 ∧ Rg 0 40 x1) ∧ ((r ≠ 0 → (0 ≤ x0.toInt ∧ 0 ≤ x1.toInt ∧ x0.toInt + x1.toInt ≤ (L (26 + 2 * q) 2).toInt)) ∧ (r = 0 → ¬ (0 ≤ x0.toInt ∧ 0 ≤ x1.toInt ∧ x0.toInt + x1.toInt ≤ (L (26 + 2 * q) 2).toInt))))) 0 0 (fun _ => False) := by
  refine Met.ofW (cc := cX6_hasRange) (maxL := 3) (ret := (some .boolean)) (by decide) rfl ?_
  intro p e s m args below meth c s₁ B hml hv
  obtain ⟨rfl, hP, hKK⟩ := hv
  have hx := B.exec
  have hb := B.bytes
  have hr := B.returns
  have hts := atoms_spec (ws := wsX6_hasRange) B.pre
  have hown : s.vm.findClass RX6 = some m.cls := findClass_of_methodNamed B.named
  have hlocks := B.notSynchronized
  have hK := hKK.1
  have hin6 : ∀ w ∈ wsX60, w ∈ wsX6_hasRange := by decide +kernel
  have hl := lv_entry ([.ref (a (26 + 2 * q)), .int x0, .int x1]) (n := 3) (Nat.le_of_ble_eq_true rfl)
  rw [lg_entry_eq]
  generalize (lg_sl ([.ref (a (26 + 2 * q)), .int x0, .int x1]) ++ List.replicate (3 - (lg_sl ([.ref (a (26 + 2 * q)), .int x0, .int x1])).length) Slot.unset).toArray = ls at hl ⊢
  have hl : lv_has ls 3 [(0, .ref (a (26 + 2 * q))), (1, .int x0), (2, .int x1)] := hl
  refine lv_iload_n hx hb dX6_hasRange_0 rfl (lv_at hl 1 rfl) ?_
  refine lv_if_lt (tgt := 30) hx hb dX6_hasRange_1 (by decide) (fun c51964 => ?_) (fun c51964 => ?_)
  · have g51965 : Rg (-2147483648) (-1) x0 := rg_ltl (rg_any x0) (by decide : Rg 0 0 (0 : Int32)) c51964 (by decide)
    refine lv_iconst (v := 0) hx hb dX6_hasRange_30 (by decide) ?_
    exact W.zret (v := 0) hx hb hr (by decide) (fun t ht hW => ⟨_, rfl, ⟨(by decide : Rg 0 1 (0 : Int32)), fun h9 => absurd rfl h9, ⟨fun h9 => absurd rfl h9, fun _ => (by have y90 : x0.toInt < (0 : Int32).toInt := (lz_lt _ _).mp c51964; have y91 : Rg (-2147483648) (-1) x0 := g51965; have y92 : Rg (-2147483648) (-1) x0 := g51965; have y9c3 : (0 : Int32).toInt = 0 := (by decide); have y9c4 : (1 : Int32).toInt = 1 := (by decide); skip; omega)⟩⟩, ht⟩) (fun q hq => absurd hq List.not_mem_nil) dX6_hasRange_31
  · have g51966 : Rg 0 2147483647 x0 := rg_ler (by decide : Rg 0 0 (0 : Int32)) (rg_any x0) (rg_nlt c51964) (by decide)
    refine lv_iload_n hx hb dX6_hasRange_4 rfl (lv_at hl 2 rfl) ?_
    refine lv_if_lt (tgt := 30) hx hb dX6_hasRange_5 (by decide) (fun c51967 => ?_) (fun c51967 => ?_)
    · have g51968 : Rg (-2147483648) (-1) x1 := rg_ltl (rg_any x1) (by decide : Rg 0 0 (0 : Int32)) c51967 (by decide)
      refine lv_iconst (v := 0) hx hb dX6_hasRange_30 (by decide) ?_
      exact W.zret (v := 0) hx hb hr (by decide) (fun t ht hW => ⟨_, rfl, ⟨(by decide : Rg 0 1 (0 : Int32)), fun h9 => absurd rfl h9, ⟨fun h9 => absurd rfl h9, fun _ => (by have y90 : (0 : Int32).toInt ≤ x0.toInt := (lz_le _ _).mp (rg_nlt c51964); have y91 : x1.toInt < (0 : Int32).toInt := (lz_lt _ _).mp c51967; have y92 : Rg 0 2147483647 x0 := g51966; have y93 : Rg (-2147483648) (-1) x1 := g51968; have y94 : Rg 0 2147483647 x0 := g51966; have y95 : Rg (-2147483648) (-1) x1 := g51968; have y9c6 : (0 : Int32).toInt = 0 := (by decide); have y9c7 : (1 : Int32).toInt = 1 := (by decide); skip; omega)⟩⟩, ht⟩) (fun q hq => absurd hq List.not_mem_nil) dX6_hasRange_31
    · have g51969 : Rg 0 2147483647 x1 := rg_ler (by decide : Rg 0 0 (0 : Int32)) (rg_any x1) (rg_nlt c51967) (by decide)
      refine lv_iload_n hx hb dX6_hasRange_8 rfl (lv_at hl 2 rfl) ?_
      refine lv_aload_n hx hb dX6_hasRange_9 rfl (lv_at hl 0 rfl) ?_
      refine va_get (D := D) (ci := 6) (v := .int ((L (26 + 2 * q) 2))) (C := RX6) (T := TX6) (N := 3) hx hb hts hin6 hown hK hP (26 + 2 * q) (gx_sh hq) rfl 2 (by decide) (hts (.fieldLink RX6 28 "MissedPoints$Sheet" "size" "I") (by decide +kernel)) (fun _ h9 => h9) rfl dX6_hasRange_10 ?_
      refine lv_icmp_gt (tgt := 30) hx hb dX6_hasRange_13 (by decide) (fun c51970 => ?_) (fun c51970 => ?_)
      · have g51971 : Rg 1 2147483647 x1 := rg_ltr (hL.sh hq) g51969 c51970 (by decide)
        refine lv_iconst (v := 0) hx hb dX6_hasRange_30 (by decide) ?_
        exact W.zret (v := 0) hx hb hr (by decide) (fun t ht hW => ⟨_, rfl, ⟨(by decide : Rg 0 1 (0 : Int32)), fun h9 => absurd rfl h9, ⟨fun h9 => absurd rfl h9, fun _ => (by have y90 : (0 : Int32).toInt ≤ x0.toInt := (lz_le _ _).mp (rg_nlt c51964); have y91 : (0 : Int32).toInt ≤ x1.toInt := (lz_le _ _).mp (rg_nlt c51967); have y92 : ((L (26 + 2 * q) 2)).toInt < x1.toInt := (lz_lt _ _).mp c51970; have y93 : Rg 0 2147483647 x0 := g51966; have y94 : Rg 1 2147483647 x1 := g51971; have y95 : Rg 0 2147483647 x0 := g51966; have y96 : Rg 1 2147483647 x1 := g51971; have y9c7 : (0 : Int32).toInt = 0 := (by decide); have y9c8 : (1 : Int32).toInt = 1 := (by decide); skip; omega)⟩⟩, ht⟩) (fun q hq => absurd hq List.not_mem_nil) dX6_hasRange_31
      · have g51972 : Rg 0 40 x1 := rg_lel g51969 (hL.sh hq) (rg_nlt c51970) (by decide)
        refine lv_iload_n hx hb dX6_hasRange_16 rfl (lv_at hl 1 rfl) ?_
        refine lv_aload_n hx hb dX6_hasRange_17 rfl (lv_at hl 0 rfl) ?_
        refine va_get (D := D) (ci := 6) (v := .int ((L (26 + 2 * q) 2))) (C := RX6) (T := TX6) (N := 3) hx hb hts hin6 hown hK hP (26 + 2 * q) (gx_sh hq) rfl 2 (by decide) (hts (.fieldLink RX6 28 "MissedPoints$Sheet" "size" "I") (by decide +kernel)) (fun _ h9 => h9) rfl dX6_hasRange_18 ?_
        refine lv_iload_n hx hb dX6_hasRange_21 rfl (lv_at hl 2 rfl) ?_
        refine wk_isub (e1 := (-40)) (f := 40) hx hb dX6_hasRange_22 (hL.sh hq) g51972 (by decide) (fun r51973 hr51973 er51973 qr51973 => ?_)
        refine lv_icmp_gt (tgt := 30) hx hb dX6_hasRange_23 (by decide) (fun c51974 => ?_) (fun c51974 => ?_)
        · refine lv_iconst (v := 0) hx hb dX6_hasRange_30 (by decide) ?_
          exact W.zret (v := 0) hx hb hr (by decide) (fun t ht hW => ⟨_, rfl, ⟨(by decide : Rg 0 1 (0 : Int32)), fun h9 => absurd rfl h9, ⟨fun h9 => absurd rfl h9, fun _ => (by have y90 : (0 : Int32).toInt ≤ x0.toInt := (lz_le _ _).mp (rg_nlt c51964); have y91 : (0 : Int32).toInt ≤ x1.toInt := (lz_le _ _).mp (rg_nlt c51967); have y92 : x1.toInt ≤ ((L (26 + 2 * q) 2)).toInt := (lz_le _ _).mp (rg_nlt c51970); have y93 : r51973.toInt < x0.toInt := (lz_lt _ _).mp c51974; have y94 : Rg 0 2147483647 x0 := g51966; have y95 : Rg 0 40 x1 := g51972; have y96 : Rg 0 2147483647 x0 := g51966; have y97 : Rg 0 40 x1 := g51972; have y9c8 : (0 : Int32).toInt = 0 := (by decide); have y9c9 : (1 : Int32).toInt = 1 := (by decide); skip; omega)⟩⟩, ht⟩) (fun q hq => absurd hq List.not_mem_nil) dX6_hasRange_31
        · have g51975 : Rg 0 40 r51973 := rg_ler g51966 hr51973 (rg_nlt c51974) (by decide)
          have g51976 : Rg 0 40 x0 := rg_lel g51966 hr51973 (rg_nlt c51974) (by decide)
          refine lv_iconst (v := 1) hx hb dX6_hasRange_26 (by decide) ?_
          refine lv_goto (tgt := 31) hx hb dX6_hasRange_27 (by decide) ?_
          exact W.zret (v := 1) hx hb hr (by decide) (fun t ht hW => ⟨_, rfl, ⟨(by decide : Rg 0 1 (1 : Int32)), fun _ => ⟨g51976, g51972⟩, ⟨fun _ => (by have y90 : (0 : Int32).toInt ≤ x0.toInt := (lz_le _ _).mp (rg_nlt c51964); have y91 : (0 : Int32).toInt ≤ x1.toInt := (lz_le _ _).mp (rg_nlt c51967); have y92 : x1.toInt ≤ ((L (26 + 2 * q) 2)).toInt := (lz_le _ _).mp (rg_nlt c51970); have y93 : x0.toInt ≤ r51973.toInt := (lz_le _ _).mp (rg_nlt c51974); have y94 : Rg 0 40 x0 := g51976; have y95 : Rg 0 40 x1 := g51972; have y96 : Rg 0 40 r51973 := g51975; have y97 : Rg 0 40 x0 := g51976; have y98 : Rg 0 40 x1 := g51972; have y9c9 : (0 : Int32).toInt = 0 := (by decide); have y9c10 : (1 : Int32).toInt = 1 := (by decide); skip; omega), fun h9 => absurd h9 (by decide)⟩⟩, ht⟩) (fun q hq => absurd hq List.not_mem_nil) dX6_hasRange_31
set_option maxRecDepth 20000 in
theorem ggX6_copyTo_X6_hasRange : GoodIn wsX6_copyTo wsX6_hasRange := goodIn_r _ [10, 11, 12, 13, 14] rfl (by decide +kernel)
set_option maxRecDepth 20000 in
theorem gX6_copyTo_X6_hasRange : GoodIn wsX6_copyTo (wsV RX6 31 RX6 yX6_hasRange wsX6_hasRange) := goodIn_app (goodIn_of _ (by decide +kernel)) ggX6_copyTo_X6_hasRange
theorem dX6_copyTo_0 : decode cX6_copyTo 0 = .ok (.aload_n 0, 1) := by decide +kernel
theorem dX6_copyTo_1 : decode cX6_copyTo 1 = .ok (.iload_n 1, 1) := by decide +kernel
theorem dX6_copyTo_10 : decode cX6_copyTo 10 = .ok (.aload_n 2, 1) := by decide +kernel
theorem dX6_copyTo_11 : decode cX6_copyTo 11 = .ok (.iload_n 3, 1) := by decide +kernel
theorem dX6_copyTo_12 : decode cX6_copyTo 12 = .ok (.iload 4, 2) := by decide +kernel
theorem dX6_copyTo_14 : decode cX6_copyTo 14 = .ok (.invokevirtual 31, 3) := by decide +kernel
theorem dX6_copyTo_17 : decode cX6_copyTo 17 = .ok (.ifCond .eq 18, 3) := by decide +kernel
theorem dX6_copyTo_2 : decode cX6_copyTo 2 = .ok (.iload 4, 2) := by decide +kernel
theorem dX6_copyTo_20 : decode cX6_copyTo 20 = .ok (.aload_n 0, 1) := by decide +kernel
theorem dX6_copyTo_21 : decode cX6_copyTo 21 = .ok (.getfield 9, 3) := by decide +kernel
theorem dX6_copyTo_24 : decode cX6_copyTo 24 = .ok (.iload_n 1, 1) := by decide +kernel
theorem dX6_copyTo_25 : decode cX6_copyTo 25 = .ok (.aload_n 2, 1) := by decide +kernel
theorem dX6_copyTo_26 : decode cX6_copyTo 26 = .ok (.getfield 9, 3) := by decide +kernel
theorem dX6_copyTo_29 : decode cX6_copyTo 29 = .ok (.iload_n 3, 1) := by decide +kernel
theorem dX6_copyTo_30 : decode cX6_copyTo 30 = .ok (.iload 4, 2) := by decide +kernel
theorem dX6_copyTo_32 : decode cX6_copyTo 32 = .ok (.invokestatic 35, 3) := by decide +kernel
theorem dX6_copyTo_35 : decode cX6_copyTo 35 = .ok (.return_, 1) := by decide +kernel
theorem dX6_copyTo_4 : decode cX6_copyTo 4 = .ok (.invokevirtual 31, 3) := by decide +kernel
theorem dX6_copyTo_7 : decode cX6_copyTo 7 = .ok (.ifCond .eq 28, 3) := by decide +kernel
set_option maxHeartbeats 4000000 in
set_option maxRecDepth 100000 in
theorem k_X6_copyTo (l : Launch) (D : va_G) (cI cS : ClassId) (sz : Nat) (a : Nat → Nat) (na nc N : Nat) (L u0 : SU) (hL : TyX L) (hN : N = 0 ∨ N = 24576) (q : Nat) (hq : q < 4) (q2 : Nat) (hq2 : q2 < 4) (x0 x1 x2 : Int32) : Met l yX6_copyTo wsX6_copyTo ({ frames := 1, cells := 0, slots := 0, locals := 40 }) (PQ D cI cS (wX cI cS a na nc N L u0) sz [.ref (a (26 + 2 * q)), .int x0, .ref (a (26 + 2 * q2)), .int x1, .int x2]) (QE (S := SU) D (wX cI cS a na nc N L u0) (wX cI cS a na nc N L) sz (fun _ => True)) 0 0 (va_A (wX cI cS a na nc N L u0) sz) := by
  refine Met.ofW (cc := cX6_copyTo) (maxL := 5) (ret := none) (by decide) rfl ?_
  intro p e s m args below meth c s₁ B hml hv
  obtain ⟨rfl, hsz, hP, hKK, hD0⟩ := hv
  have hx := B.exec
  have hb := B.bytes
  have hr := B.returns
  have hts := atoms_spec (ws := wsX6_copyTo) B.pre
  have hown : s.vm.findClass RX6 = some m.cls := findClass_of_methodNamed B.named
  have hlocks := B.notSynchronized
  have hK := hKK.1
  have hin6 : ∀ w ∈ wsX60, w ∈ wsX6_copyTo := by decide +kernel
  subst hsz
  have hD := hD0.self (sz := s.heap.size)
  obtain ⟨A, hAe⟩ : ∃ A, A = va_A (wX cI cS a na nc N L u0) s.heap.size := ⟨_, rfl⟩
  rw [← hAe] at hD
  have hA : ∀ q : Nat, s.heap.size ≤ q → A q := fun q h => by rw [hAe]; exact Or.inr h
  have hS : va_S A s.heap s.heap [] := va_S.rf
  have hl := lv_entry ([.ref (a (26 + 2 * q)), .int x0, .ref (a (26 + 2 * q2)), .int x1, .int x2]) (n := 5) (Nat.le_of_ble_eq_true rfl)
  rw [lg_entry_eq]
  generalize (lg_sl ([.ref (a (26 + 2 * q)), .int x0, .ref (a (26 + 2 * q2)), .int x1, .int x2]) ++ List.replicate (5 - (lg_sl ([.ref (a (26 + 2 * q)), .int x0, .ref (a (26 + 2 * q2)), .int x1, .int x2])).length) Slot.unset).toArray = ls at hl ⊢
  have hl : lv_has ls 5 [(0, .ref (a (26 + 2 * q))), (1, .int x0), (2, .ref (a (26 + 2 * q2))), (3, .int x1), (4, .int x2)] := hl
  obtain ⟨u, hu9⟩ : ∃ u : SU, u = u0 := ⟨_, rfl⟩
  rw [← hu9] at hP hD
  refine lv_aload_n hx hb dX6_copyTo_0 rfl (lv_at hl 0 rfl) ?_
  refine lv_iload_n hx hb dX6_copyTo_1 rfl (lv_at hl 1 rfl) ?_
  refine lv_iload hx hb dX6_copyTo_2 (lv_at hl 4 rfl) ?_
  refine wk_sv (26 + 2 * q) (As := [.int x0, .int x2]) (rest := []) ⟨hx, hb, hml, hown, hts⟩ (k_X6_hasRange_z l D cI cS a na nc N L u hL hN q hq x0 x2) hKK hP (ci := 6) rfl (gx_sh hq) (cwV 2 hts gX6_copyTo_X6_hasRange rfl rfl rfl (by decide +kernel) ⟨Nat.le_of_ble_eq_true rfl, Nat.le_of_ble_eq_true rfl⟩) rfl hl.1 rfl (Nat.le_of_ble_eq_true rfl) dX6_copyTo_4 ⟨Nat.le_of_ble_eq_true rfl, Nat.le_of_ble_eq_true rfl⟩ (fun r51992 hr51992 => ?_)
  refine lv_if_eq (tgt := 35) hx hb dX6_copyTo_7 (by decide) (fun c51993 => ?_) (fun c51993 => ?_)
  · have zn51994 : ¬ (0 ≤ x0.toInt ∧ 0 ≤ x2.toInt ∧ x0.toInt + x2.toInt ≤ (L (26 + 2 * q) 2).toInt) := hr51992.2.2.2 c51993
    have g51995 : Rg 0 0 r51992 := wk_eql hr51992.1 (by decide : Rg 0 0 (0 : Int32)) c51993 (by decide)
    subst hAe
    exact W.vret hx hb hr (fun t ht hW => ⟨⟨u, rfl, trivial, by rw [ht]; exact hP, hD⟩, hS.F ht⟩) hS.2.2 dX6_copyTo_35
  · have g51996 : Rg 0 40 x0 := (hr51992.2.1 c51993).1
    have g51997 : Rg 0 40 x2 := (hr51992.2.1 c51993).2
    have zn51998 : (0 ≤ x0.toInt ∧ 0 ≤ x2.toInt ∧ x0.toInt + x2.toInt ≤ (L (26 + 2 * q) 2).toInt) := hr51992.2.2.1 c51993
    have g51999 : Rg 1 1 r51992 := rg_ne_lo (k := 0) hr51992.1 (by decide) c51993 (by decide)
    refine lv_aload_n hx hb dX6_copyTo_10 rfl (lv_at hl 2 rfl) ?_
    refine lv_iload_n hx hb dX6_copyTo_11 rfl (lv_at hl 3 rfl) ?_
    refine lv_iload hx hb dX6_copyTo_12 (lv_at hl 4 rfl) ?_
    refine wk_sv (26 + 2 * q2) (As := [.int x1, .int x2]) (rest := []) ⟨hx, hb, hml, hown, hts⟩ (k_X6_hasRange_z l D cI cS a na nc N L u hL hN q2 hq2 x1 x2) hKK hP (ci := 6) rfl (gx_sh hq2) (cwV 2 hts gX6_copyTo_X6_hasRange rfl rfl rfl (by decide +kernel) ⟨Nat.le_of_ble_eq_true rfl, Nat.le_of_ble_eq_true rfl⟩) rfl hl.1 rfl (Nat.le_of_ble_eq_true rfl) dX6_copyTo_14 ⟨Nat.le_of_ble_eq_true rfl, Nat.le_of_ble_eq_true rfl⟩ (fun r52000 hr52000 => ?_)
    refine lv_if_eq (tgt := 35) hx hb dX6_copyTo_17 (by decide) (fun c52001 => ?_) (fun c52001 => ?_)
    · have zn52002 : ¬ (0 ≤ x1.toInt ∧ 0 ≤ x2.toInt ∧ x1.toInt + x2.toInt ≤ (L (26 + 2 * q2) 2).toInt) := hr52000.2.2.2 c52001
      have g52003 : Rg 0 0 r52000 := wk_eql hr52000.1 (by decide : Rg 0 0 (0 : Int32)) c52001 (by decide)
      subst hAe
      exact W.vret hx hb hr (fun t ht hW => ⟨⟨u, rfl, trivial, by rw [ht]; exact hP, hD⟩, hS.F ht⟩) hS.2.2 dX6_copyTo_35
    · have g52004 : Rg 0 40 x1 := (hr52000.2.1 c52001).1
      have zn52005 : (0 ≤ x1.toInt ∧ 0 ≤ x2.toInt ∧ x1.toInt + x2.toInt ≤ (L (26 + 2 * q2) 2).toInt) := hr52000.2.2.1 c52001
      have g52006 : Rg 1 1 r52000 := rg_ne_lo (k := 0) hr52000.1 (by decide) c52001 (by decide)
      refine lv_aload_n hx hb dX6_copyTo_20 rfl (lv_at hl 0 rfl) ?_
      refine va_get (D := D) (ci := 6) (v := .ref (a (27 + 2 * q))) (C := RX6) (T := TX6) (N := 3) hx hb hts hin6 hown hK hP (26 + 2 * q) (gx_sh hq) rfl 0 (by decide) (hts (.fieldLink RX6 9 "MissedPoints$Sheet" "numbers" "[I") (by decide +kernel)) (fun _ h9 => h9) rfl dX6_copyTo_21 ?_
      refine lv_iload_n hx hb dX6_copyTo_24 rfl (lv_at hl 1 rfl) ?_
      refine lv_aload_n hx hb dX6_copyTo_25 rfl (lv_at hl 2 rfl) ?_
      refine va_get (D := D) (ci := 6) (v := .ref (a (27 + 2 * q2))) (C := RX6) (T := TX6) (N := 3) hx hb hts hin6 hown hK hP (26 + 2 * q2) (gx_sh hq2) rfl 0 (by decide) (hts (.fieldLink RX6 9 "MissedPoints$Sheet" "numbers" "[I") (by decide +kernel)) (fun _ h9 => h9) rfl dX6_copyTo_26 ?_
      refine lv_iload_n hx hb dX6_copyTo_29 rfl (lv_at hl 3 rfl) ?_
      refine lv_iload hx hb dX6_copyTo_30 (lv_at hl 4 rfl) ?_
      refine va_copyi hx hb (by rw [hml]; exact hl.1.symm) hown (hts (.methodLink RX6 35 arraycopyName) (by decide +kernel)) (hts (.native arraycopyName) (by decide +kernel)) (hts (.static arraycopyName) (by decide +kernel)) (hts (.initialized "java/lang/System") (by decide +kernel)) hK hP hD hS (27 + 2 * q) (27 + 2 * q2) 0 0 (gx_shn hq) (gx_shn hq2) rfl rfl rfl (fun z => absurd ((lz_lt _ _).mp z) (by have z1 := g51996; have z2 : (0 : Int32).toInt = 0 := (by decide); omega)) (fun z => absurd ((lz_lt _ _).mp z) (by have z1 := g52004; have z2 : (0 : Int32).toInt = 0 := (by decide); omega)) (fun z => absurd ((lz_lt _ _).mp z) (by have z1 := g51997; have z2 : (0 : Int32).toInt = 0 := (by decide); omega)) (wk_cpy g51996 g51997 (by decide) (by decide) (by have y90 : ¬ r51992.toInt = (0 : Int32).toInt := fun z => c51993 (Int32.toInt_inj.mp z); have y91 : ¬ r52000.toInt = (0 : Int32).toInt := fun z => c52001 (Int32.toInt_inj.mp z); have y92 : Rg 0 40 x0 := g51996; have y93 : Rg 0 40 x2 := g51997; have y94 : Rg 1 1 r51992 := g51999; have y95 : Rg 0 40 x1 := g52004; have y96 : Rg 1 1 r52000 := g52006; have y97 : Rg 0 40 x0 := g51996; have y98 : Rg 0 40 x1 := g52004; have y99 : Rg 0 40 x2 := g51997; have y910 : Rg 0 40 x2 := g51997; have y911 : Rg 0 40 x1 := g52004; have y912 : Rg 0 40 x0 := g51996; have y9c13 : (0 : Int32).toInt = 0 := (by decide); have y9c14 : (1 : Int32).toInt = 1 := (by decide); have z70 := hL.sh hq; have z71 := hL.sh hq2; omega)) (wk_cpy g52004 g51997 (by decide) (by decide) (by have y90 : ¬ r51992.toInt = (0 : Int32).toInt := fun z => c51993 (Int32.toInt_inj.mp z); have y91 : ¬ r52000.toInt = (0 : Int32).toInt := fun z => c52001 (Int32.toInt_inj.mp z); have y92 : Rg 0 40 x0 := g51996; have y93 : Rg 0 40 x2 := g51997; have y94 : Rg 1 1 r51992 := g51999; have y95 : Rg 0 40 x1 := g52004; have y96 : Rg 1 1 r52000 := g52006; have y97 : Rg 0 40 x0 := g51996; have y98 : Rg 0 40 x1 := g52004; have y99 : Rg 0 40 x2 := g51997; have y910 : Rg 0 40 x2 := g51997; have y911 : Rg 0 40 x1 := g52004; have y912 : Rg 0 40 x0 := g51996; have y9c13 : (0 : Int32).toInt = 0 := (by decide); have y9c14 : (1 : Int32).toInt = 1 := (by decide); have z70 := hL.sh hq; have z71 := hL.sh hq2; omega)) (fun _ _ => rfl) (Nat.le_of_ble_eq_true rfl) (Nat.le_of_ble_eq_true rfl) dX6_copyTo_32 (fun H locs hP hD hS => ?_)
      rw [sx_shn hq2] at hP hD
      generalize sU u (27 + 2 * q2) _ = u at hP hD
      subst hAe
      exact W.vret hx hb hr (fun t ht hW => ⟨⟨u, rfl, trivial, by rw [ht]; exact hP, hD⟩, hS.F ht⟩) hS.2.2 dX6_copyTo_35
set_option maxHeartbeats 4000000 in
set_option maxRecDepth 100000 in
theorem k_X6_isMissing_z (l : Launch) (D : va_G) (cI cS : ClassId) (a : Nat → Nat) (na nc N : Nat) (L u : SU) (hL : TyX L) (hN : N = 0 ∨ N = 24576) (q : Nat) (hq : q < 4) : Met l yX6_isMissing wsX6_isMissing ({ frames := 0, cells := 0, slots := 0, locals := 0 }) (PS D cI cS (wX cI cS a na nc N L u) [.ref (a (26 + 2 * q))]) (vp_Si (fun r => Rg 0 1 r ∧ ((r ≠ 0 → (L (26 + 2 * q) 1).toInt = -1) ∧ (r = 0 → ¬ (L (26 + 2 * q) 1).toInt = -1)))) 0 0 (fun _ => False) := by
  refine Met.ofW (cc := cX6_isMissing) (maxL := 1) (ret := (some .boolean)) (by decide) rfl ?_
  intro p e s m args below meth c s₁ B hml hv
  obtain ⟨rfl, hP, hKK⟩ := hv
  have hx := B.exec
  have hb := B.bytes
  have hr := B.returns
  have hts := atoms_spec (ws := wsX6_isMissing) B.pre
  have hown : s.vm.findClass RX6 = some m.cls := findClass_of_methodNamed B.named
  have hlocks := B.notSynchronized
  have hK := hKK.1
  have hin6 : ∀ w ∈ wsX60, w ∈ wsX6_isMissing := by decide +kernel
  have hl := lv_entry ([.ref (a (26 + 2 * q))]) (n := 1) (Nat.le_of_ble_eq_true rfl)
  rw [lg_entry_eq]
  generalize (lg_sl ([.ref (a (26 + 2 * q))]) ++ List.replicate (1 - (lg_sl ([.ref (a (26 + 2 * q))])).length) Slot.unset).toArray = ls at hl ⊢
  have hl : lv_has ls 1 [(0, .ref (a (26 + 2 * q)))] := hl
  refine lv_aload_n hx hb dX6_isMissing_0 rfl (lv_at hl 0 rfl) ?_
  refine va_get (D := D) (ci := 6) (v := .int ((L (26 + 2 * q) 1))) (C := RX6) (T := TX6) (N := 3) hx hb hts hin6 hown hK hP (26 + 2 * q) (gx_sh hq) rfl 1 (by decide) (hts (.fieldLink RX6 15 "MissedPoints$Sheet" "sort" "I") (by decide +kernel)) (fun _ h9 => h9) rfl dX6_isMissing_1 ?_
  refine lv_iconst (v := (-1)) hx hb dX6_isMissing_4 (by decide) ?_
  refine lv_icmp_ne (tgt := 12) hx hb dX6_isMissing_5 (by decide) (fun c52009 => ?_) (fun c52009 => ?_)
  · refine lv_iconst (v := 0) hx hb dX6_isMissing_12 (by decide) ?_
    exact W.zret (v := 0) hx hb hr (by decide) (fun t ht hW => ⟨_, rfl, ⟨(by decide : Rg 0 1 (0 : Int32)), ⟨fun h9 => absurd rfl h9, fun _ => (by have y90 : ¬ ((L (26 + 2 * q) 1)).toInt = ((-1) : Int32).toInt := fun z => c52009 (Int32.toInt_inj.mp z); have y9c1 : ((-1) : Int32).toInt = -1 := (by decide); have y9c2 : (0 : Int32).toInt = 0 := (by decide); have y9c3 : (1 : Int32).toInt = 1 := (by decide); have z5 : (-1 : Int32).toInt = -1 := (by decide); omega)⟩⟩, ht⟩) (fun q hq => absurd hq List.not_mem_nil) dX6_isMissing_13
  · have g52010 : Rg (-1) (-1) ((L (26 + 2 * q) 1)) := wk_eql (rg_any ((L (26 + 2 * q) 1))) (by decide : Rg (-1) (-1) ((-1) : Int32)) c52009 (by decide)
    refine lv_iconst (v := 1) hx hb dX6_isMissing_8 (by decide) ?_
    refine lv_goto (tgt := 13) hx hb dX6_isMissing_9 (by decide) ?_
    exact W.zret (v := 1) hx hb hr (by decide) (fun t ht hW => ⟨_, rfl, ⟨(by decide : Rg 0 1 (1 : Int32)), ⟨fun _ => (by have y90 : ((L (26 + 2 * q) 1)).toInt = ((-1) : Int32).toInt := congrArg Int32.toInt c52009; have y91 : Rg (-1) (-1) ((L (26 + 2 * q) 1)) := g52010; have y9c2 : ((-1) : Int32).toInt = -1 := (by decide); have y9c3 : (0 : Int32).toInt = 0 := (by decide); have y9c4 : (1 : Int32).toInt = 1 := (by decide); have z5 : (-1 : Int32).toInt = -1 := (by decide); omega), fun h9 => absurd h9 (by decide)⟩⟩, ht⟩) (fun q hq => absurd hq List.not_mem_nil) dX6_isMissing_13
set_option maxHeartbeats 4000000 in
set_option maxRecDepth 100000 in
theorem k_X11_refusalOfSheet_E (l : Launch) (D : va_G) (cI cS : ClassId) (a : Nat → Nat) (na nc N : Nat) (L u : SU) (hL : TyX L) (hN : N = 0 ∨ N = 24576) (x0 : Int32) : Met l yX11_refusalOfSheet wsX11_refusalOfSheet ({ frames := 1, cells := 0, slots := 0, locals := 40 }) (PS D cI cS (wX cI cS a na nc N L u) [.ref (a 0), .int x0]) (vp_Si (fun r => Rg (-11) 0 r ∧ (r = 0 → Rg 0 3 x0) ∧ ((x0.toInt < 0 ∨ 3 < x0.toInt → r.toInt = -2) ∧ (0 ≤ x0.toInt → x0.toInt ≤ 3 → (L (26 + 2 * x0.toNatClampNeg) 1).toInt = -1 → r.toInt = -11) ∧ (0 ≤ x0.toInt → x0.toInt ≤ 3 → ¬ (L (26 + 2 * x0.toNatClampNeg) 1).toInt = -1 → r.toInt = 0)))) 0 0 (fun _ => False) := by
  refine Met.ofW (cc := cX11_refusalOfSheet) (maxL := 2) (ret := (some .int)) (by decide) rfl ?_
  intro p e s m args below meth c s₁ B hml hv
  obtain ⟨rfl, hP, hKK⟩ := hv
  have hx := B.exec
  have hb := B.bytes
  have hr := B.returns
  have hts := atoms_spec (ws := wsX11_refusalOfSheet) B.pre
  have hown : s.vm.findClass RX11 = some m.cls := findClass_of_methodNamed B.named
  have hlocks := B.notSynchronized
  have hK := hKK.1
  have hin11 : ∀ w ∈ wsX110, w ∈ wsX11_refusalOfSheet := by decide +kernel
  have hl := lv_entry ([.ref (a 0), .int x0]) (n := 2) (Nat.le_of_ble_eq_true rfl)
  rw [lg_entry_eq]
  generalize (lg_sl ([.ref (a 0), .int x0]) ++ List.replicate (2 - (lg_sl ([.ref (a 0), .int x0])).length) Slot.unset).toArray = ls at hl ⊢
  have hl : lv_has ls 2 [(0, .ref (a 0)), (1, .int x0)] := hl
  refine lv_iload_n hx hb dX11_refusalOfSheet_0 rfl (lv_at hl 1 rfl) ?_
  refine lz_ss (As := [.int x0]) (rest := []) ⟨hx, hb, hml, hown, hts⟩ (k_X11_isSheet_z l D cI cS x0) hKK (hP.sub (ws' := []) [] rfl) (va_cwS 1 hts gX11_refusalOfSheet_X11_isSheet rfl rfl rfl (by decide +kernel) ⟨Nat.le_of_ble_eq_true rfl, Nat.le_of_ble_eq_true rfl⟩) rfl hl.1 rfl (Nat.le_of_ble_eq_true rfl) dX11_refusalOfSheet_1 ⟨Nat.le_of_ble_eq_true rfl, Nat.le_of_ble_eq_true rfl⟩ (fun r52024 hr52024 => ?_)
  refine lv_if_ne (tgt := 10) hx hb dX11_refusalOfSheet_4 (by decide) (fun c52025 => ?_) (fun c52025 => ?_)
  · have g52026 : Rg 0 3 x0 := (hr52024.2.1 c52025)
    have g52027 : Rg 1 1 r52024 := rg_ne_lo (k := 0) hr52024.1 (by decide) c52025 (by decide)
    refine lv_aload_n hx hb dX11_refusalOfSheet_10 rfl (lv_at hl 0 rfl) ?_
    refine va_get (D := D) (ci := 11) (v := .ref (a 25)) (C := RX11) (T := TX11) (N := 16) hx hb hts hin11 hown hK hP 0 rfl rfl 12 (by decide) (hts (.fieldLink RX11 75 "MissedPoints" "sheets" "[LMissedPoints$Sheet;") (by decide +kernel)) (fun _ h9 => h9) rfl dX11_refusalOfSheet_11 ?_
    refine lv_iload_n hx hb dX11_refusalOfSheet_14 rfl (lv_at hl 1 rfl) ?_
    obtain ⟨q52028, hq52028, eq52028, zq52028⟩ := ks_sh (a := a) g52026
    refine va_aldq hx hb hK hP 25 1 rfl rfl (rg_in g52026 (by decide) (by decide)) dX11_refusalOfSheet_15 ?_
    refine lz_va (y := .ref (a (26 + 2 * q52028))) (by show va_rf _ = _; rw [zq52028]; rfl) ?_
    have esq52028_1 : (L (26 + 2 * x0.toNatClampNeg) 1).toInt = (L (26 + 2 * q52028) 1).toInt := by rw [eq52028]
    have esq52028_2 : (L (26 + 2 * x0.toNatClampNeg) 2).toInt = (L (26 + 2 * q52028) 2).toInt := by rw [eq52028]
    refine wk_sv (26 + 2 * q52028) (As := []) (rest := []) ⟨hx, hb, hml, hown, hts⟩ (k_X6_isMissing_z l D cI cS a na nc N L u hL hN q52028 hq52028) hKK hP (ci := 6) rfl (gx_sh hq52028) (cwV 0 hts gX11_refusalOfSheet_X6_isMissing rfl rfl rfl (by decide +kernel) ⟨Nat.le_of_ble_eq_true rfl, Nat.le_of_ble_eq_true rfl⟩) rfl hl.1 rfl (Nat.le_of_ble_eq_true rfl) dX11_refusalOfSheet_16 ⟨Nat.le_of_ble_eq_true rfl, Nat.le_of_ble_eq_true rfl⟩ (fun r52029 hr52029 => ?_)
    refine lv_if_eq (tgt := 27) hx hb dX11_refusalOfSheet_19 (by decide) (fun c52030 => ?_) (fun c52030 => ?_)
    · have zn52031 : ¬ (L (26 + 2 * q52028) 1).toInt = -1 := hr52029.2.2 c52030
      have g52032 : Rg 0 0 r52029 := wk_eql hr52029.1 (by decide : Rg 0 0 (0 : Int32)) c52030 (by decide)
      refine lv_iconst (v := 0) hx hb dX11_refusalOfSheet_27 (by decide) ?_
      exact W.iret (v := 0) hx hb hr (fun t ht hW => ⟨_, rfl, ⟨(by decide : Rg (-11) 0 (0 : Int32)), fun _ => g52026, (by have y90 : ¬ r52024.toInt = (0 : Int32).toInt := fun z => c52025 (Int32.toInt_inj.mp z); have y91 : r52029.toInt = (0 : Int32).toInt := congrArg Int32.toInt c52030; have y92 : Rg 0 3 x0 := g52026; have y93 : Rg 1 1 r52024 := g52027; have y94 : Rg 0 0 r52029 := g52032; have y95 : Rg 0 3 x0 := g52026; have y9c6 : (0 : Int32).toInt = 0 := (by decide); have y9c7 : (1 : Int32).toInt = 1 := (by decide); skip; omega)⟩, ht⟩) (fun q hq => absurd hq List.not_mem_nil) dX11_refusalOfSheet_28
    · have zn52033 : (L (26 + 2 * q52028) 1).toInt = -1 := hr52029.2.1 c52030
      have g52034 : Rg 1 1 r52029 := rg_ne_lo (k := 0) hr52029.1 (by decide) c52030 (by decide)
      refine lv_bipush (v := (-11)) hx hb dX11_refusalOfSheet_22 (by decide) ?_
      refine lv_goto (tgt := 28) hx hb dX11_refusalOfSheet_24 (by decide) ?_
      exact W.iret (v := (-11)) hx hb hr (fun t ht hW => ⟨_, rfl, ⟨(by decide : Rg (-11) 0 ((-11) : Int32)), fun h9 => absurd h9 (by decide), (by have y90 : ¬ r52024.toInt = (0 : Int32).toInt := fun z => c52025 (Int32.toInt_inj.mp z); have y91 : ¬ r52029.toInt = (0 : Int32).toInt := fun z => c52030 (Int32.toInt_inj.mp z); have y92 : Rg 0 3 x0 := g52026; have y93 : Rg 1 1 r52024 := g52027; have y94 : Rg 1 1 r52029 := g52034; have y95 : Rg 0 3 x0 := g52026; have y9c6 : ((-11) : Int32).toInt = -11 := (by decide); have y9c7 : (0 : Int32).toInt = 0 := (by decide); have y9c8 : (1 : Int32).toInt = 1 := (by decide); skip; omega)⟩, ht⟩) (fun q hq => absurd hq List.not_mem_nil) dX11_refusalOfSheet_28
  · have zt52035 : (x0.toInt < 0 ∨ 3 < x0.toInt) := hr52024.2.2 c52025
    have g52036 : Rg 0 0 r52024 := wk_eql hr52024.1 (by decide : Rg 0 0 (0 : Int32)) c52025 (by decide)
    refine lv_bipush (v := (-2)) hx hb dX11_refusalOfSheet_7 (by decide) ?_
    exact W.iret (v := (-2)) hx hb hr (fun t ht hW => ⟨_, rfl, ⟨(by decide : Rg (-11) 0 ((-2) : Int32)), fun h9 => absurd h9 (by decide), (by have y90 : r52024.toInt = (0 : Int32).toInt := congrArg Int32.toInt c52025; have y91 : Rg 0 0 r52024 := g52036; have y9c2 : ((-2) : Int32).toInt = -2 := (by decide); have y9c3 : (0 : Int32).toInt = 0 := (by decide); have y9c4 : (1 : Int32).toInt = 1 := (by decide); skip; omega)⟩, ht⟩) (fun q hq => absurd hq List.not_mem_nil) dX11_refusalOfSheet_9
set_option maxHeartbeats 4000000 in
set_option maxRecDepth 100000 in
theorem k_X11_refusalOfNumber_E (l : Launch) (D : va_G) (cI cS : ClassId) (a : Nat → Nat) (na nc N : Nat) (L u : SU) (hL : TyX L) (hN : N = 0 ∨ N = 24576) (x0 x1 : Int32) : Met l yX11_refusalOfNumber wsX11_refusalOfNumber ({ frames := 2, cells := 0, slots := 0, locals := 80 }) (PS D cI cS (wX cI cS a na nc N L u) [.ref (a 0), .int x0, .int x1]) (vp_Si (fun r => Rg (-12) 0 r ∧ (r = 0 → Rg 0 3 x0 ∧ Rg 0 40 x1) ∧ ((x0.toInt < 0 ∨ 3 < x0.toInt → r.toInt = -2) ∧ (0 ≤ x0.toInt → x0.toInt ≤ 3 → (L (26 + 2 * x0.toNatClampNeg) 1).toInt = -1 → r.toInt = -11) ∧ (0 ≤ x0.toInt → x0.toInt ≤ 3 → ¬ (L (26 + 2 * x0.toNatClampNeg) 1).toInt = -1 → (x1.toInt < 0 ∨ (L (26 + 2 * x0.toNatClampNeg) 2).toInt ≤ x1.toInt) → r.toInt = -12) ∧ (0 ≤ x0.toInt → x0.toInt ≤ 3 → ¬ (L (26 + 2 * x0.toNatClampNeg) 1).toInt = -1 → 0 ≤ x1.toInt → x1.toInt < (L (26 + 2 * x0.toNatClampNeg) 2).toInt → r.toInt = 0)))) 0 0 (fun _ => False) := by
  refine Met.ofW (cc := cX11_refusalOfNumber) (maxL := 4) (ret := (some .int)) (by decide) rfl ?_
  intro p e s m args below meth c s₁ B hml hv
  obtain ⟨rfl, hP, hKK⟩ := hv
  have hx := B.exec
  have hb := B.bytes
  have hr := B.returns
  have hts := atoms_spec (ws := wsX11_refusalOfNumber) B.pre
  have hown : s.vm.findClass RX11 = some m.cls := findClass_of_methodNamed B.named
  have hlocks := B.notSynchronized
  have hK := hKK.1
  have hin11 : ∀ w ∈ wsX110, w ∈ wsX11_refusalOfNumber := by decide +kernel
  have hl := lv_entry ([.ref (a 0), .int x0, .int x1]) (n := 4) (Nat.le_of_ble_eq_true rfl)
  rw [lg_entry_eq]
  generalize (lg_sl ([.ref (a 0), .int x0, .int x1]) ++ List.replicate (4 - (lg_sl ([.ref (a 0), .int x0, .int x1])).length) Slot.unset).toArray = ls at hl ⊢
  have hl : lv_has ls 4 [(0, .ref (a 0)), (1, .int x0), (2, .int x1)] := hl
  refine lv_aload_n hx hb dX11_refusalOfNumber_0 rfl (lv_at hl 0 rfl) ?_
  refine lv_iload_n hx hb dX11_refusalOfNumber_1 rfl (lv_at hl 1 rfl) ?_
  refine wk_sv 0 (As := [.int x0]) (rest := []) ⟨hx, hb, hml, hown, hts⟩ (k_X11_refusalOfSheet_E l D cI cS a na nc N L u hL hN x0) hKK hP (ci := 11) rfl rfl (cwV 1 hts gX11_refusalOfNumber_X11_refusalOfSheet rfl rfl rfl (by decide +kernel) ⟨Nat.le_of_ble_eq_true rfl, Nat.le_of_ble_eq_true rfl⟩) rfl hl.1 rfl (Nat.le_of_ble_eq_true rfl) dX11_refusalOfNumber_2 ⟨Nat.le_of_ble_eq_true rfl, Nat.le_of_ble_eq_true rfl⟩ (fun r52051 hr52051 => ?_)
  have wq52052 : ((x0.toInt < 0 ∨ 3 < x0.toInt → r52051.toInt = -2) ∧ (0 ≤ x0.toInt → x0.toInt ≤ 3 → (L (26 + 2 * x0.toNatClampNeg) 1).toInt = -1 → r52051.toInt = -11) ∧ (0 ≤ x0.toInt → x0.toInt ≤ 3 → ¬ (L (26 + 2 * x0.toNatClampNeg) 1).toInt = -1 → r52051.toInt = 0)) := hr52051.2.2
  refine lv_istore_n (lv' := [(3, .int r52051), (0, .ref (a 0)), (1, .int x0), (2, .int x1)]) hx hb dX11_refusalOfNumber_5 rfl hl (by decide) rfl (fun ls hl => ?_)
  refine lv_iload_n hx hb dX11_refusalOfNumber_6 rfl (lv_at hl 0 rfl) ?_
  refine lv_if_eq (tgt := 12) hx hb dX11_refusalOfNumber_7 (by decide) (fun c52053 => ?_) (fun c52053 => ?_)
  · have g52054 : Rg 0 3 x0 := (hr52051.2.1 c52053)
    have g52055 : Rg 0 0 r52051 := wk_eql hr52051.1 (by decide : Rg 0 0 (0 : Int32)) c52053 (by decide)
    refine lv_aload_n hx hb dX11_refusalOfNumber_12 rfl (lv_at hl 1 rfl) ?_
    refine va_get (D := D) (ci := 11) (v := .ref (a 25)) (C := RX11) (T := TX11) (N := 16) hx hb hts hin11 hown hK hP 0 rfl rfl 12 (by decide) (hts (.fieldLink RX11 75 "MissedPoints" "sheets" "[LMissedPoints$Sheet;") (by decide +kernel)) (fun _ h9 => h9) rfl dX11_refusalOfNumber_13 ?_
    refine lv_iload_n hx hb dX11_refusalOfNumber_16 rfl (lv_at hl 2 rfl) ?_
    obtain ⟨q52056, hq52056, eq52056, zq52056⟩ := ks_sh (a := a) g52054
    refine va_aldq hx hb hK hP 25 1 rfl rfl (rg_in g52054 (by decide) (by decide)) dX11_refusalOfNumber_17 ?_
    refine lz_va (y := .ref (a (26 + 2 * q52056))) (by show va_rf _ = _; rw [zq52056]; rfl) ?_
    have esq52056_1 : (L (26 + 2 * x0.toNatClampNeg) 1).toInt = (L (26 + 2 * q52056) 1).toInt := by rw [eq52056]
    have esq52056_2 : (L (26 + 2 * x0.toNatClampNeg) 2).toInt = (L (26 + 2 * q52056) 2).toInt := by rw [eq52056]
    refine lv_iload_n hx hb dX11_refusalOfNumber_18 rfl (lv_at hl 3 rfl) ?_
    refine lv_iconst (v := 1) hx hb dX11_refusalOfNumber_19 (by decide) ?_
    refine wk_sv (26 + 2 * q52056) (As := [.int x1, .int 1]) (rest := []) ⟨hx, hb, hml, hown, hts⟩ (k_X6_hasRange_z l D cI cS a na nc N L u hL hN q52056 hq52056 x1 (1 : Int32)) hKK hP (ci := 6) rfl (gx_sh hq52056) (cwV 2 hts gX11_refusalOfNumber_X6_hasRange rfl rfl rfl (by decide +kernel) ⟨Nat.le_of_ble_eq_true rfl, Nat.le_of_ble_eq_true rfl⟩) rfl hl.1 rfl (Nat.le_of_ble_eq_true rfl) dX11_refusalOfNumber_20 ⟨Nat.le_of_ble_eq_true rfl, Nat.le_of_ble_eq_true rfl⟩ (fun r52057 hr52057 => ?_)
    refine lv_if_eq (tgt := 30) hx hb dX11_refusalOfNumber_23 (by decide) (fun c52058 => ?_) (fun c52058 => ?_)
    · have zn52059 : ¬ (0 ≤ x1.toInt ∧ 0 ≤ (1 : Int32).toInt ∧ x1.toInt + (1 : Int32).toInt ≤ (L (26 + 2 * q52056) 2).toInt) := hr52057.2.2.2 c52058
      have g52060 : Rg 0 0 r52057 := wk_eql hr52057.1 (by decide : Rg 0 0 (0 : Int32)) c52058 (by decide)
      refine lv_bipush (v := (-12)) hx hb dX11_refusalOfNumber_30 (by decide) ?_
      exact W.iret (v := (-12)) hx hb hr (fun t ht hW => ⟨_, rfl, ⟨(by decide : Rg (-12) 0 ((-12) : Int32)), fun h9 => absurd h9 (by decide), (by have y90 : r52051.toInt = (0 : Int32).toInt := congrArg Int32.toInt c52053; have y91 : r52057.toInt = (0 : Int32).toInt := congrArg Int32.toInt c52058; have y92 : Rg 0 3 x0 := g52054; have y93 : Rg 0 0 r52051 := g52055; have y94 : Rg 0 0 r52057 := g52060; have y95 : Rg 0 3 x0 := g52054; have y96 : Rg 0 0 r52051 := g52055; have y9c7 : ((-12) : Int32).toInt = -12 := (by decide); have y9c8 : (0 : Int32).toInt = 0 := (by decide); have y9c9 : (1 : Int32).toInt = 1 := (by decide); skip; omega)⟩, ht⟩) (fun q hq => absurd hq List.not_mem_nil) dX11_refusalOfNumber_32
    · have g52061 : Rg 0 40 x1 := (hr52057.2.1 c52058).1
      have zn52062 : (0 ≤ x1.toInt ∧ 0 ≤ (1 : Int32).toInt ∧ x1.toInt + (1 : Int32).toInt ≤ (L (26 + 2 * q52056) 2).toInt) := hr52057.2.2.1 c52058
      have g52063 : Rg 1 1 r52057 := rg_ne_lo (k := 0) hr52057.1 (by decide) c52058 (by decide)
      refine lv_iconst (v := 0) hx hb dX11_refusalOfNumber_26 (by decide) ?_
      refine lv_goto (tgt := 32) hx hb dX11_refusalOfNumber_27 (by decide) ?_
      exact W.iret (v := 0) hx hb hr (fun t ht hW => ⟨_, rfl, ⟨(by decide : Rg (-12) 0 (0 : Int32)), fun _ => ⟨g52054, g52061⟩, (by have y90 : r52051.toInt = (0 : Int32).toInt := congrArg Int32.toInt c52053; have y91 : ¬ r52057.toInt = (0 : Int32).toInt := fun z => c52058 (Int32.toInt_inj.mp z); have y92 : Rg 0 3 x0 := g52054; have y93 : Rg 0 0 r52051 := g52055; have y94 : Rg 0 40 x1 := g52061; have y95 : Rg 1 1 r52057 := g52063; have y96 : Rg 0 3 x0 := g52054; have y97 : Rg 0 40 x1 := g52061; have y98 : Rg 0 0 r52051 := g52055; have y9c9 : (0 : Int32).toInt = 0 := (by decide); have y9c10 : (1 : Int32).toInt = 1 := (by decide); skip; omega)⟩, ht⟩) (fun q hq => absurd hq List.not_mem_nil) dX11_refusalOfNumber_32
  · have g52064 : Rg (-11) (-1) r52051 := rg_ne_hi (k := 0) hr52051.1 (by decide) c52053 (by decide)
    refine lv_iload_n hx hb dX11_refusalOfNumber_10 rfl (lv_at hl 0 rfl) ?_
    exact W.iret (v := r52051) hx hb hr (fun t ht hW => ⟨_, rfl, ⟨(show Rg (-12) 0 r52051 from rg_w g52064 (by decide) (by decide)), fun h9 => absurd h9 (wk_nz g52064 (by decide)), (by have y90 : ¬ r52051.toInt = (0 : Int32).toInt := fun z => c52053 (Int32.toInt_inj.mp z); have y91 : Rg (-11) (-1) r52051 := g52064; have y92 : Rg (-11) (-1) r52051 := g52064; have y93 : Rg (-11) (-1) r52051 := g52064; have y94 : Rg (-11) (-1) r52051 := g52064; have y9c5 : (0 : Int32).toInt = 0 := (by decide); have y9c6 : (1 : Int32).toInt = 1 := (by decide); skip; omega)⟩, ht⟩) (fun q hq => absurd hq List.not_mem_nil) dX11_refusalOfNumber_11
set_option maxHeartbeats 4000000 in
set_option maxRecDepth 100000 in
theorem k_X11_write_E (l : Launch) (D : va_G) (cI cS : ClassId) (sz : Nat) (a : Nat → Nat) (na nc N : Nat) (L u0 : SU) (hL : TyX L) (hN : N = 0 ∨ N = 24576) (x0 x1 x2 : Int32) : Met l yX11_write wsX11_write ({ frames := 3, cells := 0, slots := 0, locals := 120 }) (PQ D cI cS (wX cI cS a na nc N L u0) sz [.ref (a 0), .int x0, .int x1, .int x2]) (QF (S := SU) D (wX cI cS a na nc N L u0) (wX cI cS a na nc N L) sz (fun r _ => Rg (-12) 1 r ∧ ((x0.toInt < 0 ∨ 3 < x0.toInt → r.toInt = -2) ∧ (0 ≤ x0.toInt → x0.toInt ≤ 3 → (L (26 + 2 * x0.toNatClampNeg) 1).toInt = -1 → r.toInt = -11) ∧ (0 ≤ x0.toInt → x0.toInt ≤ 3 → ¬ (L (26 + 2 * x0.toNatClampNeg) 1).toInt = -1 → (x1.toInt < 0 ∨ (L (26 + 2 * x0.toNatClampNeg) 2).toInt ≤ x1.toInt) → r.toInt = -12) ∧ (0 ≤ x0.toInt → x0.toInt ≤ 3 → ¬ (L (26 + 2 * x0.toNatClampNeg) 1).toInt = -1 → 0 ≤ x1.toInt → x1.toInt < (L (26 + 2 * x0.toNatClampNeg) 2).toInt → r.toInt = 1)))) 0 0 (va_A (wX cI cS a na nc N L u0) sz) := by
  refine Met.ofW (cc := cX11_write) (maxL := 5) (ret := (some .int)) (by decide) rfl ?_
  intro p e s m args below meth c s₁ B hml hv
  obtain ⟨rfl, hsz, hP, hKK, hD0⟩ := hv
  have hx := B.exec
  have hb := B.bytes
  have hr := B.returns
  have hts := atoms_spec (ws := wsX11_write) B.pre
  have hown : s.vm.findClass RX11 = some m.cls := findClass_of_methodNamed B.named
  have hlocks := B.notSynchronized
  have hK := hKK.1
  have hin11 : ∀ w ∈ wsX110, w ∈ wsX11_write := by decide +kernel
  subst hsz
  have hD := hD0.self (sz := s.heap.size)
  obtain ⟨A, hAe⟩ : ∃ A, A = va_A (wX cI cS a na nc N L u0) s.heap.size := ⟨_, rfl⟩
  rw [← hAe] at hD
  have hA : ∀ q : Nat, s.heap.size ≤ q → A q := fun q h => by rw [hAe]; exact Or.inr h
  have hS : va_S A s.heap s.heap [] := va_S.rf
  have hl := lv_entry ([.ref (a 0), .int x0, .int x1, .int x2]) (n := 5) (Nat.le_of_ble_eq_true rfl)
  rw [lg_entry_eq]
  generalize (lg_sl ([.ref (a 0), .int x0, .int x1, .int x2]) ++ List.replicate (5 - (lg_sl ([.ref (a 0), .int x0, .int x1, .int x2])).length) Slot.unset).toArray = ls at hl ⊢
  have hl : lv_has ls 5 [(0, .ref (a 0)), (1, .int x0), (2, .int x1), (3, .int x2)] := hl
  obtain ⟨u, hu9⟩ : ∃ u : SU, u = u0 := ⟨_, rfl⟩
  rw [← hu9] at hP hD
  refine lv_aload_n hx hb dX11_write_0 rfl (lv_at hl 0 rfl) ?_
  refine lv_iload_n hx hb dX11_write_1 rfl (lv_at hl 1 rfl) ?_
  refine lv_iload_n hx hb dX11_write_2 rfl (lv_at hl 2 rfl) ?_
  refine wk_sv 0 (As := [.int x0, .int x1]) (rest := []) ⟨hx, hb, hml, hown, hts⟩ (k_X11_refusalOfNumber_E l D cI cS a na nc N L u hL hN x0 x1) hKK hP (ci := 11) rfl rfl (cwV 2 hts gX11_write_X11_refusalOfNumber rfl rfl rfl (by decide +kernel) ⟨Nat.le_of_ble_eq_true rfl, Nat.le_of_ble_eq_true rfl⟩) rfl hl.1 rfl (Nat.le_of_ble_eq_true rfl) dX11_write_3 ⟨Nat.le_of_ble_eq_true rfl, Nat.le_of_ble_eq_true rfl⟩ (fun r52074 hr52074 => ?_)
  have wq52075 : ((x0.toInt < 0 ∨ 3 < x0.toInt → r52074.toInt = -2) ∧ (0 ≤ x0.toInt → x0.toInt ≤ 3 → (L (26 + 2 * x0.toNatClampNeg) 1).toInt = -1 → r52074.toInt = -11) ∧ (0 ≤ x0.toInt → x0.toInt ≤ 3 → ¬ (L (26 + 2 * x0.toNatClampNeg) 1).toInt = -1 → (x1.toInt < 0 ∨ (L (26 + 2 * x0.toNatClampNeg) 2).toInt ≤ x1.toInt) → r52074.toInt = -12) ∧ (0 ≤ x0.toInt → x0.toInt ≤ 3 → ¬ (L (26 + 2 * x0.toNatClampNeg) 1).toInt = -1 → 0 ≤ x1.toInt → x1.toInt < (L (26 + 2 * x0.toNatClampNeg) 2).toInt → r52074.toInt = 0)) := hr52074.2.2
  refine lv_istore (lv' := [(4, .int r52074), (0, .ref (a 0)), (1, .int x0), (2, .int x1), (3, .int x2)]) hx hb dX11_write_6 hl (by decide) rfl (fun ls hl => ?_)
  refine lv_iload hx hb dX11_write_8 (lv_at hl 0 rfl) ?_
  refine lv_if_eq (tgt := 16) hx hb dX11_write_10 (by decide) (fun c52076 => ?_) (fun c52076 => ?_)
  · have g52077 : Rg 0 3 x0 := (hr52074.2.1 c52076).1
    have g52078 : Rg 0 40 x1 := (hr52074.2.1 c52076).2
    have g52079 : Rg 0 0 r52074 := wk_eql hr52074.1 (by decide : Rg 0 0 (0 : Int32)) c52076 (by decide)
    refine lv_aload_n hx hb dX11_write_16 rfl (lv_at hl 1 rfl) ?_
    refine va_get (D := D) (ci := 11) (v := .ref (a 25)) (C := RX11) (T := TX11) (N := 16) hx hb hts hin11 hown hK hP 0 rfl rfl 12 (by decide) (hts (.fieldLink RX11 75 "MissedPoints" "sheets" "[LMissedPoints$Sheet;") (by decide +kernel)) (fun _ h9 => h9) rfl dX11_write_17 ?_
    refine lv_iload_n hx hb dX11_write_20 rfl (lv_at hl 2 rfl) ?_
    obtain ⟨q52080, hq52080, eq52080, zq52080⟩ := ks_sh (a := a) g52077
    refine va_aldq hx hb hK hP 25 1 rfl rfl (rg_in g52077 (by decide) (by decide)) dX11_write_21 ?_
    refine lz_va (y := .ref (a (26 + 2 * q52080))) (by show va_rf _ = _; rw [zq52080]; rfl) ?_
    have esq52080_1 : (L (26 + 2 * x0.toNatClampNeg) 1).toInt = (L (26 + 2 * q52080) 1).toInt := by rw [eq52080]
    have esq52080_2 : (L (26 + 2 * x0.toNatClampNeg) 2).toInt = (L (26 + 2 * q52080) 2).toInt := by rw [eq52080]
    refine lv_iload_n hx hb dX11_write_22 rfl (lv_at hl 3 rfl) ?_
    refine lv_iload_n hx hb dX11_write_23 rfl (lv_at hl 4 rfl) ?_
    refine wk_qv (wX cI cS a na nc N L) u (As := [.int x1, .int x2]) (rest := []) ⟨hx, hb, hml, hown, hts⟩ (k_X6_store l D cI cS _ a na nc N L u hL hN q52080 hq52080 x1 x2) hKK hP hD hS hA (26 + 2 * q52080) (ci := 6) rfl (gx_sh hq52080) (cwV 2 hts gX11_write_X6_store rfl rfl rfl (by decide +kernel) ⟨Nat.le_of_ble_eq_true rfl, Nat.le_of_ble_eq_true rfl⟩) rfl hl.1 rfl (Nat.le_of_ble_eq_true rfl) dX11_write_24 ⟨Nat.le_of_ble_eq_true rfl, Nat.le_of_ble_eq_true rfl⟩ (fun u H locs hr52081 hP hD hS => ?_)
    refine lv_iconst (v := 1) hx hb dX11_write_27 (by decide) ?_
    subst hAe
    exact W.iret (v := 1) hx hb hr (fun t ht hW => ⟨⟨_, u, rfl, ⟨(by decide : Rg (-12) 1 (1 : Int32)), (by have y90 : r52074.toInt = (0 : Int32).toInt := congrArg Int32.toInt c52076; have y91 : Rg 0 3 x0 := g52077; have y92 : Rg 0 40 x1 := g52078; have y93 : Rg 0 0 r52074 := g52079; have y94 : Rg 0 3 x0 := g52077; have y95 : Rg 0 40 x1 := g52078; have y96 : Rg 0 0 r52074 := g52079; have y9c7 : (0 : Int32).toInt = 0 := (by decide); have y9c8 : (1 : Int32).toInt = 1 := (by decide); skip; omega)⟩, by rw [ht]; exact hP, hD⟩, hS.F ht⟩) hS.2.2 dX11_write_28
  · have g52082 : Rg (-12) (-1) r52074 := rg_ne_hi (k := 0) hr52074.1 (by decide) c52076 (by decide)
    refine lv_iload hx hb dX11_write_13 (lv_at hl 0 rfl) ?_
    subst hAe
    exact W.iret (v := r52074) hx hb hr (fun t ht hW => ⟨⟨_, u, rfl, ⟨(show Rg (-12) 1 r52074 from rg_w g52082 (by decide) (by decide)), (by have y90 : ¬ r52074.toInt = (0 : Int32).toInt := fun z => c52076 (Int32.toInt_inj.mp z); have y91 : Rg (-12) (-1) r52074 := g52082; have y92 : Rg (-12) (-1) r52074 := g52082; have y93 : Rg (-12) (-1) r52074 := g52082; have y94 : Rg (-12) (-1) r52074 := g52082; have y9c5 : (0 : Int32).toInt = 0 := (by decide); have y9c6 : (1 : Int32).toInt = 1 := (by decide); skip; omega)⟩, by rw [ht]; exact hP, hD⟩, hS.F ht⟩) hS.2.2 dX11_write_15
set_option maxRecDepth 20000 in
theorem ggX11_copy_X11_isSheet : GoodIn wsX11_copy wsX11_isSheet := goodIn_r _ [5] rfl (by decide +kernel)
set_option maxRecDepth 20000 in
theorem gX11_copy_X11_isSheet : GoodIn wsX11_copy (va_wsS RX11 248 yX11_isSheet wsX11_isSheet) := goodIn_app (goodIn_of _ (by decide +kernel)) ggX11_copy_X11_isSheet
set_option maxRecDepth 20000 in
theorem ggX11_copy_X6_copyTo : GoodIn wsX11_copy wsX6_copyTo := goodIn_r _ [20, 21, 22, 23, 24, 25, 26, 13, 14, 9, 15, 16, 43, 44, 45] rfl (by decide +kernel)
set_option maxRecDepth 20000 in
theorem gX11_copy_X6_copyTo : GoodIn wsX11_copy (wsV RX11 347 RX6 yX6_copyTo wsX6_copyTo) := goodIn_app (goodIn_of _ (by decide +kernel)) ggX11_copy_X6_copyTo
set_option maxRecDepth 20000 in
theorem ggX11_copy_X6_hasRange : GoodIn wsX11_copy wsX6_hasRange := goodIn_r _ [15, 16, 43, 44, 45] rfl (by decide +kernel)
set_option maxRecDepth 20000 in
theorem gX11_copy_X6_hasRange : GoodIn wsX11_copy (wsV RX11 344 RX6 yX6_hasRange wsX6_hasRange) := goodIn_app (goodIn_of _ (by decide +kernel)) ggX11_copy_X6_hasRange
set_option maxRecDepth 20000 in
theorem ggX11_copy_X6_isMissing : GoodIn wsX11_copy wsX6_isMissing := goodIn_r _ [10, 11, 43, 44, 45] rfl (by decide +kernel)
set_option maxRecDepth 20000 in
theorem gX11_copy_X6_isMissing : GoodIn wsX11_copy (wsV RX11 251 RX6 yX6_isMissing wsX6_isMissing) := goodIn_app (goodIn_of _ (by decide +kernel)) ggX11_copy_X6_isMissing
theorem dX11_copy_0 : decode cX11_copy 0 = .ok (.iload_n 1, 1) := by decide +kernel
theorem dX11_copy_1 : decode cX11_copy 1 = .ok (.invokestatic 248, 3) := by decide +kernel
theorem dX11_copy_101 : decode cX11_copy 101 = .ok (.iload 5, 2) := by decide +kernel
theorem dX11_copy_103 : decode cX11_copy 103 = .ok (.invokevirtual 347, 3) := by decide +kernel
theorem dX11_copy_106 : decode cX11_copy 106 = .ok (.iload 5, 2) := by decide +kernel
theorem dX11_copy_108 : decode cX11_copy 108 = .ok (.ireturn, 1) := by decide +kernel
theorem dX11_copy_11 : decode cX11_copy 11 = .ok (.ifCond .ne 6, 3) := by decide +kernel
theorem dX11_copy_14 : decode cX11_copy 14 = .ok (.bipush (-2), 2) := by decide +kernel
theorem dX11_copy_16 : decode cX11_copy 16 = .ok (.ireturn, 1) := by decide +kernel
theorem dX11_copy_17 : decode cX11_copy 17 = .ok (.aload_n 0, 1) := by decide +kernel
theorem dX11_copy_18 : decode cX11_copy 18 = .ok (.getfield 75, 3) := by decide +kernel
theorem dX11_copy_21 : decode cX11_copy 21 = .ok (.iload_n 1, 1) := by decide +kernel
theorem dX11_copy_22 : decode cX11_copy 22 = .ok (.aaload, 1) := by decide +kernel
theorem dX11_copy_23 : decode cX11_copy 23 = .ok (.astore 6, 2) := by decide +kernel
theorem dX11_copy_25 : decode cX11_copy 25 = .ok (.aload_n 0, 1) := by decide +kernel
theorem dX11_copy_26 : decode cX11_copy 26 = .ok (.getfield 75, 3) := by decide +kernel
theorem dX11_copy_29 : decode cX11_copy 29 = .ok (.iload_n 3, 1) := by decide +kernel
theorem dX11_copy_30 : decode cX11_copy 30 = .ok (.aaload, 1) := by decide +kernel
theorem dX11_copy_31 : decode cX11_copy 31 = .ok (.astore 7, 2) := by decide +kernel
theorem dX11_copy_33 : decode cX11_copy 33 = .ok (.aload 6, 2) := by decide +kernel
theorem dX11_copy_35 : decode cX11_copy 35 = .ok (.invokevirtual 251, 3) := by decide +kernel
theorem dX11_copy_38 : decode cX11_copy 38 = .ok (.ifCond .ne 11, 3) := by decide +kernel
theorem dX11_copy_4 : decode cX11_copy 4 = .ok (.ifCond .eq 10, 3) := by decide +kernel
theorem dX11_copy_41 : decode cX11_copy 41 = .ok (.aload 7, 2) := by decide +kernel
theorem dX11_copy_43 : decode cX11_copy 43 = .ok (.invokevirtual 251, 3) := by decide +kernel
theorem dX11_copy_46 : decode cX11_copy 46 = .ok (.ifCond .eq 6, 3) := by decide +kernel
theorem dX11_copy_49 : decode cX11_copy 49 = .ok (.bipush (-11), 2) := by decide +kernel
theorem dX11_copy_51 : decode cX11_copy 51 = .ok (.ireturn, 1) := by decide +kernel
theorem dX11_copy_52 : decode cX11_copy 52 = .ok (.aload 6, 2) := by decide +kernel
theorem dX11_copy_54 : decode cX11_copy 54 = .ok (.getfield 240, 3) := by decide +kernel
theorem dX11_copy_57 : decode cX11_copy 57 = .ok (.aload 7, 2) := by decide +kernel
theorem dX11_copy_59 : decode cX11_copy 59 = .ok (.getfield 240, 3) := by decide +kernel
theorem dX11_copy_62 : decode cX11_copy 62 = .ok (.if_icmp .eq 6, 3) := by decide +kernel
theorem dX11_copy_65 : decode cX11_copy 65 = .ok (.bipush (-13), 2) := by decide +kernel
theorem dX11_copy_67 : decode cX11_copy 67 = .ok (.ireturn, 1) := by decide +kernel
theorem dX11_copy_68 : decode cX11_copy 68 = .ok (.aload 6, 2) := by decide +kernel
theorem dX11_copy_7 : decode cX11_copy 7 = .ok (.iload_n 3, 1) := by decide +kernel
theorem dX11_copy_70 : decode cX11_copy 70 = .ok (.iload_n 2, 1) := by decide +kernel
theorem dX11_copy_71 : decode cX11_copy 71 = .ok (.iload 5, 2) := by decide +kernel
theorem dX11_copy_73 : decode cX11_copy 73 = .ok (.invokevirtual 344, 3) := by decide +kernel
theorem dX11_copy_76 : decode cX11_copy 76 = .ok (.ifCond .eq 15, 3) := by decide +kernel
theorem dX11_copy_79 : decode cX11_copy 79 = .ok (.aload 7, 2) := by decide +kernel
theorem dX11_copy_8 : decode cX11_copy 8 = .ok (.invokestatic 248, 3) := by decide +kernel
theorem dX11_copy_81 : decode cX11_copy 81 = .ok (.iload 4, 2) := by decide +kernel
theorem dX11_copy_83 : decode cX11_copy 83 = .ok (.iload 5, 2) := by decide +kernel
theorem dX11_copy_85 : decode cX11_copy 85 = .ok (.invokevirtual 344, 3) := by decide +kernel
theorem dX11_copy_88 : decode cX11_copy 88 = .ok (.ifCond .ne 6, 3) := by decide +kernel
theorem dX11_copy_91 : decode cX11_copy 91 = .ok (.bipush (-12), 2) := by decide +kernel
theorem dX11_copy_93 : decode cX11_copy 93 = .ok (.ireturn, 1) := by decide +kernel
theorem dX11_copy_94 : decode cX11_copy 94 = .ok (.aload 6, 2) := by decide +kernel
theorem dX11_copy_96 : decode cX11_copy 96 = .ok (.iload_n 2, 1) := by decide +kernel
theorem dX11_copy_97 : decode cX11_copy 97 = .ok (.aload 7, 2) := by decide +kernel
theorem dX11_copy_99 : decode cX11_copy 99 = .ok (.iload 4, 2) := by decide +kernel
set_option maxHeartbeats 4000000 in
set_option maxRecDepth 100000 in
theorem k_X11_copy (l : Launch) (D : va_G) (cI cS : ClassId) (sz : Nat) (a : Nat → Nat) (na nc N : Nat) (L u0 : SU) (hL : TyX L) (hN : N = 0 ∨ N = 24576) (x0 x1 x2 x3 x4 : Int32) : Met l yX11_copy wsX11_copy ({ frames := 2, cells := 0, slots := 0, locals := 80 }) (PQ D cI cS (wX cI cS a na nc N L u0) sz [.ref (a 0), .int x0, .int x1, .int x2, .int x3, .int x4]) (QF (S := SU) D (wX cI cS a na nc N L u0) (wX cI cS a na nc N L) sz (fun r _ => Rg (-13) 40 r ∧ ((x0.toInt < 0 ∨ 3 < x0.toInt ∨ x2.toInt < 0 ∨ 3 < x2.toInt → r.toInt = -2) ∧ (0 ≤ x0.toInt → x0.toInt ≤ 3 → 0 ≤ x2.toInt → x2.toInt ≤ 3 → ((L (26 + 2 * x0.toNatClampNeg) 1).toInt = -1 ∨ (L (26 + 2 * x2.toNatClampNeg) 1).toInt = -1) → r.toInt = -11) ∧ (0 ≤ x0.toInt → x0.toInt ≤ 3 → 0 ≤ x2.toInt → x2.toInt ≤ 3 → ¬ (L (26 + 2 * x0.toNatClampNeg) 1).toInt = -1 → ¬ (L (26 + 2 * x2.toNatClampNeg) 1).toInt = -1 → ¬ (L (26 + 2 * x0.toNatClampNeg) 1).toInt = (L (26 + 2 * x2.toNatClampNeg) 1).toInt → r.toInt = -13) ∧ (0 ≤ x0.toInt → x0.toInt ≤ 3 → 0 ≤ x2.toInt → x2.toInt ≤ 3 → ¬ (L (26 + 2 * x0.toNatClampNeg) 1).toInt = -1 → ¬ (L (26 + 2 * x2.toNatClampNeg) 1).toInt = -1 → (L (26 + 2 * x0.toNatClampNeg) 1).toInt = (L (26 + 2 * x2.toNatClampNeg) 1).toInt → (x4.toInt < 0 ∨ x1.toInt < 0 ∨ x3.toInt < 0 ∨ (L (26 + 2 * x0.toNatClampNeg) 2).toInt < x1.toInt + x4.toInt ∨ (L (26 + 2 * x2.toNatClampNeg) 2).toInt < x3.toInt + x4.toInt) → r.toInt = -12) ∧ ((0 ≤ x0.toInt ∧ x0.toInt ≤ 3 ∧ 0 ≤ x2.toInt ∧ x2.toInt ≤ 3 ∧ ¬ (L (26 + 2 * x0.toNatClampNeg) 1).toInt = -1 ∧ ¬ (L (26 + 2 * x2.toNatClampNeg) 1).toInt = -1 ∧ (L (26 + 2 * x0.toNatClampNeg) 1).toInt = (L (26 + 2 * x2.toNatClampNeg) 1).toInt ∧ 0 ≤ x4.toInt ∧ 0 ≤ x1.toInt ∧ 0 ≤ x3.toInt ∧ x1.toInt + x4.toInt ≤ (L (26 + 2 * x0.toNatClampNeg) 2).toInt ∧ x3.toInt + x4.toInt ≤ (L (26 + 2 * x2.toNatClampNeg) 2).toInt) → r.toInt = x4.toInt)))) 0 0 (va_A (wX cI cS a na nc N L u0) sz) := by
  refine Met.ofW (cc := cX11_copy) (maxL := 8) (ret := (some .int)) (by decide) rfl ?_
  intro p e s m args below meth c s₁ B hml hv
  obtain ⟨rfl, hsz, hP, hKK, hD0⟩ := hv
  have hx := B.exec
  have hb := B.bytes
  have hr := B.returns
  have hts := atoms_spec (ws := wsX11_copy) B.pre
  have hown : s.vm.findClass RX11 = some m.cls := findClass_of_methodNamed B.named
  have hlocks := B.notSynchronized
  have hK := hKK.1
  have hin6 : ∀ w ∈ wsX60, w ∈ wsX11_copy := by decide +kernel
  have hin11 : ∀ w ∈ wsX110, w ∈ wsX11_copy := by decide +kernel
  subst hsz
  have hD := hD0.self (sz := s.heap.size)
  obtain ⟨A, hAe⟩ : ∃ A, A = va_A (wX cI cS a na nc N L u0) s.heap.size := ⟨_, rfl⟩
  rw [← hAe] at hD
  have hA : ∀ q : Nat, s.heap.size ≤ q → A q := fun q h => by rw [hAe]; exact Or.inr h
  have hS : va_S A s.heap s.heap [] := va_S.rf
  have hl := lv_entry ([.ref (a 0), .int x0, .int x1, .int x2, .int x3, .int x4]) (n := 8) (Nat.le_of_ble_eq_true rfl)
  rw [lg_entry_eq]
  generalize (lg_sl ([.ref (a 0), .int x0, .int x1, .int x2, .int x3, .int x4]) ++ List.replicate (8 - (lg_sl ([.ref (a 0), .int x0, .int x1, .int x2, .int x3, .int x4])).length) Slot.unset).toArray = ls at hl ⊢
  have hl : lv_has ls 8 [(0, .ref (a 0)), (1, .int x0), (2, .int x1), (3, .int x2), (4, .int x3), (5, .int x4)] := hl
  obtain ⟨u, hu9⟩ : ∃ u : SU, u = u0 := ⟨_, rfl⟩
  rw [← hu9] at hP hD
  refine lv_iload_n hx hb dX11_copy_0 rfl (lv_at hl 1 rfl) ?_
  refine lz_ss (As := [.int x0]) (rest := []) ⟨hx, hb, hml, hown, hts⟩ (k_X11_isSheet_z l D cI cS x0) hKK (hP.sub (ws' := []) [] rfl) (va_cwS 1 hts gX11_copy_X11_isSheet rfl rfl rfl (by decide +kernel) ⟨Nat.le_of_ble_eq_true rfl, Nat.le_of_ble_eq_true rfl⟩) rfl hl.1 rfl (Nat.le_of_ble_eq_true rfl) dX11_copy_1 ⟨Nat.le_of_ble_eq_true rfl, Nat.le_of_ble_eq_true rfl⟩ (fun r52126 hr52126 => ?_)
  refine lv_if_eq (tgt := 14) hx hb dX11_copy_4 (by decide) (fun c52127 => ?_) (fun c52127 => ?_)
  · have zt52128 : (x0.toInt < 0 ∨ 3 < x0.toInt) := hr52126.2.2 c52127
    have g52129 : Rg 0 0 r52126 := wk_eql hr52126.1 (by decide : Rg 0 0 (0 : Int32)) c52127 (by decide)
    refine lv_bipush (v := (-2)) hx hb dX11_copy_14 (by decide) ?_
    subst hAe
    exact W.iret (v := (-2)) hx hb hr (fun t ht hW => ⟨⟨_, u, rfl, ⟨(by decide : Rg (-13) 40 ((-2) : Int32)), (by have y90 : r52126.toInt = (0 : Int32).toInt := congrArg Int32.toInt c52127; have y91 : Rg 0 0 r52126 := g52129; have y9c2 : ((-2) : Int32).toInt = -2 := (by decide); have y9c3 : (0 : Int32).toInt = 0 := (by decide); have y9c4 : (1 : Int32).toInt = 1 := (by decide); skip; omega)⟩, by rw [ht]; exact hP, hD⟩, hS.F ht⟩) hS.2.2 dX11_copy_16
  · have g52130 : Rg 0 3 x0 := (hr52126.2.1 c52127)
    have g52131 : Rg 1 1 r52126 := rg_ne_lo (k := 0) hr52126.1 (by decide) c52127 (by decide)
    refine lv_iload_n hx hb dX11_copy_7 rfl (lv_at hl 3 rfl) ?_
    refine lz_ss (As := [.int x2]) (rest := []) ⟨hx, hb, hml, hown, hts⟩ (k_X11_isSheet_z l D cI cS x2) hKK (hP.sub (ws' := []) [] rfl) (va_cwS 1 hts gX11_copy_X11_isSheet rfl rfl rfl (by decide +kernel) ⟨Nat.le_of_ble_eq_true rfl, Nat.le_of_ble_eq_true rfl⟩) rfl hl.1 rfl (Nat.le_of_ble_eq_true rfl) dX11_copy_8 ⟨Nat.le_of_ble_eq_true rfl, Nat.le_of_ble_eq_true rfl⟩ (fun r52132 hr52132 => ?_)
    refine lv_if_ne (tgt := 17) hx hb dX11_copy_11 (by decide) (fun c52133 => ?_) (fun c52133 => ?_)
    · have g52134 : Rg 0 3 x2 := (hr52132.2.1 c52133)
      have g52135 : Rg 1 1 r52132 := rg_ne_lo (k := 0) hr52132.1 (by decide) c52133 (by decide)
      refine lv_aload_n hx hb dX11_copy_17 rfl (lv_at hl 0 rfl) ?_
      refine va_get (D := D) (ci := 11) (v := .ref (a 25)) (C := RX11) (T := TX11) (N := 16) hx hb hts hin11 hown hK hP 0 rfl rfl 12 (by decide) (hts (.fieldLink RX11 75 "MissedPoints" "sheets" "[LMissedPoints$Sheet;") (by decide +kernel)) (fun _ h9 => h9) rfl dX11_copy_18 ?_
      refine lv_iload_n hx hb dX11_copy_21 rfl (lv_at hl 1 rfl) ?_
      obtain ⟨q52136, hq52136, eq52136, zq52136⟩ := ks_sh (a := a) g52130
      refine va_aldq hx hb hK hP 25 1 rfl rfl (rg_in g52130 (by decide) (by decide)) dX11_copy_22 ?_
      refine lz_va (y := .ref (a (26 + 2 * q52136))) (by show va_rf _ = _; rw [zq52136]; rfl) ?_
      have esq52136_1 : (L (26 + 2 * x0.toNatClampNeg) 1).toInt = (L (26 + 2 * q52136) 1).toInt := by rw [eq52136]
      have esq52136_2 : (L (26 + 2 * x0.toNatClampNeg) 2).toInt = (L (26 + 2 * q52136) 2).toInt := by rw [eq52136]
      refine lv_astore (lv' := [(6, .ref (a (26 + 2 * q52136))), (0, .ref (a 0)), (1, .int x0), (2, .int x1), (3, .int x2), (4, .int x3), (5, .int x4)]) hx hb dX11_copy_23 hl (by decide) rfl (fun ls hl => ?_)
      refine lv_aload_n hx hb dX11_copy_25 rfl (lv_at hl 1 rfl) ?_
      refine va_get (D := D) (ci := 11) (v := .ref (a 25)) (C := RX11) (T := TX11) (N := 16) hx hb hts hin11 hown hK hP 0 rfl rfl 12 (by decide) (hts (.fieldLink RX11 75 "MissedPoints" "sheets" "[LMissedPoints$Sheet;") (by decide +kernel)) (fun _ h9 => h9) rfl dX11_copy_26 ?_
      refine lv_iload_n hx hb dX11_copy_29 rfl (lv_at hl 4 rfl) ?_
      obtain ⟨q52137, hq52137, eq52137, zq52137⟩ := ks_sh (a := a) g52134
      refine va_aldq hx hb hK hP 25 1 rfl rfl (rg_in g52134 (by decide) (by decide)) dX11_copy_30 ?_
      refine lz_va (y := .ref (a (26 + 2 * q52137))) (by show va_rf _ = _; rw [zq52137]; rfl) ?_
      have esq52137_1 : (L (26 + 2 * x2.toNatClampNeg) 1).toInt = (L (26 + 2 * q52137) 1).toInt := by rw [eq52137]
      have esq52137_2 : (L (26 + 2 * x2.toNatClampNeg) 2).toInt = (L (26 + 2 * q52137) 2).toInt := by rw [eq52137]
      refine lv_astore (lv' := [(7, .ref (a (26 + 2 * q52137))), (6, .ref (a (26 + 2 * q52136))), (0, .ref (a 0)), (1, .int x0), (2, .int x1), (3, .int x2), (4, .int x3), (5, .int x4)]) hx hb dX11_copy_31 hl (by decide) rfl (fun ls hl => ?_)
      refine lv_aload hx hb dX11_copy_33 (lv_at hl 1 rfl) ?_
      refine wk_sv (26 + 2 * q52136) (As := []) (rest := []) ⟨hx, hb, hml, hown, hts⟩ (k_X6_isMissing_z l D cI cS a na nc N L u hL hN q52136 hq52136) hKK hP (ci := 6) rfl (gx_sh hq52136) (cwV 0 hts gX11_copy_X6_isMissing rfl rfl rfl (by decide +kernel) ⟨Nat.le_of_ble_eq_true rfl, Nat.le_of_ble_eq_true rfl⟩) rfl hl.1 rfl (Nat.le_of_ble_eq_true rfl) dX11_copy_35 ⟨Nat.le_of_ble_eq_true rfl, Nat.le_of_ble_eq_true rfl⟩ (fun r52138 hr52138 => ?_)
      refine lv_if_ne (tgt := 49) hx hb dX11_copy_38 (by decide) (fun c52139 => ?_) (fun c52139 => ?_)
      · have zn52140 : (L (26 + 2 * q52136) 1).toInt = -1 := hr52138.2.1 c52139
        have g52141 : Rg 1 1 r52138 := rg_ne_lo (k := 0) hr52138.1 (by decide) c52139 (by decide)
        refine lv_bipush (v := (-11)) hx hb dX11_copy_49 (by decide) ?_
        subst hAe
        exact W.iret (v := (-11)) hx hb hr (fun t ht hW => ⟨⟨_, u, rfl, ⟨(by decide : Rg (-13) 40 ((-11) : Int32)), (by have y90 : ¬ r52126.toInt = (0 : Int32).toInt := fun z => c52127 (Int32.toInt_inj.mp z); have y91 : ¬ r52132.toInt = (0 : Int32).toInt := fun z => c52133 (Int32.toInt_inj.mp z); have y92 : ¬ r52138.toInt = (0 : Int32).toInt := fun z => c52139 (Int32.toInt_inj.mp z); have y93 : Rg 0 3 x0 := g52130; have y94 : Rg 1 1 r52126 := g52131; have y95 : Rg 0 3 x2 := g52134; have y96 : Rg 1 1 r52132 := g52135; have y97 : Rg 1 1 r52138 := g52141; have y98 : Rg 0 3 x0 := g52130; have y99 : Rg 0 3 x2 := g52134; have y9c10 : ((-11) : Int32).toInt = -11 := (by decide); have y9c11 : (0 : Int32).toInt = 0 := (by decide); have y9c12 : (1 : Int32).toInt = 1 := (by decide); skip; omega)⟩, by rw [ht]; exact hP, hD⟩, hS.F ht⟩) hS.2.2 dX11_copy_51
      · have zn52142 : ¬ (L (26 + 2 * q52136) 1).toInt = -1 := hr52138.2.2 c52139
        have g52143 : Rg 0 0 r52138 := wk_eql hr52138.1 (by decide : Rg 0 0 (0 : Int32)) c52139 (by decide)
        refine lv_aload hx hb dX11_copy_41 (lv_at hl 0 rfl) ?_
        refine wk_sv (26 + 2 * q52137) (As := []) (rest := []) ⟨hx, hb, hml, hown, hts⟩ (k_X6_isMissing_z l D cI cS a na nc N L u hL hN q52137 hq52137) hKK hP (ci := 6) rfl (gx_sh hq52137) (cwV 0 hts gX11_copy_X6_isMissing rfl rfl rfl (by decide +kernel) ⟨Nat.le_of_ble_eq_true rfl, Nat.le_of_ble_eq_true rfl⟩) rfl hl.1 rfl (Nat.le_of_ble_eq_true rfl) dX11_copy_43 ⟨Nat.le_of_ble_eq_true rfl, Nat.le_of_ble_eq_true rfl⟩ (fun r52144 hr52144 => ?_)
        refine lv_if_eq (tgt := 52) hx hb dX11_copy_46 (by decide) (fun c52145 => ?_) (fun c52145 => ?_)
        · have zn52146 : ¬ (L (26 + 2 * q52137) 1).toInt = -1 := hr52144.2.2 c52145
          have g52147 : Rg 0 0 r52144 := wk_eql hr52144.1 (by decide : Rg 0 0 (0 : Int32)) c52145 (by decide)
          refine lv_aload hx hb dX11_copy_52 (lv_at hl 1 rfl) ?_
          refine va_getN (D := D) (ci := 6) (v := .int ((L (26 + 2 * q52136) 1))) (C := RX6) (T := TX6) (N := 3) hx hb hts hin6 hown hK hP (26 + 2 * q52136) (gx_sh hq52136) rfl 1 (by decide) (va_Nw.use rfl hKK.2.2.2.2.2.2.2.1) (fun _ h9 => h9) rfl dX11_copy_54 ?_
          refine lv_aload hx hb dX11_copy_57 (lv_at hl 0 rfl) ?_
          refine va_getN (D := D) (ci := 6) (v := .int ((L (26 + 2 * q52137) 1))) (C := RX6) (T := TX6) (N := 3) hx hb hts hin6 hown hK hP (26 + 2 * q52137) (gx_sh hq52137) rfl 1 (by decide) (va_Nw.use rfl hKK.2.2.2.2.2.2.2.1) (fun _ h9 => h9) rfl dX11_copy_59 ?_
          refine lv_icmp_eq (tgt := 68) hx hb dX11_copy_62 (by decide) (fun c52148 => ?_) (fun c52148 => ?_)
          · refine lv_aload hx hb dX11_copy_68 (lv_at hl 1 rfl) ?_
            refine lv_iload_n hx hb dX11_copy_70 rfl (lv_at hl 4 rfl) ?_
            refine lv_iload hx hb dX11_copy_71 (lv_at hl 7 rfl) ?_
            refine wk_sv (26 + 2 * q52136) (As := [.int x1, .int x4]) (rest := []) ⟨hx, hb, hml, hown, hts⟩ (k_X6_hasRange_z l D cI cS a na nc N L u hL hN q52136 hq52136 x1 x4) hKK hP (ci := 6) rfl (gx_sh hq52136) (cwV 2 hts gX11_copy_X6_hasRange rfl rfl rfl (by decide +kernel) ⟨Nat.le_of_ble_eq_true rfl, Nat.le_of_ble_eq_true rfl⟩) rfl hl.1 rfl (Nat.le_of_ble_eq_true rfl) dX11_copy_73 ⟨Nat.le_of_ble_eq_true rfl, Nat.le_of_ble_eq_true rfl⟩ (fun r52149 hr52149 => ?_)
            refine lv_if_eq (tgt := 91) hx hb dX11_copy_76 (by decide) (fun c52150 => ?_) (fun c52150 => ?_)
            · have zn52151 : ¬ (0 ≤ x1.toInt ∧ 0 ≤ x4.toInt ∧ x1.toInt + x4.toInt ≤ (L (26 + 2 * q52136) 2).toInt) := hr52149.2.2.2 c52150
              have g52152 : Rg 0 0 r52149 := wk_eql hr52149.1 (by decide : Rg 0 0 (0 : Int32)) c52150 (by decide)
              refine lv_bipush (v := (-12)) hx hb dX11_copy_91 (by decide) ?_
              subst hAe
              exact W.iret (v := (-12)) hx hb hr (fun t ht hW => ⟨⟨_, u, rfl, ⟨(by decide : Rg (-13) 40 ((-12) : Int32)), (by have y90 : ¬ r52126.toInt = (0 : Int32).toInt := fun z => c52127 (Int32.toInt_inj.mp z); have y91 : ¬ r52132.toInt = (0 : Int32).toInt := fun z => c52133 (Int32.toInt_inj.mp z); have y92 : r52138.toInt = (0 : Int32).toInt := congrArg Int32.toInt c52139; have y93 : r52144.toInt = (0 : Int32).toInt := congrArg Int32.toInt c52145; have y94 : ((L (26 + 2 * q52136) 1)).toInt = ((L (26 + 2 * q52137) 1)).toInt := congrArg Int32.toInt c52148; have y95 : r52149.toInt = (0 : Int32).toInt := congrArg Int32.toInt c52150; have y96 : Rg 0 3 x0 := g52130; have y97 : Rg 1 1 r52126 := g52131; have y98 : Rg 0 3 x2 := g52134; have y99 : Rg 1 1 r52132 := g52135; have y910 : Rg 0 0 r52138 := g52143; have y911 : Rg 0 0 r52144 := g52147; have y912 : Rg 0 0 r52149 := g52152; have y913 : Rg 0 3 x0 := g52130; have y914 : Rg 0 3 x2 := g52134; have y9c15 : ((-12) : Int32).toInt = -12 := (by decide); have y9c16 : (0 : Int32).toInt = 0 := (by decide); have y9c17 : (1 : Int32).toInt = 1 := (by decide); skip; omega)⟩, by rw [ht]; exact hP, hD⟩, hS.F ht⟩) hS.2.2 dX11_copy_93
            · have g52153 : Rg 0 40 x1 := (hr52149.2.1 c52150).1
              have g52154 : Rg 0 40 x4 := (hr52149.2.1 c52150).2
              have zn52155 : (0 ≤ x1.toInt ∧ 0 ≤ x4.toInt ∧ x1.toInt + x4.toInt ≤ (L (26 + 2 * q52136) 2).toInt) := hr52149.2.2.1 c52150
              have g52156 : Rg 1 1 r52149 := rg_ne_lo (k := 0) hr52149.1 (by decide) c52150 (by decide)
              refine lv_aload hx hb dX11_copy_79 (lv_at hl 0 rfl) ?_
              refine lv_iload hx hb dX11_copy_81 (lv_at hl 6 rfl) ?_
              refine lv_iload hx hb dX11_copy_83 (lv_at hl 7 rfl) ?_
              refine wk_sv (26 + 2 * q52137) (As := [.int x3, .int x4]) (rest := []) ⟨hx, hb, hml, hown, hts⟩ (k_X6_hasRange_z l D cI cS a na nc N L u hL hN q52137 hq52137 x3 x4) hKK hP (ci := 6) rfl (gx_sh hq52137) (cwV 2 hts gX11_copy_X6_hasRange rfl rfl rfl (by decide +kernel) ⟨Nat.le_of_ble_eq_true rfl, Nat.le_of_ble_eq_true rfl⟩) rfl hl.1 rfl (Nat.le_of_ble_eq_true rfl) dX11_copy_85 ⟨Nat.le_of_ble_eq_true rfl, Nat.le_of_ble_eq_true rfl⟩ (fun r52157 hr52157 => ?_)
              refine lv_if_ne (tgt := 94) hx hb dX11_copy_88 (by decide) (fun c52158 => ?_) (fun c52158 => ?_)
              · have g52159 : Rg 0 40 x3 := (hr52157.2.1 c52158).1
                have zn52160 : (0 ≤ x3.toInt ∧ 0 ≤ x4.toInt ∧ x3.toInt + x4.toInt ≤ (L (26 + 2 * q52137) 2).toInt) := hr52157.2.2.1 c52158
                have g52161 : Rg 1 1 r52157 := rg_ne_lo (k := 0) hr52157.1 (by decide) c52158 (by decide)
                refine lv_aload hx hb dX11_copy_94 (lv_at hl 1 rfl) ?_
                refine lv_iload_n hx hb dX11_copy_96 rfl (lv_at hl 4 rfl) ?_
                refine lv_aload hx hb dX11_copy_97 (lv_at hl 0 rfl) ?_
                refine lv_iload hx hb dX11_copy_99 (lv_at hl 6 rfl) ?_
                refine lv_iload hx hb dX11_copy_101 (lv_at hl 7 rfl) ?_
                refine wk_qv (wX cI cS a na nc N L) u (As := [.int x1, .ref (a (26 + 2 * q52137)), .int x3, .int x4]) (rest := []) ⟨hx, hb, hml, hown, hts⟩ (k_X6_copyTo l D cI cS _ a na nc N L u hL hN q52136 hq52136 q52137 hq52137 x1 x3 x4) hKK hP hD hS hA (26 + 2 * q52136) (ci := 6) rfl (gx_sh hq52136) (cwV 4 hts gX11_copy_X6_copyTo rfl rfl rfl (by decide +kernel) ⟨Nat.le_of_ble_eq_true rfl, Nat.le_of_ble_eq_true rfl⟩) rfl hl.1 rfl (Nat.le_of_ble_eq_true rfl) dX11_copy_103 ⟨Nat.le_of_ble_eq_true rfl, Nat.le_of_ble_eq_true rfl⟩ (fun u H locs hr52162 hP hD hS => ?_)
                refine lv_iload hx hb dX11_copy_106 (lv_at hl 7 rfl) ?_
                subst hAe
                exact W.iret (v := x4) hx hb hr (fun t ht hW => ⟨⟨_, u, rfl, ⟨(show Rg (-13) 40 x4 from rg_w g52154 (by decide) (by decide)), (by have y90 : ¬ r52126.toInt = (0 : Int32).toInt := fun z => c52127 (Int32.toInt_inj.mp z); have y91 : ¬ r52132.toInt = (0 : Int32).toInt := fun z => c52133 (Int32.toInt_inj.mp z); have y92 : r52138.toInt = (0 : Int32).toInt := congrArg Int32.toInt c52139; have y93 : r52144.toInt = (0 : Int32).toInt := congrArg Int32.toInt c52145; have y94 : ((L (26 + 2 * q52136) 1)).toInt = ((L (26 + 2 * q52137) 1)).toInt := congrArg Int32.toInt c52148; have y95 : ¬ r52149.toInt = (0 : Int32).toInt := fun z => c52150 (Int32.toInt_inj.mp z); have y96 : ¬ r52157.toInt = (0 : Int32).toInt := fun z => c52158 (Int32.toInt_inj.mp z); have y97 : Rg 0 3 x0 := g52130; have y98 : Rg 1 1 r52126 := g52131; have y99 : Rg 0 3 x2 := g52134; have y910 : Rg 1 1 r52132 := g52135; have y911 : Rg 0 0 r52138 := g52143; have y912 : Rg 0 0 r52144 := g52147; have y913 : Rg 0 40 x1 := g52153; have y914 : Rg 0 40 x4 := g52154; have y915 : Rg 1 1 r52149 := g52156; have y916 : Rg 0 40 x3 := g52159; have y917 : Rg 1 1 r52157 := g52161; have y918 : Rg 0 3 x0 := g52130; have y919 : Rg 0 40 x1 := g52153; have y920 : Rg 0 3 x2 := g52134; have y921 : Rg 0 40 x3 := g52159; have y922 : Rg 0 40 x4 := g52154; have y923 : Rg 0 40 x4 := g52154; have y924 : Rg 0 40 x4 := g52154; have y9c25 : (0 : Int32).toInt = 0 := (by decide); have y9c26 : (1 : Int32).toInt = 1 := (by decide); skip; omega)⟩, by rw [ht]; exact hP, hD⟩, hS.F ht⟩) hS.2.2 dX11_copy_108
              · have zn52163 : ¬ (0 ≤ x3.toInt ∧ 0 ≤ x4.toInt ∧ x3.toInt + x4.toInt ≤ (L (26 + 2 * q52137) 2).toInt) := hr52157.2.2.2 c52158
                have g52164 : Rg 0 0 r52157 := wk_eql hr52157.1 (by decide : Rg 0 0 (0 : Int32)) c52158 (by decide)
                refine lv_bipush (v := (-12)) hx hb dX11_copy_91 (by decide) ?_
                subst hAe
                exact W.iret (v := (-12)) hx hb hr (fun t ht hW => ⟨⟨_, u, rfl, ⟨(by decide : Rg (-13) 40 ((-12) : Int32)), (by have y90 : ¬ r52126.toInt = (0 : Int32).toInt := fun z => c52127 (Int32.toInt_inj.mp z); have y91 : ¬ r52132.toInt = (0 : Int32).toInt := fun z => c52133 (Int32.toInt_inj.mp z); have y92 : r52138.toInt = (0 : Int32).toInt := congrArg Int32.toInt c52139; have y93 : r52144.toInt = (0 : Int32).toInt := congrArg Int32.toInt c52145; have y94 : ((L (26 + 2 * q52136) 1)).toInt = ((L (26 + 2 * q52137) 1)).toInt := congrArg Int32.toInt c52148; have y95 : ¬ r52149.toInt = (0 : Int32).toInt := fun z => c52150 (Int32.toInt_inj.mp z); have y96 : r52157.toInt = (0 : Int32).toInt := congrArg Int32.toInt c52158; have y97 : Rg 0 3 x0 := g52130; have y98 : Rg 1 1 r52126 := g52131; have y99 : Rg 0 3 x2 := g52134; have y910 : Rg 1 1 r52132 := g52135; have y911 : Rg 0 0 r52138 := g52143; have y912 : Rg 0 0 r52144 := g52147; have y913 : Rg 0 40 x1 := g52153; have y914 : Rg 0 40 x4 := g52154; have y915 : Rg 1 1 r52149 := g52156; have y916 : Rg 0 0 r52157 := g52164; have y917 : Rg 0 3 x0 := g52130; have y918 : Rg 0 40 x1 := g52153; have y919 : Rg 0 3 x2 := g52134; have y920 : Rg 0 40 x4 := g52154; have y9c21 : ((-12) : Int32).toInt = -12 := (by decide); have y9c22 : (0 : Int32).toInt = 0 := (by decide); have y9c23 : (1 : Int32).toInt = 1 := (by decide); skip; omega)⟩, by rw [ht]; exact hP, hD⟩, hS.F ht⟩) hS.2.2 dX11_copy_93
          · refine lv_bipush (v := (-13)) hx hb dX11_copy_65 (by decide) ?_
            subst hAe
            exact W.iret (v := (-13)) hx hb hr (fun t ht hW => ⟨⟨_, u, rfl, ⟨(by decide : Rg (-13) 40 ((-13) : Int32)), (by have y90 : ¬ r52126.toInt = (0 : Int32).toInt := fun z => c52127 (Int32.toInt_inj.mp z); have y91 : ¬ r52132.toInt = (0 : Int32).toInt := fun z => c52133 (Int32.toInt_inj.mp z); have y92 : r52138.toInt = (0 : Int32).toInt := congrArg Int32.toInt c52139; have y93 : r52144.toInt = (0 : Int32).toInt := congrArg Int32.toInt c52145; have y94 : ¬ ((L (26 + 2 * q52136) 1)).toInt = ((L (26 + 2 * q52137) 1)).toInt := fun z => c52148 (Int32.toInt_inj.mp z); have y95 : Rg 0 3 x0 := g52130; have y96 : Rg 1 1 r52126 := g52131; have y97 : Rg 0 3 x2 := g52134; have y98 : Rg 1 1 r52132 := g52135; have y99 : Rg 0 0 r52138 := g52143; have y910 : Rg 0 0 r52144 := g52147; have y911 : Rg 0 3 x0 := g52130; have y912 : Rg 0 3 x2 := g52134; have y9c13 : ((-13) : Int32).toInt = -13 := (by decide); have y9c14 : (0 : Int32).toInt = 0 := (by decide); have y9c15 : (1 : Int32).toInt = 1 := (by decide); skip; omega)⟩, by rw [ht]; exact hP, hD⟩, hS.F ht⟩) hS.2.2 dX11_copy_67
        · have zn52165 : (L (26 + 2 * q52137) 1).toInt = -1 := hr52144.2.1 c52145
          have g52166 : Rg 1 1 r52144 := rg_ne_lo (k := 0) hr52144.1 (by decide) c52145 (by decide)
          refine lv_bipush (v := (-11)) hx hb dX11_copy_49 (by decide) ?_
          subst hAe
          exact W.iret (v := (-11)) hx hb hr (fun t ht hW => ⟨⟨_, u, rfl, ⟨(by decide : Rg (-13) 40 ((-11) : Int32)), (by have y90 : ¬ r52126.toInt = (0 : Int32).toInt := fun z => c52127 (Int32.toInt_inj.mp z); have y91 : ¬ r52132.toInt = (0 : Int32).toInt := fun z => c52133 (Int32.toInt_inj.mp z); have y92 : r52138.toInt = (0 : Int32).toInt := congrArg Int32.toInt c52139; have y93 : ¬ r52144.toInt = (0 : Int32).toInt := fun z => c52145 (Int32.toInt_inj.mp z); have y94 : Rg 0 3 x0 := g52130; have y95 : Rg 1 1 r52126 := g52131; have y96 : Rg 0 3 x2 := g52134; have y97 : Rg 1 1 r52132 := g52135; have y98 : Rg 0 0 r52138 := g52143; have y99 : Rg 1 1 r52144 := g52166; have y910 : Rg 0 3 x0 := g52130; have y911 : Rg 0 3 x2 := g52134; have y9c12 : ((-11) : Int32).toInt = -11 := (by decide); have y9c13 : (0 : Int32).toInt = 0 := (by decide); have y9c14 : (1 : Int32).toInt = 1 := (by decide); skip; omega)⟩, by rw [ht]; exact hP, hD⟩, hS.F ht⟩) hS.2.2 dX11_copy_51
    · have zt52167 : (x2.toInt < 0 ∨ 3 < x2.toInt) := hr52132.2.2 c52133
      have g52168 : Rg 0 0 r52132 := wk_eql hr52132.1 (by decide : Rg 0 0 (0 : Int32)) c52133 (by decide)
      refine lv_bipush (v := (-2)) hx hb dX11_copy_14 (by decide) ?_
      subst hAe
      exact W.iret (v := (-2)) hx hb hr (fun t ht hW => ⟨⟨_, u, rfl, ⟨(by decide : Rg (-13) 40 ((-2) : Int32)), (by have y90 : ¬ r52126.toInt = (0 : Int32).toInt := fun z => c52127 (Int32.toInt_inj.mp z); have y91 : r52132.toInt = (0 : Int32).toInt := congrArg Int32.toInt c52133; have y92 : Rg 0 3 x0 := g52130; have y93 : Rg 1 1 r52126 := g52131; have y94 : Rg 0 0 r52132 := g52168; have y95 : Rg 0 3 x0 := g52130; have y9c6 : ((-2) : Int32).toInt = -2 := (by decide); have y9c7 : (0 : Int32).toInt = 0 := (by decide); have y9c8 : (1 : Int32).toInt = 1 := (by decide); skip; omega)⟩, by rw [ht]; exact hP, hD⟩, hS.F ht⟩) hS.2.2 dX11_copy_16
