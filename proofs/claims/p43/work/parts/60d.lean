set_option maxRecDepth 20000 in
theorem ggX11_paint_X11_isSheet : GoodIn wsX11_paint wsX11_isSheet := goodIn_r _ [7] rfl (by decide +kernel)
set_option maxRecDepth 20000 in
theorem gX11_paint_X11_isSheet : GoodIn wsX11_paint (va_wsS RX11 248 yX11_isSheet wsX11_isSheet) := goodIn_app (goodIn_of _ (by decide +kernel)) ggX11_paint_X11_isSheet
set_option maxRecDepth 20000 in
theorem ggX11_paint_X11_isSort : GoodIn wsX11_paint wsX11_isSort := goodIn_r _ [10] rfl (by decide +kernel)
set_option maxRecDepth 20000 in
theorem gX11_paint_X11_isSort : GoodIn wsX11_paint (va_wsS RX11 259 yX11_isSort wsX11_isSort) := goodIn_app (goodIn_of _ (by decide +kernel)) ggX11_paint_X11_isSort
set_option maxRecDepth 20000 in
theorem ggX11_paint_X9_becomeFirst : GoodIn wsX11_paint wsX9_becomeFirst := goodIn_r _ [15, 16, 17, 18, 19, 20, 21, 22, 23, 24, 25, 26, 27, 28, 29, 30, 31, 32, 33, 34, 35, 36, 37, 38, 39, 40, 41, 42, 43, 44, 45, 46, 47, 48, 49, 50, 51, 52, 53, 54, 55, 56, 57, 58, 59, 60, 61, 62, 63, 64, 65, 66, 67, 68, 69, 70, 71, 72, 73, 74, 75, 76, 77, 78, 79, 80, 81, 82, 83, 84, 132, 133, 134, 135, 136, 137, 138, 139, 140, 141, 129, 130, 131, 142, 143] rfl (by decide +kernel)
set_option maxRecDepth 20000 in
theorem gX11_paint_X9_becomeFirst : GoodIn wsX11_paint (wsV RX11 147 RX9 yX9_becomeFirst wsX9_becomeFirst) := goodIn_app (goodIn_of _ (by decide +kernel)) ggX11_paint_X9_becomeFirst
set_option maxRecDepth 20000 in
theorem ggX11_paint_X9_writeTo : GoodIn wsX11_paint wsX9_writeTo := goodIn_r _ [88, 89, 17, 90, 91, 92, 93, 94, 95, 96, 97, 98, 99, 100, 101, 102, 103, 104, 105, 106, 107, 108, 109, 110, 111, 112, 132, 133, 134, 135, 136, 137, 129, 130, 131, 144, 145, 146] rfl (by decide +kernel)
set_option maxRecDepth 20000 in
theorem gX11_paint_X9_writeTo : GoodIn wsX11_paint (wsV RX11 243 RX9 yX9_writeTo wsX9_writeTo) := goodIn_app (goodIn_of _ (by decide +kernel)) ggX11_paint_X9_writeTo
theorem dX11_paint_0 : decode cX11_paint 0 = .ok (.iload_n 1, 1) := by decide +kernel
theorem dX11_paint_1 : decode cX11_paint 1 = .ok (.invokestatic 248, 3) := by decide +kernel
theorem dX11_paint_11 : decode cX11_paint 11 = .ok (.ifCond .ne 6, 3) := by decide +kernel
theorem dX11_paint_14 : decode cX11_paint 14 = .ok (.bipush (-2), 2) := by decide +kernel
theorem dX11_paint_16 : decode cX11_paint 16 = .ok (.ireturn, 1) := by decide +kernel
theorem dX11_paint_17 : decode cX11_paint 17 = .ok (.aload_n 0, 1) := by decide +kernel
theorem dX11_paint_18 : decode cX11_paint 18 = .ok (.getfield 82, 3) := by decide +kernel
theorem dX11_paint_21 : decode cX11_paint 21 = .ok (.invokevirtual 147, 3) := by decide +kernel
theorem dX11_paint_24 : decode cX11_paint 24 = .ok (.aload_n 0, 1) := by decide +kernel
theorem dX11_paint_25 : decode cX11_paint 25 = .ok (.getfield 82, 3) := by decide +kernel
theorem dX11_paint_28 : decode cX11_paint 28 = .ok (.aload_n 0, 1) := by decide +kernel
theorem dX11_paint_29 : decode cX11_paint 29 = .ok (.getfield 75, 3) := by decide +kernel
theorem dX11_paint_32 : decode cX11_paint 32 = .ok (.iload_n 1, 1) := by decide +kernel
theorem dX11_paint_33 : decode cX11_paint 33 = .ok (.aaload, 1) := by decide +kernel
theorem dX11_paint_34 : decode cX11_paint 34 = .ok (.iload_n 2, 1) := by decide +kernel
theorem dX11_paint_35 : decode cX11_paint 35 = .ok (.invokevirtual 243, 3) := by decide +kernel
theorem dX11_paint_38 : decode cX11_paint 38 = .ok (.aload_n 0, 1) := by decide +kernel
theorem dX11_paint_39 : decode cX11_paint 39 = .ok (.getfield 12, 3) := by decide +kernel
theorem dX11_paint_4 : decode cX11_paint 4 = .ok (.ifCond .eq 10, 3) := by decide +kernel
theorem dX11_paint_42 : decode cX11_paint 42 = .ok (.getfield 97, 3) := by decide +kernel
theorem dX11_paint_45 : decode cX11_paint 45 = .ok (.ireturn, 1) := by decide +kernel
theorem dX11_paint_7 : decode cX11_paint 7 = .ok (.iload_n 2, 1) := by decide +kernel
theorem dX11_paint_8 : decode cX11_paint 8 = .ok (.invokestatic 259, 3) := by decide +kernel
set_option maxHeartbeats 4000000 in
set_option maxRecDepth 100000 in
theorem k_X11_paint (l : Launch) (D : va_G) (cI cS : ClassId) (sz : Nat) (a : Nat → Nat) (na nc N : Nat) (l_s l_t l_i l_kp l_iz l_z l_tp l_o0 l_o1 l_o2 l_o3 l_n0 l_n1 l_n2 l_n3 : Int32) (u0 : SU) (hL : TyX (mkL l_s l_t l_i l_kp l_iz l_z l_tp l_o0 l_o1 l_o2 l_o3 l_n0 l_n1 l_n2 l_n3)) (hN : N = 0 ∨ N = 24576) (x0 x1 : Int32) : Met l yX11_paint wsX11_paint ({ frames := 19, cells := 0, slots := 0, locals := 760 }) (PQ D cI cS (wX cI cS a na nc N (mkL l_s l_t l_i l_kp l_iz l_z l_tp l_o0 l_o1 l_o2 l_o3 l_n0 l_n1 l_n2 l_n3) u0) sz [.ref (a 0), .int x0, .int x1]) (QF (S := Int32 × Int32 × Int32 × Int32 × Int32 × Int32 × Int32 × Int32 × SU) D (wX cI cS a na nc N (mkL l_s l_t l_i l_kp l_iz l_z l_tp l_o0 l_o1 l_o2 l_o3 l_n0 l_n1 l_n2 l_n3) u0) (fun q => wX cI cS a na nc N (mkL l_s l_t l_i l_kp l_iz l_z l_tp q.1 q.2.1 q.2.2.1 q.2.2.2.1 q.2.2.2.2.1 q.2.2.2.2.2.1 q.2.2.2.2.2.2.1 q.2.2.2.2.2.2.2.1) q.2.2.2.2.2.2.2.2) sz (fun r q => Rg (-2) 12 r ∧ Rg 0 40 q.2.2.2.2.1 ∧ Rg 0 40 q.2.2.2.2.2.1 ∧ Rg 0 40 q.2.2.2.2.2.2.1 ∧ Rg 0 40 q.2.2.2.2.2.2.2.1 ∧ ((x0.toInt < 0 ∨ 3 < x0.toInt ∨ x1.toInt < 0 ∨ 1 < x1.toInt → r.toInt = -2) ∧ (0 ≤ x0.toInt → x0.toInt ≤ 3 → 0 ≤ x1.toInt → x1.toInt ≤ 1 → r.toInt = l_s.toInt)) ∧ ((¬ r.toInt = -2 → x0.toInt = 0 → q.1.toInt = x1.toInt ∧ q.2.2.2.2.1.toInt = l_s.toInt) ∧ ((r.toInt = -2 ∨ ¬ x0.toInt = 0) → q.1.toInt = l_o0.toInt ∧ q.2.2.2.2.1.toInt = l_n0.toInt)) ∧ ((¬ r.toInt = -2 → x0.toInt = 1 → q.2.1.toInt = x1.toInt ∧ q.2.2.2.2.2.1.toInt = l_s.toInt) ∧ ((r.toInt = -2 ∨ ¬ x0.toInt = 1) → q.2.1.toInt = l_o1.toInt ∧ q.2.2.2.2.2.1.toInt = l_n1.toInt)) ∧ ((¬ r.toInt = -2 → x0.toInt = 2 → q.2.2.1.toInt = x1.toInt ∧ q.2.2.2.2.2.2.1.toInt = l_s.toInt) ∧ ((r.toInt = -2 ∨ ¬ x0.toInt = 2) → q.2.2.1.toInt = l_o2.toInt ∧ q.2.2.2.2.2.2.1.toInt = l_n2.toInt)) ∧ ((¬ r.toInt = -2 → x0.toInt = 3 → q.2.2.2.1.toInt = x1.toInt ∧ q.2.2.2.2.2.2.2.1.toInt = l_s.toInt) ∧ ((r.toInt = -2 ∨ ¬ x0.toInt = 3) → q.2.2.2.1.toInt = l_o3.toInt ∧ q.2.2.2.2.2.2.2.1.toInt = l_n3.toInt)))) 0 0 (va_A (wX cI cS a na nc N (mkL l_s l_t l_i l_kp l_iz l_z l_tp l_o0 l_o1 l_o2 l_o3 l_n0 l_n1 l_n2 l_n3) u0) sz) := by
  refine Met.ofW (cc := cX11_paint) (maxL := 3) (ret := (some .int)) (by decide) rfl ?_
  intro p e s m args below meth c s₁ B hml hv
  obtain ⟨rfl, hsz, hP, hKK, hD0⟩ := hv
  have hx := B.exec
  have hb := B.bytes
  have hr := B.returns
  have hts := atoms_spec (ws := wsX11_paint) B.pre
  have hown : s.vm.findClass RX11 = some m.cls := findClass_of_methodNamed B.named
  have hlocks := B.notSynchronized
  have hK := hKK.1
  have hin2 : ∀ w ∈ wsX20, w ∈ wsX11_paint := by decide +kernel
  have hin11 : ∀ w ∈ wsX110, w ∈ wsX11_paint := by decide +kernel
  subst hsz
  have hD := hD0.self (sz := s.heap.size)
  obtain ⟨A, hAe⟩ : ∃ A, A = va_A (wX cI cS a na nc N (mkL l_s l_t l_i l_kp l_iz l_z l_tp l_o0 l_o1 l_o2 l_o3 l_n0 l_n1 l_n2 l_n3) u0) s.heap.size := ⟨_, rfl⟩
  rw [← hAe] at hD
  have hA : ∀ q : Nat, s.heap.size ≤ q → A q := fun q h => by rw [hAe]; exact Or.inr h
  have hS : va_S A s.heap s.heap [] := va_S.rf
  have hl := lv_entry ([.ref (a 0), .int x0, .int x1]) (n := 3) (Nat.le_of_ble_eq_true rfl)
  rw [lg_entry_eq]
  generalize (lg_sl ([.ref (a 0), .int x0, .int x1]) ++ List.replicate (3 - (lg_sl ([.ref (a 0), .int x0, .int x1])).length) Slot.unset).toArray = ls at hl ⊢
  have hl : lv_has ls 3 [(0, .ref (a 0)), (1, .int x0), (2, .int x1)] := hl
  obtain ⟨u, hu9⟩ : ∃ u : SU, u = u0 := ⟨_, rfl⟩
  rw [← hu9] at hP hD
  have p_s : Rg 0 12 l_s := hL.1
  have p_t : Rg 0 12 l_t := hL.2.1
  have p_i : Rg 0 12 l_i := hL.2.2.1
  have p_tp : Rg 0 120 l_tp := hL.2.2.2.1
  have p_n0 : Rg 0 40 l_n0 := hL.2.2.2.2.1
  have p_n1 : Rg 0 40 l_n1 := hL.2.2.2.2.2.1
  have p_n2 : Rg 0 40 l_n2 := hL.2.2.2.2.2.2.1
  have p_n3 : Rg 0 40 l_n3 := hL.2.2.2.2.2.2.2
  refine lv_iload_n hx hb dX11_paint_0 rfl (lv_at hl 1 rfl) ?_
  refine lz_ss (As := [.int x0]) (rest := []) ⟨hx, hb, hml, hown, hts⟩ (k_X11_isSheet_z l D cI cS x0) hKK (hP.sub (ws' := []) [] rfl) (va_cwS 1 hts gX11_paint_X11_isSheet rfl rfl rfl (by decide +kernel) ⟨Nat.le_of_ble_eq_true rfl, Nat.le_of_ble_eq_true rfl⟩) rfl hl.1 rfl (Nat.le_of_ble_eq_true rfl) dX11_paint_1 ⟨Nat.le_of_ble_eq_true rfl, Nat.le_of_ble_eq_true rfl⟩ (fun r51330 hr51330 => ?_)
  refine lv_if_eq (tgt := 14) hx hb dX11_paint_4 (by decide) (fun c51331 => ?_) (fun c51331 => ?_)
  · have zt51332 : (x0.toInt < 0 ∨ 3 < x0.toInt) := hr51330.2.2 c51331
    have g51333 : Rg 0 0 r51330 := wk_eql hr51330.1 (by decide : Rg 0 0 (0 : Int32)) c51331 (by decide)
    refine lv_bipush (v := (-2)) hx hb dX11_paint_14 (by decide) ?_
    subst hAe
    exact W.iret (v := (-2)) hx hb hr (fun t ht hW => ⟨⟨_, (l_o0, l_o1, l_o2, l_o3, l_n0, l_n1, l_n2, l_n3, u), rfl, ⟨(by decide : Rg (-2) 12 ((-2) : Int32)), p_n0, p_n1, p_n2, p_n3, (show (x0.toInt < 0 ∨ 3 < x0.toInt ∨ x1.toInt < 0 ∨ 1 < x1.toInt → ((-2) : Int32).toInt = -2) ∧ (0 ≤ x0.toInt → x0.toInt ≤ 3 → 0 ≤ x1.toInt → x1.toInt ≤ 1 → ((-2) : Int32).toInt = l_s.toInt) from by have y90 : r51330.toInt = (0 : Int32).toInt := congrArg Int32.toInt c51331; have y91 : Rg 0 0 r51330 := g51333; have y92 : Rg 0 12 l_s := p_s; have y93 : Rg 0 12 l_t := p_t; have y94 : Rg 0 12 l_i := p_i; have y95 : Rg 0 120 l_tp := p_tp; have y96 : Rg 0 40 l_n0 := p_n0; have y97 : Rg 0 40 l_n1 := p_n1; have y98 : Rg 0 40 l_n2 := p_n2; have y99 : Rg 0 40 l_n3 := p_n3; have y9c10 : ((-2) : Int32).toInt = -2 := (by decide); have y9c11 : (0 : Int32).toInt = 0 := (by decide); have y9c12 : (1 : Int32).toInt = 1 := (by decide); omega), (show (¬ ((-2) : Int32).toInt = -2 → x0.toInt = 0 → l_o0.toInt = x1.toInt ∧ l_n0.toInt = l_s.toInt) ∧ ((((-2) : Int32).toInt = -2 ∨ ¬ x0.toInt = 0) → l_o0.toInt = l_o0.toInt ∧ l_n0.toInt = l_n0.toInt) from by have y90 : r51330.toInt = (0 : Int32).toInt := congrArg Int32.toInt c51331; have y91 : Rg 0 0 r51330 := g51333; have y92 : Rg 0 12 l_s := p_s; have y93 : Rg 0 12 l_t := p_t; have y94 : Rg 0 12 l_i := p_i; have y95 : Rg 0 120 l_tp := p_tp; have y96 : Rg 0 40 l_n0 := p_n0; have y97 : Rg 0 40 l_n1 := p_n1; have y98 : Rg 0 40 l_n2 := p_n2; have y99 : Rg 0 40 l_n3 := p_n3; have y9c10 : ((-2) : Int32).toInt = -2 := (by decide); have y9c11 : (0 : Int32).toInt = 0 := (by decide); have y9c12 : (1 : Int32).toInt = 1 := (by decide); omega), (show (¬ ((-2) : Int32).toInt = -2 → x0.toInt = 1 → l_o1.toInt = x1.toInt ∧ l_n1.toInt = l_s.toInt) ∧ ((((-2) : Int32).toInt = -2 ∨ ¬ x0.toInt = 1) → l_o1.toInt = l_o1.toInt ∧ l_n1.toInt = l_n1.toInt) from by have y90 : r51330.toInt = (0 : Int32).toInt := congrArg Int32.toInt c51331; have y91 : Rg 0 0 r51330 := g51333; have y92 : Rg 0 12 l_s := p_s; have y93 : Rg 0 12 l_t := p_t; have y94 : Rg 0 12 l_i := p_i; have y95 : Rg 0 120 l_tp := p_tp; have y96 : Rg 0 40 l_n0 := p_n0; have y97 : Rg 0 40 l_n1 := p_n1; have y98 : Rg 0 40 l_n2 := p_n2; have y99 : Rg 0 40 l_n3 := p_n3; have y9c10 : ((-2) : Int32).toInt = -2 := (by decide); have y9c11 : (0 : Int32).toInt = 0 := (by decide); have y9c12 : (1 : Int32).toInt = 1 := (by decide); omega), (show (¬ ((-2) : Int32).toInt = -2 → x0.toInt = 2 → l_o2.toInt = x1.toInt ∧ l_n2.toInt = l_s.toInt) ∧ ((((-2) : Int32).toInt = -2 ∨ ¬ x0.toInt = 2) → l_o2.toInt = l_o2.toInt ∧ l_n2.toInt = l_n2.toInt) from by have y90 : r51330.toInt = (0 : Int32).toInt := congrArg Int32.toInt c51331; have y91 : Rg 0 0 r51330 := g51333; have y92 : Rg 0 12 l_s := p_s; have y93 : Rg 0 12 l_t := p_t; have y94 : Rg 0 12 l_i := p_i; have y95 : Rg 0 120 l_tp := p_tp; have y96 : Rg 0 40 l_n0 := p_n0; have y97 : Rg 0 40 l_n1 := p_n1; have y98 : Rg 0 40 l_n2 := p_n2; have y99 : Rg 0 40 l_n3 := p_n3; have y9c10 : ((-2) : Int32).toInt = -2 := (by decide); have y9c11 : (0 : Int32).toInt = 0 := (by decide); have y9c12 : (1 : Int32).toInt = 1 := (by decide); omega), (show (¬ ((-2) : Int32).toInt = -2 → x0.toInt = 3 → l_o3.toInt = x1.toInt ∧ l_n3.toInt = l_s.toInt) ∧ ((((-2) : Int32).toInt = -2 ∨ ¬ x0.toInt = 3) → l_o3.toInt = l_o3.toInt ∧ l_n3.toInt = l_n3.toInt) from by have y90 : r51330.toInt = (0 : Int32).toInt := congrArg Int32.toInt c51331; have y91 : Rg 0 0 r51330 := g51333; have y92 : Rg 0 12 l_s := p_s; have y93 : Rg 0 12 l_t := p_t; have y94 : Rg 0 12 l_i := p_i; have y95 : Rg 0 120 l_tp := p_tp; have y96 : Rg 0 40 l_n0 := p_n0; have y97 : Rg 0 40 l_n1 := p_n1; have y98 : Rg 0 40 l_n2 := p_n2; have y99 : Rg 0 40 l_n3 := p_n3; have y9c10 : ((-2) : Int32).toInt = -2 := (by decide); have y9c11 : (0 : Int32).toInt = 0 := (by decide); have y9c12 : (1 : Int32).toInt = 1 := (by decide); omega)⟩, by rw [ht]; exact hP, hD⟩, hS.F ht⟩) hS.2.2 dX11_paint_16
  · have g51334 : Rg 0 3 x0 := (hr51330.2.1 c51331)
    have g51335 : Rg 1 1 r51330 := rg_ne_lo (k := 0) hr51330.1 (by decide) c51331 (by decide)
    refine lv_iload_n hx hb dX11_paint_7 rfl (lv_at hl 2 rfl) ?_
    refine lz_ss (As := [.int x1]) (rest := []) ⟨hx, hb, hml, hown, hts⟩ (k_X11_isSort_z l D cI cS x1) hKK (hP.sub (ws' := []) [] rfl) (va_cwS 1 hts gX11_paint_X11_isSort rfl rfl rfl (by decide +kernel) ⟨Nat.le_of_ble_eq_true rfl, Nat.le_of_ble_eq_true rfl⟩) rfl hl.1 rfl (Nat.le_of_ble_eq_true rfl) dX11_paint_8 ⟨Nat.le_of_ble_eq_true rfl, Nat.le_of_ble_eq_true rfl⟩ (fun r51336 hr51336 => ?_)
    refine lv_if_ne (tgt := 17) hx hb dX11_paint_11 (by decide) (fun c51337 => ?_) (fun c51337 => ?_)
    · have g51338 : Rg 0 1 x1 := (hr51336.2.1 c51337)
      have g51339 : Rg 1 1 r51336 := rg_ne_lo (k := 0) hr51336.1 (by decide) c51337 (by decide)
      refine lv_aload_n hx hb dX11_paint_17 rfl (lv_at hl 0 rfl) ?_
      refine va_get (D := D) (ci := 11) (v := .ref (a 34)) (C := RX11) (T := TX11) (N := 16) hx hb hts hin11 hown hK hP 0 rfl rfl 13 (by decide) (hts (.fieldLink RX11 82 "MissedPoints" "told" "LMissedPoints$Told;") (by decide +kernel)) (fun _ h9 => h9) rfl dX11_paint_18 ?_
      refine wk_qv (wX cI cS a na nc N (mkL l_s l_t l_i l_kp l_iz l_z l_tp l_o0 l_o1 l_o2 l_o3 l_n0 l_n1 l_n2 l_n3)) u (As := []) (rest := []) ⟨hx, hb, hml, hown, hts⟩ (k_X9_becomeFirst l D cI cS _ a na nc N (mkL l_s l_t l_i l_kp l_iz l_z l_tp l_o0 l_o1 l_o2 l_o3 l_n0 l_n1 l_n2 l_n3) u (show TyX (mkL l_s l_t l_i l_kp l_iz l_z l_tp l_o0 l_o1 l_o2 l_o3 l_n0 l_n1 l_n2 l_n3) from ⟨p_s, p_t, p_i, p_tp, p_n0, p_n1, p_n2, p_n3⟩) hN) hKK hP hD hS hA 34 (ci := 9) rfl rfl (cwV 0 hts gX11_paint_X9_becomeFirst rfl rfl rfl (by decide +kernel) ⟨Nat.le_of_ble_eq_true rfl, Nat.le_of_ble_eq_true rfl⟩) rfl hl.1 rfl (Nat.le_of_ble_eq_true rfl) dX11_paint_21 ⟨Nat.le_of_ble_eq_true rfl, Nat.le_of_ble_eq_true rfl⟩ (fun u H locs hr51340 hP hD hS => ?_)
      refine lv_aload_n hx hb dX11_paint_24 rfl (lv_at hl 0 rfl) ?_
      refine va_get (D := D) (ci := 11) (v := .ref (a 34)) (C := RX11) (T := TX11) (N := 16) hx hb hts hin11 hown hK hP 0 rfl rfl 13 (by decide) (hts (.fieldLink RX11 82 "MissedPoints" "told" "LMissedPoints$Told;") (by decide +kernel)) (fun _ h9 => h9) rfl dX11_paint_25 ?_
      refine lv_aload_n hx hb dX11_paint_28 rfl (lv_at hl 0 rfl) ?_
      refine va_get (D := D) (ci := 11) (v := .ref (a 25)) (C := RX11) (T := TX11) (N := 16) hx hb hts hin11 hown hK hP 0 rfl rfl 12 (by decide) (hts (.fieldLink RX11 75 "MissedPoints" "sheets" "[LMissedPoints$Sheet;") (by decide +kernel)) (fun _ h9 => h9) rfl dX11_paint_29 ?_
      refine lv_iload_n hx hb dX11_paint_32 rfl (lv_at hl 1 rfl) ?_
      by_cases k51341 : x0 = 0
      · refine va_aldq hx hb hK hP 25 1 rfl rfl (rg_in g51334 (by decide) (by decide)) dX11_paint_33 ?_
        refine lz_va (y := .ref (a 26)) (by rw [k51341]; rfl) ?_
        refine lv_iload_n hx hb dX11_paint_34 rfl (lv_at hl 2 rfl) ?_
        refine wk_qv (S := Int32 × Int32 × SU) (fun q => wX cI cS a na nc N (mkL l_s l_t l_i l_kp l_iz l_z l_tp q.1 l_o1 l_o2 l_o3 q.2.1 l_n1 l_n2 l_n3) q.2.2) (l_o0, l_n0, u) (As := [.ref (a 26), .int x1]) (rest := []) ⟨hx, hb, hml, hown, hts⟩ (k_X9_writeTo_0 l D cI cS _ a na nc N l_s l_t l_i l_kp l_iz l_z l_tp l_o0 l_o1 l_o2 l_o3 l_n0 l_n1 l_n2 l_n3 u (show TyX (mkL l_s l_t l_i l_kp l_iz l_z l_tp l_o0 l_o1 l_o2 l_o3 l_n0 l_n1 l_n2 l_n3) from ⟨p_s, p_t, p_i, p_tp, p_n0, p_n1, p_n2, p_n3⟩) hN x1) hKK hP hD hS hA 34 (ci := 9) rfl rfl (cwV 2 hts gX11_paint_X9_writeTo rfl rfl rfl (by decide +kernel) ⟨Nat.le_of_ble_eq_true rfl, Nat.le_of_ble_eq_true rfl⟩) rfl hl.1 rfl (Nat.le_of_ble_eq_true rfl) dX11_paint_35 ⟨Nat.le_of_ble_eq_true rfl, Nat.le_of_ble_eq_true rfl⟩ (fun q9 H locs hr51342 hP hD hS => ?_)
        obtain ⟨r51343, r51344, u⟩ := q9
        have hr51342 : Rg 0 40 r51344 ∧ (r51343.toInt = x1.toInt ∧ r51344.toInt = l_s.toInt) := hr51342
        have hP : va_P D cls (wX cI cS a na nc N (mkL l_s l_t l_i l_kp l_iz l_z l_tp r51343 l_o1 l_o2 l_o3 r51344 l_n1 l_n2 l_n3) u) H := hP
        have hD : va_D A (wX cI cS a na nc N (mkL l_s l_t l_i l_kp l_iz l_z l_tp r51343 l_o1 l_o2 l_o3 r51344 l_n1 l_n2 l_n3) u) := hD
        have kr51342_0 := hr51342.2
        refine lv_aload_n hx hb dX11_paint_38 rfl (lv_at hl 0 rfl) ?_
        refine va_get (D := D) (ci := 11) (v := .ref (a 1)) (C := RX11) (T := TX11) (N := 16) hx hb hts hin11 hown hK hP 0 rfl rfl 0 (by decide) (hts (.fieldLink RX11 12 "MissedPoints" "net" "LMissedPoints$Net;") (by decide +kernel)) (fun _ h9 => h9) rfl dX11_paint_39 ?_
        refine va_getN (D := D) (ci := 2) (v := .int l_s) (C := RX2) (T := TX2) (N := 3) hx hb hts hin2 hown hK hP 1 rfl rfl 1 (by decide) (va_Nw.use rfl hKK.2.2.2.2.2.2.2.2.2.2.1) (fun _ h9 => h9) rfl dX11_paint_42 ?_
        subst hAe
        exact W.iret (v := l_s) hx hb hr (fun t ht hW => ⟨⟨_, (r51343, l_o1, l_o2, l_o3, r51344, l_n1, l_n2, l_n3, u), rfl, ⟨(show Rg (-2) 12 l_s from rg_w p_s (by decide) (by decide)), hr51342.1, p_n1, p_n2, p_n3, (show (x0.toInt < 0 ∨ 3 < x0.toInt ∨ x1.toInt < 0 ∨ 1 < x1.toInt → l_s.toInt = -2) ∧ (0 ≤ x0.toInt → x0.toInt ≤ 3 → 0 ≤ x1.toInt → x1.toInt ≤ 1 → l_s.toInt = l_s.toInt) from by have y90 : ¬ r51330.toInt = (0 : Int32).toInt := fun z => c51331 (Int32.toInt_inj.mp z); have y91 : ¬ r51336.toInt = (0 : Int32).toInt := fun z => c51337 (Int32.toInt_inj.mp z); have y92 : x0.toInt = (0 : Int32).toInt := congrArg Int32.toInt k51341; have y93 : Rg 0 3 x0 := g51334; have y94 : Rg 1 1 r51330 := g51335; have y95 : Rg 0 1 x1 := g51338; have y96 : Rg 1 1 r51336 := g51339; have y97 : Rg 0 3 x0 := g51334; have y98 : Rg 0 1 x1 := g51338; have y99 : Rg 0 12 l_s := p_s; have y910 : Rg 0 12 l_s := p_s; have y911 : Rg 0 12 l_t := p_t; have y912 : Rg 0 12 l_i := p_i; have y913 : Rg 0 120 l_tp := p_tp; have y914 : Rg 0 40 r51344 := hr51342.1; have y915 : Rg 0 40 l_n1 := p_n1; have y916 : Rg 0 40 l_n2 := p_n2; have y917 : Rg 0 40 l_n3 := p_n3; have y918 : Rg 0 12 l_s := p_s; have y9c19 : (0 : Int32).toInt = 0 := (by decide); have y9c20 : (1 : Int32).toInt = 1 := (by decide); omega), (show (¬ l_s.toInt = -2 → x0.toInt = 0 → r51343.toInt = x1.toInt ∧ r51344.toInt = l_s.toInt) ∧ ((l_s.toInt = -2 ∨ ¬ x0.toInt = 0) → r51343.toInt = l_o0.toInt ∧ r51344.toInt = l_n0.toInt) from by have y90 : ¬ r51330.toInt = (0 : Int32).toInt := fun z => c51331 (Int32.toInt_inj.mp z); have y91 : ¬ r51336.toInt = (0 : Int32).toInt := fun z => c51337 (Int32.toInt_inj.mp z); have y92 : x0.toInt = (0 : Int32).toInt := congrArg Int32.toInt k51341; have y93 : Rg 0 3 x0 := g51334; have y94 : Rg 1 1 r51330 := g51335; have y95 : Rg 0 1 x1 := g51338; have y96 : Rg 1 1 r51336 := g51339; have y97 : Rg 0 3 x0 := g51334; have y98 : Rg 0 1 x1 := g51338; have y99 : Rg 0 12 l_s := p_s; have y910 : Rg 0 12 l_s := p_s; have y911 : Rg 0 12 l_t := p_t; have y912 : Rg 0 12 l_i := p_i; have y913 : Rg 0 120 l_tp := p_tp; have y914 : Rg 0 40 r51344 := hr51342.1; have y915 : Rg 0 40 l_n1 := p_n1; have y916 : Rg 0 40 l_n2 := p_n2; have y917 : Rg 0 40 l_n3 := p_n3; have y918 : Rg 0 12 l_s := p_s; have y9c19 : (0 : Int32).toInt = 0 := (by decide); have y9c20 : (1 : Int32).toInt = 1 := (by decide); omega), (show (¬ l_s.toInt = -2 → x0.toInt = 1 → l_o1.toInt = x1.toInt ∧ l_n1.toInt = l_s.toInt) ∧ ((l_s.toInt = -2 ∨ ¬ x0.toInt = 1) → l_o1.toInt = l_o1.toInt ∧ l_n1.toInt = l_n1.toInt) from by have y90 : ¬ r51330.toInt = (0 : Int32).toInt := fun z => c51331 (Int32.toInt_inj.mp z); have y91 : ¬ r51336.toInt = (0 : Int32).toInt := fun z => c51337 (Int32.toInt_inj.mp z); have y92 : x0.toInt = (0 : Int32).toInt := congrArg Int32.toInt k51341; have y93 : Rg 0 3 x0 := g51334; have y94 : Rg 1 1 r51330 := g51335; have y95 : Rg 0 1 x1 := g51338; have y96 : Rg 1 1 r51336 := g51339; have y97 : Rg 0 3 x0 := g51334; have y98 : Rg 0 1 x1 := g51338; have y99 : Rg 0 12 l_s := p_s; have y910 : Rg 0 12 l_s := p_s; have y911 : Rg 0 12 l_t := p_t; have y912 : Rg 0 12 l_i := p_i; have y913 : Rg 0 120 l_tp := p_tp; have y914 : Rg 0 40 r51344 := hr51342.1; have y915 : Rg 0 40 l_n1 := p_n1; have y916 : Rg 0 40 l_n2 := p_n2; have y917 : Rg 0 40 l_n3 := p_n3; have y918 : Rg 0 12 l_s := p_s; have y9c19 : (0 : Int32).toInt = 0 := (by decide); have y9c20 : (1 : Int32).toInt = 1 := (by decide); omega), (show (¬ l_s.toInt = -2 → x0.toInt = 2 → l_o2.toInt = x1.toInt ∧ l_n2.toInt = l_s.toInt) ∧ ((l_s.toInt = -2 ∨ ¬ x0.toInt = 2) → l_o2.toInt = l_o2.toInt ∧ l_n2.toInt = l_n2.toInt) from by have y90 : ¬ r51330.toInt = (0 : Int32).toInt := fun z => c51331 (Int32.toInt_inj.mp z); have y91 : ¬ r51336.toInt = (0 : Int32).toInt := fun z => c51337 (Int32.toInt_inj.mp z); have y92 : x0.toInt = (0 : Int32).toInt := congrArg Int32.toInt k51341; have y93 : Rg 0 3 x0 := g51334; have y94 : Rg 1 1 r51330 := g51335; have y95 : Rg 0 1 x1 := g51338; have y96 : Rg 1 1 r51336 := g51339; have y97 : Rg 0 3 x0 := g51334; have y98 : Rg 0 1 x1 := g51338; have y99 : Rg 0 12 l_s := p_s; have y910 : Rg 0 12 l_s := p_s; have y911 : Rg 0 12 l_t := p_t; have y912 : Rg 0 12 l_i := p_i; have y913 : Rg 0 120 l_tp := p_tp; have y914 : Rg 0 40 r51344 := hr51342.1; have y915 : Rg 0 40 l_n1 := p_n1; have y916 : Rg 0 40 l_n2 := p_n2; have y917 : Rg 0 40 l_n3 := p_n3; have y918 : Rg 0 12 l_s := p_s; have y9c19 : (0 : Int32).toInt = 0 := (by decide); have y9c20 : (1 : Int32).toInt = 1 := (by decide); omega), (show (¬ l_s.toInt = -2 → x0.toInt = 3 → l_o3.toInt = x1.toInt ∧ l_n3.toInt = l_s.toInt) ∧ ((l_s.toInt = -2 ∨ ¬ x0.toInt = 3) → l_o3.toInt = l_o3.toInt ∧ l_n3.toInt = l_n3.toInt) from by have y90 : ¬ r51330.toInt = (0 : Int32).toInt := fun z => c51331 (Int32.toInt_inj.mp z); have y91 : ¬ r51336.toInt = (0 : Int32).toInt := fun z => c51337 (Int32.toInt_inj.mp z); have y92 : x0.toInt = (0 : Int32).toInt := congrArg Int32.toInt k51341; have y93 : Rg 0 3 x0 := g51334; have y94 : Rg 1 1 r51330 := g51335; have y95 : Rg 0 1 x1 := g51338; have y96 : Rg 1 1 r51336 := g51339; have y97 : Rg 0 3 x0 := g51334; have y98 : Rg 0 1 x1 := g51338; have y99 : Rg 0 12 l_s := p_s; have y910 : Rg 0 12 l_s := p_s; have y911 : Rg 0 12 l_t := p_t; have y912 : Rg 0 12 l_i := p_i; have y913 : Rg 0 120 l_tp := p_tp; have y914 : Rg 0 40 r51344 := hr51342.1; have y915 : Rg 0 40 l_n1 := p_n1; have y916 : Rg 0 40 l_n2 := p_n2; have y917 : Rg 0 40 l_n3 := p_n3; have y918 : Rg 0 12 l_s := p_s; have y9c19 : (0 : Int32).toInt = 0 := (by decide); have y9c20 : (1 : Int32).toInt = 1 := (by decide); omega)⟩, by rw [ht]; exact hP, hD⟩, hS.F ht⟩) hS.2.2 dX11_paint_45
      by_cases k51345 : x0 = 1
      · refine va_aldq hx hb hK hP 25 1 rfl rfl (rg_in g51334 (by decide) (by decide)) dX11_paint_33 ?_
        refine lz_va (y := .ref (a 28)) (by rw [k51345]; rfl) ?_
        refine lv_iload_n hx hb dX11_paint_34 rfl (lv_at hl 2 rfl) ?_
        refine wk_qv (S := Int32 × Int32 × SU) (fun q => wX cI cS a na nc N (mkL l_s l_t l_i l_kp l_iz l_z l_tp l_o0 q.1 l_o2 l_o3 l_n0 q.2.1 l_n2 l_n3) q.2.2) (l_o1, l_n1, u) (As := [.ref (a 28), .int x1]) (rest := []) ⟨hx, hb, hml, hown, hts⟩ (k_X9_writeTo_1 l D cI cS _ a na nc N l_s l_t l_i l_kp l_iz l_z l_tp l_o0 l_o1 l_o2 l_o3 l_n0 l_n1 l_n2 l_n3 u (show TyX (mkL l_s l_t l_i l_kp l_iz l_z l_tp l_o0 l_o1 l_o2 l_o3 l_n0 l_n1 l_n2 l_n3) from ⟨p_s, p_t, p_i, p_tp, p_n0, p_n1, p_n2, p_n3⟩) hN x1) hKK hP hD hS hA 34 (ci := 9) rfl rfl (cwV 2 hts gX11_paint_X9_writeTo rfl rfl rfl (by decide +kernel) ⟨Nat.le_of_ble_eq_true rfl, Nat.le_of_ble_eq_true rfl⟩) rfl hl.1 rfl (Nat.le_of_ble_eq_true rfl) dX11_paint_35 ⟨Nat.le_of_ble_eq_true rfl, Nat.le_of_ble_eq_true rfl⟩ (fun q9 H locs hr51346 hP hD hS => ?_)
        obtain ⟨r51347, r51348, u⟩ := q9
        have hr51346 : Rg 0 40 r51348 ∧ (r51347.toInt = x1.toInt ∧ r51348.toInt = l_s.toInt) := hr51346
        have hP : va_P D cls (wX cI cS a na nc N (mkL l_s l_t l_i l_kp l_iz l_z l_tp l_o0 r51347 l_o2 l_o3 l_n0 r51348 l_n2 l_n3) u) H := hP
        have hD : va_D A (wX cI cS a na nc N (mkL l_s l_t l_i l_kp l_iz l_z l_tp l_o0 r51347 l_o2 l_o3 l_n0 r51348 l_n2 l_n3) u) := hD
        have kr51346_0 := hr51346.2
        refine lv_aload_n hx hb dX11_paint_38 rfl (lv_at hl 0 rfl) ?_
        refine va_get (D := D) (ci := 11) (v := .ref (a 1)) (C := RX11) (T := TX11) (N := 16) hx hb hts hin11 hown hK hP 0 rfl rfl 0 (by decide) (hts (.fieldLink RX11 12 "MissedPoints" "net" "LMissedPoints$Net;") (by decide +kernel)) (fun _ h9 => h9) rfl dX11_paint_39 ?_
        refine va_getN (D := D) (ci := 2) (v := .int l_s) (C := RX2) (T := TX2) (N := 3) hx hb hts hin2 hown hK hP 1 rfl rfl 1 (by decide) (va_Nw.use rfl hKK.2.2.2.2.2.2.2.2.2.2.1) (fun _ h9 => h9) rfl dX11_paint_42 ?_
        subst hAe
        exact W.iret (v := l_s) hx hb hr (fun t ht hW => ⟨⟨_, (l_o0, r51347, l_o2, l_o3, l_n0, r51348, l_n2, l_n3, u), rfl, ⟨(show Rg (-2) 12 l_s from rg_w p_s (by decide) (by decide)), p_n0, hr51346.1, p_n2, p_n3, (show (x0.toInt < 0 ∨ 3 < x0.toInt ∨ x1.toInt < 0 ∨ 1 < x1.toInt → l_s.toInt = -2) ∧ (0 ≤ x0.toInt → x0.toInt ≤ 3 → 0 ≤ x1.toInt → x1.toInt ≤ 1 → l_s.toInt = l_s.toInt) from by have y90 : ¬ r51330.toInt = (0 : Int32).toInt := fun z => c51331 (Int32.toInt_inj.mp z); have y91 : ¬ r51336.toInt = (0 : Int32).toInt := fun z => c51337 (Int32.toInt_inj.mp z); have y92 : ¬ x0.toInt = (0 : Int32).toInt := fun z => k51341 (Int32.toInt_inj.mp z); have y93 : x0.toInt = (1 : Int32).toInt := congrArg Int32.toInt k51345; have y94 : Rg 0 3 x0 := g51334; have y95 : Rg 1 1 r51330 := g51335; have y96 : Rg 0 1 x1 := g51338; have y97 : Rg 1 1 r51336 := g51339; have y98 : Rg 0 3 x0 := g51334; have y99 : Rg 0 1 x1 := g51338; have y910 : Rg 0 12 l_s := p_s; have y911 : Rg 0 12 l_s := p_s; have y912 : Rg 0 12 l_t := p_t; have y913 : Rg 0 12 l_i := p_i; have y914 : Rg 0 120 l_tp := p_tp; have y915 : Rg 0 40 l_n0 := p_n0; have y916 : Rg 0 40 r51348 := hr51346.1; have y917 : Rg 0 40 l_n2 := p_n2; have y918 : Rg 0 40 l_n3 := p_n3; have y919 : Rg 0 12 l_s := p_s; have y9c20 : (0 : Int32).toInt = 0 := (by decide); have y9c21 : (1 : Int32).toInt = 1 := (by decide); omega), (show (¬ l_s.toInt = -2 → x0.toInt = 0 → l_o0.toInt = x1.toInt ∧ l_n0.toInt = l_s.toInt) ∧ ((l_s.toInt = -2 ∨ ¬ x0.toInt = 0) → l_o0.toInt = l_o0.toInt ∧ l_n0.toInt = l_n0.toInt) from by have y90 : ¬ r51330.toInt = (0 : Int32).toInt := fun z => c51331 (Int32.toInt_inj.mp z); have y91 : ¬ r51336.toInt = (0 : Int32).toInt := fun z => c51337 (Int32.toInt_inj.mp z); have y92 : ¬ x0.toInt = (0 : Int32).toInt := fun z => k51341 (Int32.toInt_inj.mp z); have y93 : x0.toInt = (1 : Int32).toInt := congrArg Int32.toInt k51345; have y94 : Rg 0 3 x0 := g51334; have y95 : Rg 1 1 r51330 := g51335; have y96 : Rg 0 1 x1 := g51338; have y97 : Rg 1 1 r51336 := g51339; have y98 : Rg 0 3 x0 := g51334; have y99 : Rg 0 1 x1 := g51338; have y910 : Rg 0 12 l_s := p_s; have y911 : Rg 0 12 l_s := p_s; have y912 : Rg 0 12 l_t := p_t; have y913 : Rg 0 12 l_i := p_i; have y914 : Rg 0 120 l_tp := p_tp; have y915 : Rg 0 40 l_n0 := p_n0; have y916 : Rg 0 40 r51348 := hr51346.1; have y917 : Rg 0 40 l_n2 := p_n2; have y918 : Rg 0 40 l_n3 := p_n3; have y919 : Rg 0 12 l_s := p_s; have y9c20 : (0 : Int32).toInt = 0 := (by decide); have y9c21 : (1 : Int32).toInt = 1 := (by decide); omega), (show (¬ l_s.toInt = -2 → x0.toInt = 1 → r51347.toInt = x1.toInt ∧ r51348.toInt = l_s.toInt) ∧ ((l_s.toInt = -2 ∨ ¬ x0.toInt = 1) → r51347.toInt = l_o1.toInt ∧ r51348.toInt = l_n1.toInt) from by have y90 : ¬ r51330.toInt = (0 : Int32).toInt := fun z => c51331 (Int32.toInt_inj.mp z); have y91 : ¬ r51336.toInt = (0 : Int32).toInt := fun z => c51337 (Int32.toInt_inj.mp z); have y92 : ¬ x0.toInt = (0 : Int32).toInt := fun z => k51341 (Int32.toInt_inj.mp z); have y93 : x0.toInt = (1 : Int32).toInt := congrArg Int32.toInt k51345; have y94 : Rg 0 3 x0 := g51334; have y95 : Rg 1 1 r51330 := g51335; have y96 : Rg 0 1 x1 := g51338; have y97 : Rg 1 1 r51336 := g51339; have y98 : Rg 0 3 x0 := g51334; have y99 : Rg 0 1 x1 := g51338; have y910 : Rg 0 12 l_s := p_s; have y911 : Rg 0 12 l_s := p_s; have y912 : Rg 0 12 l_t := p_t; have y913 : Rg 0 12 l_i := p_i; have y914 : Rg 0 120 l_tp := p_tp; have y915 : Rg 0 40 l_n0 := p_n0; have y916 : Rg 0 40 r51348 := hr51346.1; have y917 : Rg 0 40 l_n2 := p_n2; have y918 : Rg 0 40 l_n3 := p_n3; have y919 : Rg 0 12 l_s := p_s; have y9c20 : (0 : Int32).toInt = 0 := (by decide); have y9c21 : (1 : Int32).toInt = 1 := (by decide); omega), (show (¬ l_s.toInt = -2 → x0.toInt = 2 → l_o2.toInt = x1.toInt ∧ l_n2.toInt = l_s.toInt) ∧ ((l_s.toInt = -2 ∨ ¬ x0.toInt = 2) → l_o2.toInt = l_o2.toInt ∧ l_n2.toInt = l_n2.toInt) from by have y90 : ¬ r51330.toInt = (0 : Int32).toInt := fun z => c51331 (Int32.toInt_inj.mp z); have y91 : ¬ r51336.toInt = (0 : Int32).toInt := fun z => c51337 (Int32.toInt_inj.mp z); have y92 : ¬ x0.toInt = (0 : Int32).toInt := fun z => k51341 (Int32.toInt_inj.mp z); have y93 : x0.toInt = (1 : Int32).toInt := congrArg Int32.toInt k51345; have y94 : Rg 0 3 x0 := g51334; have y95 : Rg 1 1 r51330 := g51335; have y96 : Rg 0 1 x1 := g51338; have y97 : Rg 1 1 r51336 := g51339; have y98 : Rg 0 3 x0 := g51334; have y99 : Rg 0 1 x1 := g51338; have y910 : Rg 0 12 l_s := p_s; have y911 : Rg 0 12 l_s := p_s; have y912 : Rg 0 12 l_t := p_t; have y913 : Rg 0 12 l_i := p_i; have y914 : Rg 0 120 l_tp := p_tp; have y915 : Rg 0 40 l_n0 := p_n0; have y916 : Rg 0 40 r51348 := hr51346.1; have y917 : Rg 0 40 l_n2 := p_n2; have y918 : Rg 0 40 l_n3 := p_n3; have y919 : Rg 0 12 l_s := p_s; have y9c20 : (0 : Int32).toInt = 0 := (by decide); have y9c21 : (1 : Int32).toInt = 1 := (by decide); omega), (show (¬ l_s.toInt = -2 → x0.toInt = 3 → l_o3.toInt = x1.toInt ∧ l_n3.toInt = l_s.toInt) ∧ ((l_s.toInt = -2 ∨ ¬ x0.toInt = 3) → l_o3.toInt = l_o3.toInt ∧ l_n3.toInt = l_n3.toInt) from by have y90 : ¬ r51330.toInt = (0 : Int32).toInt := fun z => c51331 (Int32.toInt_inj.mp z); have y91 : ¬ r51336.toInt = (0 : Int32).toInt := fun z => c51337 (Int32.toInt_inj.mp z); have y92 : ¬ x0.toInt = (0 : Int32).toInt := fun z => k51341 (Int32.toInt_inj.mp z); have y93 : x0.toInt = (1 : Int32).toInt := congrArg Int32.toInt k51345; have y94 : Rg 0 3 x0 := g51334; have y95 : Rg 1 1 r51330 := g51335; have y96 : Rg 0 1 x1 := g51338; have y97 : Rg 1 1 r51336 := g51339; have y98 : Rg 0 3 x0 := g51334; have y99 : Rg 0 1 x1 := g51338; have y910 : Rg 0 12 l_s := p_s; have y911 : Rg 0 12 l_s := p_s; have y912 : Rg 0 12 l_t := p_t; have y913 : Rg 0 12 l_i := p_i; have y914 : Rg 0 120 l_tp := p_tp; have y915 : Rg 0 40 l_n0 := p_n0; have y916 : Rg 0 40 r51348 := hr51346.1; have y917 : Rg 0 40 l_n2 := p_n2; have y918 : Rg 0 40 l_n3 := p_n3; have y919 : Rg 0 12 l_s := p_s; have y9c20 : (0 : Int32).toInt = 0 := (by decide); have y9c21 : (1 : Int32).toInt = 1 := (by decide); omega)⟩, by rw [ht]; exact hP, hD⟩, hS.F ht⟩) hS.2.2 dX11_paint_45
      by_cases k51349 : x0 = 2
      · refine va_aldq hx hb hK hP 25 1 rfl rfl (rg_in g51334 (by decide) (by decide)) dX11_paint_33 ?_
        refine lz_va (y := .ref (a 30)) (by rw [k51349]; rfl) ?_
        refine lv_iload_n hx hb dX11_paint_34 rfl (lv_at hl 2 rfl) ?_
        refine wk_qv (S := Int32 × Int32 × SU) (fun q => wX cI cS a na nc N (mkL l_s l_t l_i l_kp l_iz l_z l_tp l_o0 l_o1 q.1 l_o3 l_n0 l_n1 q.2.1 l_n3) q.2.2) (l_o2, l_n2, u) (As := [.ref (a 30), .int x1]) (rest := []) ⟨hx, hb, hml, hown, hts⟩ (k_X9_writeTo_2 l D cI cS _ a na nc N l_s l_t l_i l_kp l_iz l_z l_tp l_o0 l_o1 l_o2 l_o3 l_n0 l_n1 l_n2 l_n3 u (show TyX (mkL l_s l_t l_i l_kp l_iz l_z l_tp l_o0 l_o1 l_o2 l_o3 l_n0 l_n1 l_n2 l_n3) from ⟨p_s, p_t, p_i, p_tp, p_n0, p_n1, p_n2, p_n3⟩) hN x1) hKK hP hD hS hA 34 (ci := 9) rfl rfl (cwV 2 hts gX11_paint_X9_writeTo rfl rfl rfl (by decide +kernel) ⟨Nat.le_of_ble_eq_true rfl, Nat.le_of_ble_eq_true rfl⟩) rfl hl.1 rfl (Nat.le_of_ble_eq_true rfl) dX11_paint_35 ⟨Nat.le_of_ble_eq_true rfl, Nat.le_of_ble_eq_true rfl⟩ (fun q9 H locs hr51350 hP hD hS => ?_)
        obtain ⟨r51351, r51352, u⟩ := q9
        have hr51350 : Rg 0 40 r51352 ∧ (r51351.toInt = x1.toInt ∧ r51352.toInt = l_s.toInt) := hr51350
        have hP : va_P D cls (wX cI cS a na nc N (mkL l_s l_t l_i l_kp l_iz l_z l_tp l_o0 l_o1 r51351 l_o3 l_n0 l_n1 r51352 l_n3) u) H := hP
        have hD : va_D A (wX cI cS a na nc N (mkL l_s l_t l_i l_kp l_iz l_z l_tp l_o0 l_o1 r51351 l_o3 l_n0 l_n1 r51352 l_n3) u) := hD
        have kr51350_0 := hr51350.2
        refine lv_aload_n hx hb dX11_paint_38 rfl (lv_at hl 0 rfl) ?_
        refine va_get (D := D) (ci := 11) (v := .ref (a 1)) (C := RX11) (T := TX11) (N := 16) hx hb hts hin11 hown hK hP 0 rfl rfl 0 (by decide) (hts (.fieldLink RX11 12 "MissedPoints" "net" "LMissedPoints$Net;") (by decide +kernel)) (fun _ h9 => h9) rfl dX11_paint_39 ?_
        refine va_getN (D := D) (ci := 2) (v := .int l_s) (C := RX2) (T := TX2) (N := 3) hx hb hts hin2 hown hK hP 1 rfl rfl 1 (by decide) (va_Nw.use rfl hKK.2.2.2.2.2.2.2.2.2.2.1) (fun _ h9 => h9) rfl dX11_paint_42 ?_
        subst hAe
        exact W.iret (v := l_s) hx hb hr (fun t ht hW => ⟨⟨_, (l_o0, l_o1, r51351, l_o3, l_n0, l_n1, r51352, l_n3, u), rfl, ⟨(show Rg (-2) 12 l_s from rg_w p_s (by decide) (by decide)), p_n0, p_n1, hr51350.1, p_n3, (show (x0.toInt < 0 ∨ 3 < x0.toInt ∨ x1.toInt < 0 ∨ 1 < x1.toInt → l_s.toInt = -2) ∧ (0 ≤ x0.toInt → x0.toInt ≤ 3 → 0 ≤ x1.toInt → x1.toInt ≤ 1 → l_s.toInt = l_s.toInt) from by have y90 : ¬ r51330.toInt = (0 : Int32).toInt := fun z => c51331 (Int32.toInt_inj.mp z); have y91 : ¬ r51336.toInt = (0 : Int32).toInt := fun z => c51337 (Int32.toInt_inj.mp z); have y92 : ¬ x0.toInt = (0 : Int32).toInt := fun z => k51341 (Int32.toInt_inj.mp z); have y93 : ¬ x0.toInt = (1 : Int32).toInt := fun z => k51345 (Int32.toInt_inj.mp z); have y94 : x0.toInt = (2 : Int32).toInt := congrArg Int32.toInt k51349; have y95 : Rg 0 3 x0 := g51334; have y96 : Rg 1 1 r51330 := g51335; have y97 : Rg 0 1 x1 := g51338; have y98 : Rg 1 1 r51336 := g51339; have y99 : Rg 0 3 x0 := g51334; have y910 : Rg 0 1 x1 := g51338; have y911 : Rg 0 12 l_s := p_s; have y912 : Rg 0 12 l_s := p_s; have y913 : Rg 0 12 l_t := p_t; have y914 : Rg 0 12 l_i := p_i; have y915 : Rg 0 120 l_tp := p_tp; have y916 : Rg 0 40 l_n0 := p_n0; have y917 : Rg 0 40 l_n1 := p_n1; have y918 : Rg 0 40 r51352 := hr51350.1; have y919 : Rg 0 40 l_n3 := p_n3; have y920 : Rg 0 12 l_s := p_s; have y9c21 : (0 : Int32).toInt = 0 := (by decide); have y9c22 : (1 : Int32).toInt = 1 := (by decide); have y9c23 : (2 : Int32).toInt = 2 := (by decide); omega), (show (¬ l_s.toInt = -2 → x0.toInt = 0 → l_o0.toInt = x1.toInt ∧ l_n0.toInt = l_s.toInt) ∧ ((l_s.toInt = -2 ∨ ¬ x0.toInt = 0) → l_o0.toInt = l_o0.toInt ∧ l_n0.toInt = l_n0.toInt) from by have y90 : ¬ r51330.toInt = (0 : Int32).toInt := fun z => c51331 (Int32.toInt_inj.mp z); have y91 : ¬ r51336.toInt = (0 : Int32).toInt := fun z => c51337 (Int32.toInt_inj.mp z); have y92 : ¬ x0.toInt = (0 : Int32).toInt := fun z => k51341 (Int32.toInt_inj.mp z); have y93 : ¬ x0.toInt = (1 : Int32).toInt := fun z => k51345 (Int32.toInt_inj.mp z); have y94 : x0.toInt = (2 : Int32).toInt := congrArg Int32.toInt k51349; have y95 : Rg 0 3 x0 := g51334; have y96 : Rg 1 1 r51330 := g51335; have y97 : Rg 0 1 x1 := g51338; have y98 : Rg 1 1 r51336 := g51339; have y99 : Rg 0 3 x0 := g51334; have y910 : Rg 0 1 x1 := g51338; have y911 : Rg 0 12 l_s := p_s; have y912 : Rg 0 12 l_s := p_s; have y913 : Rg 0 12 l_t := p_t; have y914 : Rg 0 12 l_i := p_i; have y915 : Rg 0 120 l_tp := p_tp; have y916 : Rg 0 40 l_n0 := p_n0; have y917 : Rg 0 40 l_n1 := p_n1; have y918 : Rg 0 40 r51352 := hr51350.1; have y919 : Rg 0 40 l_n3 := p_n3; have y920 : Rg 0 12 l_s := p_s; have y9c21 : (0 : Int32).toInt = 0 := (by decide); have y9c22 : (1 : Int32).toInt = 1 := (by decide); have y9c23 : (2 : Int32).toInt = 2 := (by decide); omega), (show (¬ l_s.toInt = -2 → x0.toInt = 1 → l_o1.toInt = x1.toInt ∧ l_n1.toInt = l_s.toInt) ∧ ((l_s.toInt = -2 ∨ ¬ x0.toInt = 1) → l_o1.toInt = l_o1.toInt ∧ l_n1.toInt = l_n1.toInt) from by have y90 : ¬ r51330.toInt = (0 : Int32).toInt := fun z => c51331 (Int32.toInt_inj.mp z); have y91 : ¬ r51336.toInt = (0 : Int32).toInt := fun z => c51337 (Int32.toInt_inj.mp z); have y92 : ¬ x0.toInt = (0 : Int32).toInt := fun z => k51341 (Int32.toInt_inj.mp z); have y93 : ¬ x0.toInt = (1 : Int32).toInt := fun z => k51345 (Int32.toInt_inj.mp z); have y94 : x0.toInt = (2 : Int32).toInt := congrArg Int32.toInt k51349; have y95 : Rg 0 3 x0 := g51334; have y96 : Rg 1 1 r51330 := g51335; have y97 : Rg 0 1 x1 := g51338; have y98 : Rg 1 1 r51336 := g51339; have y99 : Rg 0 3 x0 := g51334; have y910 : Rg 0 1 x1 := g51338; have y911 : Rg 0 12 l_s := p_s; have y912 : Rg 0 12 l_s := p_s; have y913 : Rg 0 12 l_t := p_t; have y914 : Rg 0 12 l_i := p_i; have y915 : Rg 0 120 l_tp := p_tp; have y916 : Rg 0 40 l_n0 := p_n0; have y917 : Rg 0 40 l_n1 := p_n1; have y918 : Rg 0 40 r51352 := hr51350.1; have y919 : Rg 0 40 l_n3 := p_n3; have y920 : Rg 0 12 l_s := p_s; have y9c21 : (0 : Int32).toInt = 0 := (by decide); have y9c22 : (1 : Int32).toInt = 1 := (by decide); have y9c23 : (2 : Int32).toInt = 2 := (by decide); omega), (show (¬ l_s.toInt = -2 → x0.toInt = 2 → r51351.toInt = x1.toInt ∧ r51352.toInt = l_s.toInt) ∧ ((l_s.toInt = -2 ∨ ¬ x0.toInt = 2) → r51351.toInt = l_o2.toInt ∧ r51352.toInt = l_n2.toInt) from by have y90 : ¬ r51330.toInt = (0 : Int32).toInt := fun z => c51331 (Int32.toInt_inj.mp z); have y91 : ¬ r51336.toInt = (0 : Int32).toInt := fun z => c51337 (Int32.toInt_inj.mp z); have y92 : ¬ x0.toInt = (0 : Int32).toInt := fun z => k51341 (Int32.toInt_inj.mp z); have y93 : ¬ x0.toInt = (1 : Int32).toInt := fun z => k51345 (Int32.toInt_inj.mp z); have y94 : x0.toInt = (2 : Int32).toInt := congrArg Int32.toInt k51349; have y95 : Rg 0 3 x0 := g51334; have y96 : Rg 1 1 r51330 := g51335; have y97 : Rg 0 1 x1 := g51338; have y98 : Rg 1 1 r51336 := g51339; have y99 : Rg 0 3 x0 := g51334; have y910 : Rg 0 1 x1 := g51338; have y911 : Rg 0 12 l_s := p_s; have y912 : Rg 0 12 l_s := p_s; have y913 : Rg 0 12 l_t := p_t; have y914 : Rg 0 12 l_i := p_i; have y915 : Rg 0 120 l_tp := p_tp; have y916 : Rg 0 40 l_n0 := p_n0; have y917 : Rg 0 40 l_n1 := p_n1; have y918 : Rg 0 40 r51352 := hr51350.1; have y919 : Rg 0 40 l_n3 := p_n3; have y920 : Rg 0 12 l_s := p_s; have y9c21 : (0 : Int32).toInt = 0 := (by decide); have y9c22 : (1 : Int32).toInt = 1 := (by decide); have y9c23 : (2 : Int32).toInt = 2 := (by decide); omega), (show (¬ l_s.toInt = -2 → x0.toInt = 3 → l_o3.toInt = x1.toInt ∧ l_n3.toInt = l_s.toInt) ∧ ((l_s.toInt = -2 ∨ ¬ x0.toInt = 3) → l_o3.toInt = l_o3.toInt ∧ l_n3.toInt = l_n3.toInt) from by have y90 : ¬ r51330.toInt = (0 : Int32).toInt := fun z => c51331 (Int32.toInt_inj.mp z); have y91 : ¬ r51336.toInt = (0 : Int32).toInt := fun z => c51337 (Int32.toInt_inj.mp z); have y92 : ¬ x0.toInt = (0 : Int32).toInt := fun z => k51341 (Int32.toInt_inj.mp z); have y93 : ¬ x0.toInt = (1 : Int32).toInt := fun z => k51345 (Int32.toInt_inj.mp z); have y94 : x0.toInt = (2 : Int32).toInt := congrArg Int32.toInt k51349; have y95 : Rg 0 3 x0 := g51334; have y96 : Rg 1 1 r51330 := g51335; have y97 : Rg 0 1 x1 := g51338; have y98 : Rg 1 1 r51336 := g51339; have y99 : Rg 0 3 x0 := g51334; have y910 : Rg 0 1 x1 := g51338; have y911 : Rg 0 12 l_s := p_s; have y912 : Rg 0 12 l_s := p_s; have y913 : Rg 0 12 l_t := p_t; have y914 : Rg 0 12 l_i := p_i; have y915 : Rg 0 120 l_tp := p_tp; have y916 : Rg 0 40 l_n0 := p_n0; have y917 : Rg 0 40 l_n1 := p_n1; have y918 : Rg 0 40 r51352 := hr51350.1; have y919 : Rg 0 40 l_n3 := p_n3; have y920 : Rg 0 12 l_s := p_s; have y9c21 : (0 : Int32).toInt = 0 := (by decide); have y9c22 : (1 : Int32).toInt = 1 := (by decide); have y9c23 : (2 : Int32).toInt = 2 := (by decide); omega)⟩, by rw [ht]; exact hP, hD⟩, hS.F ht⟩) hS.2.2 dX11_paint_45
      by_cases k51353 : x0 = 3
      · refine va_aldq hx hb hK hP 25 1 rfl rfl (rg_in g51334 (by decide) (by decide)) dX11_paint_33 ?_
        refine lz_va (y := .ref (a 32)) (by rw [k51353]; rfl) ?_
        refine lv_iload_n hx hb dX11_paint_34 rfl (lv_at hl 2 rfl) ?_
        refine wk_qv (S := Int32 × Int32 × SU) (fun q => wX cI cS a na nc N (mkL l_s l_t l_i l_kp l_iz l_z l_tp l_o0 l_o1 l_o2 q.1 l_n0 l_n1 l_n2 q.2.1) q.2.2) (l_o3, l_n3, u) (As := [.ref (a 32), .int x1]) (rest := []) ⟨hx, hb, hml, hown, hts⟩ (k_X9_writeTo_3 l D cI cS _ a na nc N l_s l_t l_i l_kp l_iz l_z l_tp l_o0 l_o1 l_o2 l_o3 l_n0 l_n1 l_n2 l_n3 u (show TyX (mkL l_s l_t l_i l_kp l_iz l_z l_tp l_o0 l_o1 l_o2 l_o3 l_n0 l_n1 l_n2 l_n3) from ⟨p_s, p_t, p_i, p_tp, p_n0, p_n1, p_n2, p_n3⟩) hN x1) hKK hP hD hS hA 34 (ci := 9) rfl rfl (cwV 2 hts gX11_paint_X9_writeTo rfl rfl rfl (by decide +kernel) ⟨Nat.le_of_ble_eq_true rfl, Nat.le_of_ble_eq_true rfl⟩) rfl hl.1 rfl (Nat.le_of_ble_eq_true rfl) dX11_paint_35 ⟨Nat.le_of_ble_eq_true rfl, Nat.le_of_ble_eq_true rfl⟩ (fun q9 H locs hr51354 hP hD hS => ?_)
        obtain ⟨r51355, r51356, u⟩ := q9
        have hr51354 : Rg 0 40 r51356 ∧ (r51355.toInt = x1.toInt ∧ r51356.toInt = l_s.toInt) := hr51354
        have hP : va_P D cls (wX cI cS a na nc N (mkL l_s l_t l_i l_kp l_iz l_z l_tp l_o0 l_o1 l_o2 r51355 l_n0 l_n1 l_n2 r51356) u) H := hP
        have hD : va_D A (wX cI cS a na nc N (mkL l_s l_t l_i l_kp l_iz l_z l_tp l_o0 l_o1 l_o2 r51355 l_n0 l_n1 l_n2 r51356) u) := hD
        have kr51354_0 := hr51354.2
        refine lv_aload_n hx hb dX11_paint_38 rfl (lv_at hl 0 rfl) ?_
        refine va_get (D := D) (ci := 11) (v := .ref (a 1)) (C := RX11) (T := TX11) (N := 16) hx hb hts hin11 hown hK hP 0 rfl rfl 0 (by decide) (hts (.fieldLink RX11 12 "MissedPoints" "net" "LMissedPoints$Net;") (by decide +kernel)) (fun _ h9 => h9) rfl dX11_paint_39 ?_
        refine va_getN (D := D) (ci := 2) (v := .int l_s) (C := RX2) (T := TX2) (N := 3) hx hb hts hin2 hown hK hP 1 rfl rfl 1 (by decide) (va_Nw.use rfl hKK.2.2.2.2.2.2.2.2.2.2.1) (fun _ h9 => h9) rfl dX11_paint_42 ?_
        subst hAe
        exact W.iret (v := l_s) hx hb hr (fun t ht hW => ⟨⟨_, (l_o0, l_o1, l_o2, r51355, l_n0, l_n1, l_n2, r51356, u), rfl, ⟨(show Rg (-2) 12 l_s from rg_w p_s (by decide) (by decide)), p_n0, p_n1, p_n2, hr51354.1, (show (x0.toInt < 0 ∨ 3 < x0.toInt ∨ x1.toInt < 0 ∨ 1 < x1.toInt → l_s.toInt = -2) ∧ (0 ≤ x0.toInt → x0.toInt ≤ 3 → 0 ≤ x1.toInt → x1.toInt ≤ 1 → l_s.toInt = l_s.toInt) from by have y90 : ¬ r51330.toInt = (0 : Int32).toInt := fun z => c51331 (Int32.toInt_inj.mp z); have y91 : ¬ r51336.toInt = (0 : Int32).toInt := fun z => c51337 (Int32.toInt_inj.mp z); have y92 : ¬ x0.toInt = (0 : Int32).toInt := fun z => k51341 (Int32.toInt_inj.mp z); have y93 : ¬ x0.toInt = (1 : Int32).toInt := fun z => k51345 (Int32.toInt_inj.mp z); have y94 : ¬ x0.toInt = (2 : Int32).toInt := fun z => k51349 (Int32.toInt_inj.mp z); have y95 : x0.toInt = (3 : Int32).toInt := congrArg Int32.toInt k51353; have y96 : Rg 0 3 x0 := g51334; have y97 : Rg 1 1 r51330 := g51335; have y98 : Rg 0 1 x1 := g51338; have y99 : Rg 1 1 r51336 := g51339; have y910 : Rg 0 3 x0 := g51334; have y911 : Rg 0 1 x1 := g51338; have y912 : Rg 0 12 l_s := p_s; have y913 : Rg 0 12 l_s := p_s; have y914 : Rg 0 12 l_t := p_t; have y915 : Rg 0 12 l_i := p_i; have y916 : Rg 0 120 l_tp := p_tp; have y917 : Rg 0 40 l_n0 := p_n0; have y918 : Rg 0 40 l_n1 := p_n1; have y919 : Rg 0 40 l_n2 := p_n2; have y920 : Rg 0 40 r51356 := hr51354.1; have y921 : Rg 0 12 l_s := p_s; have y9c22 : (0 : Int32).toInt = 0 := (by decide); have y9c23 : (1 : Int32).toInt = 1 := (by decide); have y9c24 : (2 : Int32).toInt = 2 := (by decide); have y9c25 : (3 : Int32).toInt = 3 := (by decide); omega), (show (¬ l_s.toInt = -2 → x0.toInt = 0 → l_o0.toInt = x1.toInt ∧ l_n0.toInt = l_s.toInt) ∧ ((l_s.toInt = -2 ∨ ¬ x0.toInt = 0) → l_o0.toInt = l_o0.toInt ∧ l_n0.toInt = l_n0.toInt) from by have y90 : ¬ r51330.toInt = (0 : Int32).toInt := fun z => c51331 (Int32.toInt_inj.mp z); have y91 : ¬ r51336.toInt = (0 : Int32).toInt := fun z => c51337 (Int32.toInt_inj.mp z); have y92 : ¬ x0.toInt = (0 : Int32).toInt := fun z => k51341 (Int32.toInt_inj.mp z); have y93 : ¬ x0.toInt = (1 : Int32).toInt := fun z => k51345 (Int32.toInt_inj.mp z); have y94 : ¬ x0.toInt = (2 : Int32).toInt := fun z => k51349 (Int32.toInt_inj.mp z); have y95 : x0.toInt = (3 : Int32).toInt := congrArg Int32.toInt k51353; have y96 : Rg 0 3 x0 := g51334; have y97 : Rg 1 1 r51330 := g51335; have y98 : Rg 0 1 x1 := g51338; have y99 : Rg 1 1 r51336 := g51339; have y910 : Rg 0 3 x0 := g51334; have y911 : Rg 0 1 x1 := g51338; have y912 : Rg 0 12 l_s := p_s; have y913 : Rg 0 12 l_s := p_s; have y914 : Rg 0 12 l_t := p_t; have y915 : Rg 0 12 l_i := p_i; have y916 : Rg 0 120 l_tp := p_tp; have y917 : Rg 0 40 l_n0 := p_n0; have y918 : Rg 0 40 l_n1 := p_n1; have y919 : Rg 0 40 l_n2 := p_n2; have y920 : Rg 0 40 r51356 := hr51354.1; have y921 : Rg 0 12 l_s := p_s; have y9c22 : (0 : Int32).toInt = 0 := (by decide); have y9c23 : (1 : Int32).toInt = 1 := (by decide); have y9c24 : (2 : Int32).toInt = 2 := (by decide); have y9c25 : (3 : Int32).toInt = 3 := (by decide); omega), (show (¬ l_s.toInt = -2 → x0.toInt = 1 → l_o1.toInt = x1.toInt ∧ l_n1.toInt = l_s.toInt) ∧ ((l_s.toInt = -2 ∨ ¬ x0.toInt = 1) → l_o1.toInt = l_o1.toInt ∧ l_n1.toInt = l_n1.toInt) from by have y90 : ¬ r51330.toInt = (0 : Int32).toInt := fun z => c51331 (Int32.toInt_inj.mp z); have y91 : ¬ r51336.toInt = (0 : Int32).toInt := fun z => c51337 (Int32.toInt_inj.mp z); have y92 : ¬ x0.toInt = (0 : Int32).toInt := fun z => k51341 (Int32.toInt_inj.mp z); have y93 : ¬ x0.toInt = (1 : Int32).toInt := fun z => k51345 (Int32.toInt_inj.mp z); have y94 : ¬ x0.toInt = (2 : Int32).toInt := fun z => k51349 (Int32.toInt_inj.mp z); have y95 : x0.toInt = (3 : Int32).toInt := congrArg Int32.toInt k51353; have y96 : Rg 0 3 x0 := g51334; have y97 : Rg 1 1 r51330 := g51335; have y98 : Rg 0 1 x1 := g51338; have y99 : Rg 1 1 r51336 := g51339; have y910 : Rg 0 3 x0 := g51334; have y911 : Rg 0 1 x1 := g51338; have y912 : Rg 0 12 l_s := p_s; have y913 : Rg 0 12 l_s := p_s; have y914 : Rg 0 12 l_t := p_t; have y915 : Rg 0 12 l_i := p_i; have y916 : Rg 0 120 l_tp := p_tp; have y917 : Rg 0 40 l_n0 := p_n0; have y918 : Rg 0 40 l_n1 := p_n1; have y919 : Rg 0 40 l_n2 := p_n2; have y920 : Rg 0 40 r51356 := hr51354.1; have y921 : Rg 0 12 l_s := p_s; have y9c22 : (0 : Int32).toInt = 0 := (by decide); have y9c23 : (1 : Int32).toInt = 1 := (by decide); have y9c24 : (2 : Int32).toInt = 2 := (by decide); have y9c25 : (3 : Int32).toInt = 3 := (by decide); omega), (show (¬ l_s.toInt = -2 → x0.toInt = 2 → l_o2.toInt = x1.toInt ∧ l_n2.toInt = l_s.toInt) ∧ ((l_s.toInt = -2 ∨ ¬ x0.toInt = 2) → l_o2.toInt = l_o2.toInt ∧ l_n2.toInt = l_n2.toInt) from by have y90 : ¬ r51330.toInt = (0 : Int32).toInt := fun z => c51331 (Int32.toInt_inj.mp z); have y91 : ¬ r51336.toInt = (0 : Int32).toInt := fun z => c51337 (Int32.toInt_inj.mp z); have y92 : ¬ x0.toInt = (0 : Int32).toInt := fun z => k51341 (Int32.toInt_inj.mp z); have y93 : ¬ x0.toInt = (1 : Int32).toInt := fun z => k51345 (Int32.toInt_inj.mp z); have y94 : ¬ x0.toInt = (2 : Int32).toInt := fun z => k51349 (Int32.toInt_inj.mp z); have y95 : x0.toInt = (3 : Int32).toInt := congrArg Int32.toInt k51353; have y96 : Rg 0 3 x0 := g51334; have y97 : Rg 1 1 r51330 := g51335; have y98 : Rg 0 1 x1 := g51338; have y99 : Rg 1 1 r51336 := g51339; have y910 : Rg 0 3 x0 := g51334; have y911 : Rg 0 1 x1 := g51338; have y912 : Rg 0 12 l_s := p_s; have y913 : Rg 0 12 l_s := p_s; have y914 : Rg 0 12 l_t := p_t; have y915 : Rg 0 12 l_i := p_i; have y916 : Rg 0 120 l_tp := p_tp; have y917 : Rg 0 40 l_n0 := p_n0; have y918 : Rg 0 40 l_n1 := p_n1; have y919 : Rg 0 40 l_n2 := p_n2; have y920 : Rg 0 40 r51356 := hr51354.1; have y921 : Rg 0 12 l_s := p_s; have y9c22 : (0 : Int32).toInt = 0 := (by decide); have y9c23 : (1 : Int32).toInt = 1 := (by decide); have y9c24 : (2 : Int32).toInt = 2 := (by decide); have y9c25 : (3 : Int32).toInt = 3 := (by decide); omega), (show (¬ l_s.toInt = -2 → x0.toInt = 3 → r51355.toInt = x1.toInt ∧ r51356.toInt = l_s.toInt) ∧ ((l_s.toInt = -2 ∨ ¬ x0.toInt = 3) → r51355.toInt = l_o3.toInt ∧ r51356.toInt = l_n3.toInt) from by have y90 : ¬ r51330.toInt = (0 : Int32).toInt := fun z => c51331 (Int32.toInt_inj.mp z); have y91 : ¬ r51336.toInt = (0 : Int32).toInt := fun z => c51337 (Int32.toInt_inj.mp z); have y92 : ¬ x0.toInt = (0 : Int32).toInt := fun z => k51341 (Int32.toInt_inj.mp z); have y93 : ¬ x0.toInt = (1 : Int32).toInt := fun z => k51345 (Int32.toInt_inj.mp z); have y94 : ¬ x0.toInt = (2 : Int32).toInt := fun z => k51349 (Int32.toInt_inj.mp z); have y95 : x0.toInt = (3 : Int32).toInt := congrArg Int32.toInt k51353; have y96 : Rg 0 3 x0 := g51334; have y97 : Rg 1 1 r51330 := g51335; have y98 : Rg 0 1 x1 := g51338; have y99 : Rg 1 1 r51336 := g51339; have y910 : Rg 0 3 x0 := g51334; have y911 : Rg 0 1 x1 := g51338; have y912 : Rg 0 12 l_s := p_s; have y913 : Rg 0 12 l_s := p_s; have y914 : Rg 0 12 l_t := p_t; have y915 : Rg 0 12 l_i := p_i; have y916 : Rg 0 120 l_tp := p_tp; have y917 : Rg 0 40 l_n0 := p_n0; have y918 : Rg 0 40 l_n1 := p_n1; have y919 : Rg 0 40 l_n2 := p_n2; have y920 : Rg 0 40 r51356 := hr51354.1; have y921 : Rg 0 12 l_s := p_s; have y9c22 : (0 : Int32).toInt = 0 := (by decide); have y9c23 : (1 : Int32).toInt = 1 := (by decide); have y9c24 : (2 : Int32).toInt = 2 := (by decide); have y9c25 : (3 : Int32).toInt = 3 := (by decide); omega)⟩, by rw [ht]; exact hP, hD⟩, hS.F ht⟩) hS.2.2 dX11_paint_45
      exact False.elim (by have y90 : ¬ r51330.toInt = (0 : Int32).toInt := fun z => c51331 (Int32.toInt_inj.mp z); have y91 : ¬ r51336.toInt = (0 : Int32).toInt := fun z => c51337 (Int32.toInt_inj.mp z); have y92 : ¬ x0.toInt = (0 : Int32).toInt := fun z => k51341 (Int32.toInt_inj.mp z); have y93 : ¬ x0.toInt = (1 : Int32).toInt := fun z => k51345 (Int32.toInt_inj.mp z); have y94 : ¬ x0.toInt = (2 : Int32).toInt := fun z => k51349 (Int32.toInt_inj.mp z); have y95 : ¬ x0.toInt = (3 : Int32).toInt := fun z => k51353 (Int32.toInt_inj.mp z); have y96 : Rg 0 3 x0 := g51334; have y97 : Rg 1 1 r51330 := g51335; have y98 : Rg 0 1 x1 := g51338; have y99 : Rg 1 1 r51336 := g51339; have y910 : Rg 0 3 x0 := g51334; have y911 : Rg 0 1 x1 := g51338; have y912 : Rg 0 12 l_s := p_s; have y913 : Rg 0 12 l_t := p_t; have y914 : Rg 0 12 l_i := p_i; have y915 : Rg 0 120 l_tp := p_tp; have y916 : Rg 0 40 l_n0 := p_n0; have y917 : Rg 0 40 l_n1 := p_n1; have y918 : Rg 0 40 l_n2 := p_n2; have y919 : Rg 0 40 l_n3 := p_n3; have y9c20 : (0 : Int32).toInt = 0 := (by decide); have y9c21 : (1 : Int32).toInt = 1 := (by decide); have y9c22 : (2 : Int32).toInt = 2 := (by decide); have y9c23 : (3 : Int32).toInt = 3 := (by decide); have z9 := g51334; omega)
    · have zt51357 : (x1.toInt < 0 ∨ 1 < x1.toInt) := hr51336.2.2 c51337
      have g51358 : Rg 0 0 r51336 := wk_eql hr51336.1 (by decide : Rg 0 0 (0 : Int32)) c51337 (by decide)
      refine lv_bipush (v := (-2)) hx hb dX11_paint_14 (by decide) ?_
      subst hAe
      exact W.iret (v := (-2)) hx hb hr (fun t ht hW => ⟨⟨_, (l_o0, l_o1, l_o2, l_o3, l_n0, l_n1, l_n2, l_n3, u), rfl, ⟨(by decide : Rg (-2) 12 ((-2) : Int32)), p_n0, p_n1, p_n2, p_n3, (show (x0.toInt < 0 ∨ 3 < x0.toInt ∨ x1.toInt < 0 ∨ 1 < x1.toInt → ((-2) : Int32).toInt = -2) ∧ (0 ≤ x0.toInt → x0.toInt ≤ 3 → 0 ≤ x1.toInt → x1.toInt ≤ 1 → ((-2) : Int32).toInt = l_s.toInt) from by have y90 : ¬ r51330.toInt = (0 : Int32).toInt := fun z => c51331 (Int32.toInt_inj.mp z); have y91 : r51336.toInt = (0 : Int32).toInt := congrArg Int32.toInt c51337; have y92 : Rg 0 3 x0 := g51334; have y93 : Rg 1 1 r51330 := g51335; have y94 : Rg 0 0 r51336 := g51358; have y95 : Rg 0 3 x0 := g51334; have y96 : Rg 0 12 l_s := p_s; have y97 : Rg 0 12 l_t := p_t; have y98 : Rg 0 12 l_i := p_i; have y99 : Rg 0 120 l_tp := p_tp; have y910 : Rg 0 40 l_n0 := p_n0; have y911 : Rg 0 40 l_n1 := p_n1; have y912 : Rg 0 40 l_n2 := p_n2; have y913 : Rg 0 40 l_n3 := p_n3; have y9c14 : ((-2) : Int32).toInt = -2 := (by decide); have y9c15 : (0 : Int32).toInt = 0 := (by decide); have y9c16 : (1 : Int32).toInt = 1 := (by decide); omega), (show (¬ ((-2) : Int32).toInt = -2 → x0.toInt = 0 → l_o0.toInt = x1.toInt ∧ l_n0.toInt = l_s.toInt) ∧ ((((-2) : Int32).toInt = -2 ∨ ¬ x0.toInt = 0) → l_o0.toInt = l_o0.toInt ∧ l_n0.toInt = l_n0.toInt) from by have y90 : ¬ r51330.toInt = (0 : Int32).toInt := fun z => c51331 (Int32.toInt_inj.mp z); have y91 : r51336.toInt = (0 : Int32).toInt := congrArg Int32.toInt c51337; have y92 : Rg 0 3 x0 := g51334; have y93 : Rg 1 1 r51330 := g51335; have y94 : Rg 0 0 r51336 := g51358; have y95 : Rg 0 3 x0 := g51334; have y96 : Rg 0 12 l_s := p_s; have y97 : Rg 0 12 l_t := p_t; have y98 : Rg 0 12 l_i := p_i; have y99 : Rg 0 120 l_tp := p_tp; have y910 : Rg 0 40 l_n0 := p_n0; have y911 : Rg 0 40 l_n1 := p_n1; have y912 : Rg 0 40 l_n2 := p_n2; have y913 : Rg 0 40 l_n3 := p_n3; have y9c14 : ((-2) : Int32).toInt = -2 := (by decide); have y9c15 : (0 : Int32).toInt = 0 := (by decide); have y9c16 : (1 : Int32).toInt = 1 := (by decide); omega), (show (¬ ((-2) : Int32).toInt = -2 → x0.toInt = 1 → l_o1.toInt = x1.toInt ∧ l_n1.toInt = l_s.toInt) ∧ ((((-2) : Int32).toInt = -2 ∨ ¬ x0.toInt = 1) → l_o1.toInt = l_o1.toInt ∧ l_n1.toInt = l_n1.toInt) from by have y90 : ¬ r51330.toInt = (0 : Int32).toInt := fun z => c51331 (Int32.toInt_inj.mp z); have y91 : r51336.toInt = (0 : Int32).toInt := congrArg Int32.toInt c51337; have y92 : Rg 0 3 x0 := g51334; have y93 : Rg 1 1 r51330 := g51335; have y94 : Rg 0 0 r51336 := g51358; have y95 : Rg 0 3 x0 := g51334; have y96 : Rg 0 12 l_s := p_s; have y97 : Rg 0 12 l_t := p_t; have y98 : Rg 0 12 l_i := p_i; have y99 : Rg 0 120 l_tp := p_tp; have y910 : Rg 0 40 l_n0 := p_n0; have y911 : Rg 0 40 l_n1 := p_n1; have y912 : Rg 0 40 l_n2 := p_n2; have y913 : Rg 0 40 l_n3 := p_n3; have y9c14 : ((-2) : Int32).toInt = -2 := (by decide); have y9c15 : (0 : Int32).toInt = 0 := (by decide); have y9c16 : (1 : Int32).toInt = 1 := (by decide); omega), (show (¬ ((-2) : Int32).toInt = -2 → x0.toInt = 2 → l_o2.toInt = x1.toInt ∧ l_n2.toInt = l_s.toInt) ∧ ((((-2) : Int32).toInt = -2 ∨ ¬ x0.toInt = 2) → l_o2.toInt = l_o2.toInt ∧ l_n2.toInt = l_n2.toInt) from by have y90 : ¬ r51330.toInt = (0 : Int32).toInt := fun z => c51331 (Int32.toInt_inj.mp z); have y91 : r51336.toInt = (0 : Int32).toInt := congrArg Int32.toInt c51337; have y92 : Rg 0 3 x0 := g51334; have y93 : Rg 1 1 r51330 := g51335; have y94 : Rg 0 0 r51336 := g51358; have y95 : Rg 0 3 x0 := g51334; have y96 : Rg 0 12 l_s := p_s; have y97 : Rg 0 12 l_t := p_t; have y98 : Rg 0 12 l_i := p_i; have y99 : Rg 0 120 l_tp := p_tp; have y910 : Rg 0 40 l_n0 := p_n0; have y911 : Rg 0 40 l_n1 := p_n1; have y912 : Rg 0 40 l_n2 := p_n2; have y913 : Rg 0 40 l_n3 := p_n3; have y9c14 : ((-2) : Int32).toInt = -2 := (by decide); have y9c15 : (0 : Int32).toInt = 0 := (by decide); have y9c16 : (1 : Int32).toInt = 1 := (by decide); omega), (show (¬ ((-2) : Int32).toInt = -2 → x0.toInt = 3 → l_o3.toInt = x1.toInt ∧ l_n3.toInt = l_s.toInt) ∧ ((((-2) : Int32).toInt = -2 ∨ ¬ x0.toInt = 3) → l_o3.toInt = l_o3.toInt ∧ l_n3.toInt = l_n3.toInt) from by have y90 : ¬ r51330.toInt = (0 : Int32).toInt := fun z => c51331 (Int32.toInt_inj.mp z); have y91 : r51336.toInt = (0 : Int32).toInt := congrArg Int32.toInt c51337; have y92 : Rg 0 3 x0 := g51334; have y93 : Rg 1 1 r51330 := g51335; have y94 : Rg 0 0 r51336 := g51358; have y95 : Rg 0 3 x0 := g51334; have y96 : Rg 0 12 l_s := p_s; have y97 : Rg 0 12 l_t := p_t; have y98 : Rg 0 12 l_i := p_i; have y99 : Rg 0 120 l_tp := p_tp; have y910 : Rg 0 40 l_n0 := p_n0; have y911 : Rg 0 40 l_n1 := p_n1; have y912 : Rg 0 40 l_n2 := p_n2; have y913 : Rg 0 40 l_n3 := p_n3; have y9c14 : ((-2) : Int32).toInt = -2 := (by decide); have y9c15 : (0 : Int32).toInt = 0 := (by decide); have y9c16 : (1 : Int32).toInt = 1 := (by decide); omega)⟩, by rw [ht]; exact hP, hD⟩, hS.F ht⟩) hS.2.2 dX11_paint_16
set_option maxHeartbeats 4000000 in
set_option maxRecDepth 100000 in
theorem c_X1_init_9 (l : Launch) (D : va_G) (cI cS : ClassId) (sz : Nat) (h0 : Nat) : Met l yX1_init wsX1_init ({ frames := 1, cells := 1, slots := 24576, locals := 40 }) (PQ D cI cS [(h0, .inr (1, [.null, .int 0]))] sz [.ref h0, .int 24576]) (QN D [(h0, .inr (1, [.null, .int 0]))] (fun u => [(h0, .inr (1, [.ref (u 0), .int 1])), ((u 0), .inl (cI, 24576, .inl (fun _ => 0)))]) sz) 1 24576 (va_A [(h0, .inr (1, [.null, .int 0]))] sz) := by
  refine Met.ofW (cc := cX1_init) (maxL := 2) (ret := none) (by decide) rfl ?_
  intro p e s m args below meth c s₁ B hml hv
  obtain ⟨rfl, hsz, hP, hKK, hD0⟩ := hv
  have hx := B.exec
  have hb := B.bytes
  have hr := B.returns
  have hts := atoms_spec (ws := wsX1_init) B.pre
  have hown : s.vm.findClass RX1 = some m.cls := findClass_of_methodNamed B.named
  have hlocks := B.notSynchronized
  have hK := hKK.1
  have hN := hKK.2
  have hin : meth.name = "<init>" := (name_of_methodNamed B.named B.method).1
  have hin1 : ∀ w ∈ wsX10, w ∈ wsX1_init := by decide +kernel
  subst hsz
  have hD := hD0.self (sz := s.heap.size)
  obtain ⟨A, hAe⟩ : ∃ A, A = va_A [(h0, .inr (1, [.null, .int 0]))] s.heap.size := ⟨_, rfl⟩
  rw [← hAe] at hD
  have hA : ∀ q : Nat, s.heap.size ≤ q → A q := fun q h => by rw [hAe]; exact Or.inr h
  have hS : va_S A s.heap s.heap [] := va_S.rf
  have hl := lv_entry ([.ref h0, .int 24576]) (n := 2) (Nat.le_of_ble_eq_true rfl)
  rw [lg_entry_eq]
  generalize (lg_sl ([.ref h0, .int 24576]) ++ List.replicate (2 - (lg_sl ([.ref h0, .int 24576])).length) Slot.unset).toArray = ls at hl ⊢
  have hl : lv_has ls 2 [(0, .ref h0), (1, .int 24576)] := hl
  refine lv_aload_n hx hb dX1_init_0 rfl (lv_at hl 0 rfl) ?_
  refine W.objInit hx hb hown (hts (.methodLink RX1 3 objectInit) (by decide +kernel)) (hts (.instanceMethod objectInit) (by decide +kernel)) (hts (.code objectInit ⟨#[0xb1]⟩ 1 none) (by decide +kernel)) rfl (by rw [hml]; exact hl.1) rfl dX1_init_1 (Nat.le_of_ble_eq_true rfl) (Nat.le_of_ble_eq_true rfl) ?_
  refine W.eq (g2 := F0 m 4 ls []) rfl ?_
  refine lv_aload_n hx hb dX1_init_4 rfl (lv_at hl 0 rfl) ?_
  refine lv_iconst (v := 1) hx hb dX1_init_5 (by decide) ?_
  refine va_put (D := D) (ci := 1) (v := .int 1) (ty := .int) (C := RX1) (T := TX1) (N := 2) hx hb hts hin1 tyX1 tyX1_ok nmX1 hown hK hP hD hS 0 rfl rfl 1 (by decide) (hts (.fieldLink RX1 9 "MissedPoints$Memo" "age" "I") (by decide +kernel)) (fun _ h9 => h9) rfl (by decide +kernel) rfl rfl (Nat.le_of_ble_eq_true rfl) dX1_init_6 (fun H locs hP hD hS => ?_)
  have hP : va_P D cls [(h0, .inr (1, [.null, .int 1]))] H := hP
  have hD : va_D A [(h0, .inr (1, [.null, .int 1]))] := hD
  refine lv_aload_n hx hb dX1_init_9 rfl (lv_at hl 0 rfl) ?_
  refine lv_iload_n hx hb dX1_init_10 rfl (lv_at hl 1 rfl) ?_
  refine lv_iconst (v := 0) hx hb dX1_init_11 (by decide) ?_
  refine va_mmax hx hb (by rw [hml]; exact hl.1.symm) hown (hts (.methodLink RX1 15 Lib.Math.max.name) (by decide +kernel)) (hts (.static Lib.Math.max.name) (by decide +kernel)) (hts (.initialized "java/lang/Math") (by decide +kernel)) (hts (.code Lib.Math.max.name Lib.Math.max.code 2 (some .int)) (by decide +kernel)) (Nat.le_of_ble_eq_true rfl) (Nat.le_of_ble_eq_true rfl) (Nat.le_of_ble_eq_true rfl) (Nat.le_of_ble_eq_true rfl) dX1_init_12 ?_
  refine lz_top (y := 24576) (by decide) ?_
  refine va_newa (atype := .int) (ty := .int) (a0 := (24576, .inl (fun _ => 0))) (N' := 24576) hx hb (hts (.arrayClass .int) (by decide +kernel)) rfl hK hP hD hS hA (fun _ => rfl) (by decide) (by decide) (by decide) (Nat.le_of_ble_eq_true rfl) (Nat.le_of_ble_eq_true rfl) dX1_init_15 (fun q4585 cA4586 H hK2 hP hD hS => ?_)
  obtain rfl := (lz_same hK hK2).symm
  have hP : va_P D cls [(h0, .inr (1, [.null, .int 1])), (q4585, .inl (cI, 24576, .inl (fun _ => 0)))] H := hP
  have hD : va_D A [(h0, .inr (1, [.null, .int 1])), (q4585, .inl (cI, 24576, .inl (fun _ => 0)))] := hD
  refine W.widen (k := 1) (n := 24576) (Nat.le_of_ble_eq_true rfl) (Nat.le_of_ble_eq_true rfl) ?_
  refine va_putF (D := D) (ci := 1) (v := .ref q4585) (ty := (.array .int)) (C := RX1) (T := TX1) (N := 2) hx hb hts hin1 tyX1 tyX1_ok nmX1 hown hK hP hD hS 0 rfl rfl 0 (by decide) (hts (.fieldLink RX1 21 "MissedPoints$Memo" "cells" "[I") (by decide +kernel)) (fun _ h9 => h9) rfl hin rfl (by decide +kernel) rfl rfl (Nat.le_of_ble_eq_true rfl) dX1_init_17 (fun H locs hP hD hS => ?_)
  have hP : va_P D cls [(h0, .inr (1, [.ref q4585, .int 1])), (q4585, .inl (cI, 24576, .inl (fun _ => 0)))] H := hP
  have hD : va_D A [(h0, .inr (1, [.ref q4585, .int 1])), (q4585, .inl (cI, 24576, .inl (fun _ => 0)))] := hD
  have hP9 := hP.sub (ws' := [(h0, .inr (1, [.ref q4585, .int 1])), (q4585, .inl (cI, 24576, .inl (fun _ => 0)))]) [0, 1] rfl
  have hD9 := hD.sub (ws' := [(h0, .inr (1, [.ref q4585, .int 1])), (q4585, .inl (cI, 24576, .inl (fun _ => 0)))]) [0, 1] (by decide) rfl
  refine W.widen (k := 1) (n := 24576) (Nat.le_of_ble_eq_true rfl) (Nat.le_of_ble_eq_true rfl) ?_
  rw [hAe] at hD9 hS
  exact W.vret hx hb hr (fun t ht hW => ⟨⟨(fun k => [q4585].getD k 0), rfl, trivial, by rw [ht]; exact hP9, hD9⟩, hS.F ht⟩) hS.2.2 dX1_init_20

set_option maxHeartbeats 4000000 in
set_option maxRecDepth 100000 in
theorem k_X1_isBlank_13_1 (l : Launch) (D : va_G) (cI cS : ClassId) (a : Nat → Nat) (na nc : Nat) (L u : SU) (hL : TyX L) : Met l yX1_isBlank wsX1_isBlank ({ frames := 0, cells := 0, slots := 0, locals := 0 }) (PS D cI cS (wX cI cS a na nc 24576 L u) [.ref na]) (vp_Si (fun r => Rg 0 0 r ∧ True)) 0 0 (fun _ => False) := by
  refine Met.ofW (cc := cX1_isBlank) (maxL := 1) (ret := (some .boolean)) (by decide) rfl ?_
  intro p e s m args below meth c s₁ B hml hv
  obtain ⟨rfl, hP, hKK⟩ := hv
  have hx := B.exec
  have hb := B.bytes
  have hr := B.returns
  have hts := atoms_spec (ws := wsX1_isBlank) B.pre
  have hown : s.vm.findClass RX1 = some m.cls := findClass_of_methodNamed B.named
  have hlocks := B.notSynchronized
  have hK := hKK.1
  have hin1 : ∀ w ∈ wsX10, w ∈ wsX1_isBlank := by decide +kernel
  have hl := lv_entry ([.ref na]) (n := 1) (Nat.le_of_ble_eq_true rfl)
  rw [lg_entry_eq]
  generalize (lg_sl ([.ref na]) ++ List.replicate (1 - (lg_sl ([.ref na])).length) Slot.unset).toArray = ls at hl ⊢
  have hl : lv_has ls 1 [(0, .ref na)] := hl
  refine lv_aload_n hx hb dX1_isBlank_0 rfl (lv_at hl 0 rfl) ?_
  refine va_get (D := D) (ci := 1) (v := .ref nc) (C := RX1) (T := TX1) (N := 2) hx hb hts hin1 hown hK hP 13 rfl rfl 0 (by decide) (hts (.fieldLink RX1 21 "MissedPoints$Memo" "cells" "[I") (by decide +kernel)) (fun _ h9 => h9) rfl dX1_isBlank_1 ?_
  refine va_alen hx hb hK hP 14 0 rfl rfl (v := 24576) rfl dX1_isBlank_4 ?_
  refine lv_if_ne (tgt := 12) hx hb dX1_isBlank_5 (by decide) (fun c51360 => ?_) (fun c51360 => ?_)
  · refine lv_iconst (v := 0) hx hb dX1_isBlank_12 (by decide) ?_
    exact W.zret (v := 0) hx hb hr (by decide) (fun t ht hW => ⟨_, rfl, ⟨(by decide : Rg 0 0 (0 : Int32)), trivial⟩, ht⟩) (fun q hq => absurd hq List.not_mem_nil) dX1_isBlank_13
  · exact absurd c51360 (by decide)
set_option maxHeartbeats 4000000 in
set_option maxRecDepth 100000 in
theorem k_X1_isBlank_13_0 (l : Launch) (D : va_G) (cI cS : ClassId) (a : Nat → Nat) (na nc : Nat) (L u : SU) (hL : TyX L) : Met l yX1_isBlank wsX1_isBlank ({ frames := 0, cells := 0, slots := 0, locals := 0 }) (PS D cI cS (wX cI cS a na nc 0 L u) [.ref na]) (vp_Si (fun r => Rg 1 1 r ∧ True)) 0 0 (fun _ => False) := by
  refine Met.ofW (cc := cX1_isBlank) (maxL := 1) (ret := (some .boolean)) (by decide) rfl ?_
  intro p e s m args below meth c s₁ B hml hv
  obtain ⟨rfl, hP, hKK⟩ := hv
  have hx := B.exec
  have hb := B.bytes
  have hr := B.returns
  have hts := atoms_spec (ws := wsX1_isBlank) B.pre
  have hown : s.vm.findClass RX1 = some m.cls := findClass_of_methodNamed B.named
  have hlocks := B.notSynchronized
  have hK := hKK.1
  have hin1 : ∀ w ∈ wsX10, w ∈ wsX1_isBlank := by decide +kernel
  have hl := lv_entry ([.ref na]) (n := 1) (Nat.le_of_ble_eq_true rfl)
  rw [lg_entry_eq]
  generalize (lg_sl ([.ref na]) ++ List.replicate (1 - (lg_sl ([.ref na])).length) Slot.unset).toArray = ls at hl ⊢
  have hl : lv_has ls 1 [(0, .ref na)] := hl
  refine lv_aload_n hx hb dX1_isBlank_0 rfl (lv_at hl 0 rfl) ?_
  refine va_get (D := D) (ci := 1) (v := .ref nc) (C := RX1) (T := TX1) (N := 2) hx hb hts hin1 hown hK hP 13 rfl rfl 0 (by decide) (hts (.fieldLink RX1 21 "MissedPoints$Memo" "cells" "[I") (by decide +kernel)) (fun _ h9 => h9) rfl dX1_isBlank_1 ?_
  refine va_alen hx hb hK hP 14 0 rfl rfl (v := 0) rfl dX1_isBlank_4 ?_
  refine lv_if_ne (tgt := 12) hx hb dX1_isBlank_5 (by decide) (fun c51362 => ?_) (fun c51362 => ?_)
  · exact absurd c51362 (by decide)
  · refine lv_iconst (v := 1) hx hb dX1_isBlank_8 (by decide) ?_
    refine lv_goto (tgt := 13) hx hb dX1_isBlank_9 (by decide) ?_
    exact W.zret (v := 1) hx hb hr (by decide) (fun t ht hW => ⟨_, rfl, ⟨(by decide : Rg 1 1 (1 : Int32)), trivial⟩, ht⟩) (fun q hq => absurd hq List.not_mem_nil) dX1_isBlank_13
set_option maxRecDepth 20000 in
theorem ggX3_number_X1_isBlank : GoodIn wsX3_number wsX1_isBlank := goodIn_r _ [22, 18, 62, 63] rfl (by decide +kernel)
set_option maxRecDepth 20000 in
theorem gX3_number_X1_isBlank : GoodIn wsX3_number (wsV RX3 69 RX1 yX1_isBlank wsX1_isBlank) := goodIn_app (goodIn_of _ (by decide +kernel)) ggX3_number_X1_isBlank
set_option maxRecDepth 20000 in
theorem ggX3_number_X3_notice : GoodIn wsX3_number wsX3_notice := goodIn_r _ [9, 10, 11, 12, 1, 13, 14, 15, 4, 16, 17, 18, 58, 59, 60, 61, 64, 65, 66, 62, 63] rfl (by decide +kernel)
set_option maxRecDepth 20000 in
theorem gX3_number_X3_notice : GoodIn wsX3_number (wsV RX3 39 RX3 yX3_notice wsX3_notice) := goodIn_app (goodIn_of _ (by decide +kernel)) ggX3_number_X3_notice
set_option maxRecDepth 20000 in
theorem ggX3_number_X3_numberOf : GoodIn wsX3_number wsX3_numberOf := goodIn_r _ [37, 1, 11, 38, 39, 40, 41, 42, 43, 44, 45, 46, 47, 48, 49, 50, 51, 4, 52, 18, 17, 53, 34, 35, 36, 8, 54, 55, 56, 57, 58, 59, 60, 61, 64, 65, 66, 62, 63] rfl (by decide +kernel)
set_option maxRecDepth 20000 in
theorem gX3_number_X3_numberOf : GoodIn wsX3_number (wsV RX3 73 RX3 yX3_numberOf wsX3_numberOf) := goodIn_app (goodIn_of _ (by decide +kernel)) ggX3_number_X3_numberOf
theorem dX3_number_0 : decode cX3_number 0 = .ok (.aload_n 0, 1) := by decide +kernel
theorem dX3_number_1 : decode cX3_number 1 = .ok (.invokevirtual 39, 3) := by decide +kernel
theorem dX3_number_11 : decode cX3_number 11 = .ok (.ifCond .eq 17, 3) := by decide +kernel
theorem dX3_number_28 : decode cX3_number 28 = .ok (.aload_n 0, 1) := by decide +kernel
theorem dX3_number_29 : decode cX3_number 29 = .ok (.iload_n 1, 1) := by decide +kernel
theorem dX3_number_30 : decode cX3_number 30 = .ok (.iload_n 2, 1) := by decide +kernel
theorem dX3_number_31 : decode cX3_number 31 = .ok (.iconst 0, 1) := by decide +kernel
theorem dX3_number_32 : decode cX3_number 32 = .ok (.invokevirtual 73, 3) := by decide +kernel
theorem dX3_number_35 : decode cX3_number 35 = .ok (.ireturn, 1) := by decide +kernel
theorem dX3_number_4 : decode cX3_number 4 = .ok (.aload_n 0, 1) := by decide +kernel
theorem dX3_number_5 : decode cX3_number 5 = .ok (.getfield 20, 3) := by decide +kernel
theorem dX3_number_8 : decode cX3_number 8 = .ok (.invokevirtual 69, 3) := by decide +kernel
set_option maxHeartbeats 4000000 in
set_option maxRecDepth 100000 in
theorem k_X3_number_1 (l : Launch) (D : va_G) (cI cS : ClassId) (sz : Nat) (a : Nat → Nat) (na nc : Nat) (L u0 : SU) (hL : TyX L) (x0 x1 : Int32) (px1 : Rg 0 65549 x1) : Met l yX3_number wsX3_number ({ frames := 15, cells := 0, slots := 0, locals := 600 }) (PQ D cI cS (wX cI cS a na nc 24576 L u0) sz [.ref (a 7), .int x0, .int x1]) (QF (S := SU) D (wX cI cS a na nc 24576 L u0) (wX cI cS a na nc 24576 L) sz (fun r _ => Rg (-2147483648) 2147483647 r ∧ True)) 0 0 (va_A (wX cI cS a na nc 24576 L u0) sz) := by
  refine Met.ofW (cc := cX3_number) (maxL := 3) (ret := (some .int)) (by decide) rfl ?_
  intro p e s m args below meth c s₁ B hml hv
  obtain ⟨rfl, hsz, hP, hKK, hD0⟩ := hv
  have hx := B.exec
  have hb := B.bytes
  have hr := B.returns
  have hts := atoms_spec (ws := wsX3_number) B.pre
  have hown : s.vm.findClass RX3 = some m.cls := findClass_of_methodNamed B.named
  have hlocks := B.notSynchronized
  have hK := hKK.1
  have hin3 : ∀ w ∈ wsX30, w ∈ wsX3_number := by decide +kernel
  subst hsz
  have hD := hD0.self (sz := s.heap.size)
  obtain ⟨A, hAe⟩ : ∃ A, A = va_A (wX cI cS a na nc 24576 L u0) s.heap.size := ⟨_, rfl⟩
  rw [← hAe] at hD
  have hA : ∀ q : Nat, s.heap.size ≤ q → A q := fun q h => by rw [hAe]; exact Or.inr h
  have hS : va_S A s.heap s.heap [] := va_S.rf
  have hl := lv_entry ([.ref (a 7), .int x0, .int x1]) (n := 3) (Nat.le_of_ble_eq_true rfl)
  rw [lg_entry_eq]
  generalize (lg_sl ([.ref (a 7), .int x0, .int x1]) ++ List.replicate (3 - (lg_sl ([.ref (a 7), .int x0, .int x1])).length) Slot.unset).toArray = ls at hl ⊢
  have hl : lv_has ls 3 [(0, .ref (a 7)), (1, .int x0), (2, .int x1)] := hl
  obtain ⟨u, hu9⟩ : ∃ u : SU, u = u0 := ⟨_, rfl⟩
  rw [← hu9] at hP hD
  refine lv_aload_n hx hb dX3_number_0 rfl (lv_at hl 0 rfl) ?_
  refine wk_qv (wX cI cS a na nc 24576 L) u (As := []) (rest := []) ⟨hx, hb, hml, hown, hts⟩ (k_X3_notice l D cI cS _ a na nc 24576 L u hL (Or.inr rfl)) hKK hP hD hS hA 7 (ci := 3) rfl rfl (cwV 0 hts gX3_number_X3_notice rfl rfl rfl (by decide +kernel) ⟨Nat.le_of_ble_eq_true rfl, Nat.le_of_ble_eq_true rfl⟩) rfl hl.1 rfl (Nat.le_of_ble_eq_true rfl) dX3_number_1 ⟨Nat.le_of_ble_eq_true rfl, Nat.le_of_ble_eq_true rfl⟩ (fun u H locs hr51367 hP hD hS => ?_)
  refine lv_aload_n hx hb dX3_number_4 rfl (lv_at hl 0 rfl) ?_
  refine va_get (D := D) (ci := 3) (v := .ref na) (C := RX3) (T := TX3) (N := 4) hx hb hts hin3 hown hK hP 7 rfl rfl 2 (by decide) (hts (.fieldLink RX3 20 "MissedPoints$Pairs" "numbers" "LMissedPoints$Memo;") (by decide +kernel)) (fun _ h9 => h9) rfl dX3_number_5 ?_
  refine wk_sv 13 (As := []) (rest := []) ⟨hx, hb, hml, hown, hts⟩ (k_X1_isBlank_13_1 l D cI cS a na nc L u hL) hKK hP (ci := 1) rfl rfl (cwV 0 hts gX3_number_X1_isBlank rfl rfl rfl (by decide +kernel) ⟨Nat.le_of_ble_eq_true rfl, Nat.le_of_ble_eq_true rfl⟩) rfl hl.1 rfl (Nat.le_of_ble_eq_true rfl) dX3_number_8 ⟨Nat.le_of_ble_eq_true rfl, Nat.le_of_ble_eq_true rfl⟩ (fun r51368 hr51368 => ?_)
  refine lv_if_eq (tgt := 28) hx hb dX3_number_11 (by decide) (fun c51369 => ?_) (fun c51369 => ?_)
  · refine lv_aload_n hx hb dX3_number_28 rfl (lv_at hl 0 rfl) ?_
    refine lv_iload_n hx hb dX3_number_29 rfl (lv_at hl 1 rfl) ?_
    refine lv_iload_n hx hb dX3_number_30 rfl (lv_at hl 2 rfl) ?_
    refine lv_iconst (v := 0) hx hb dX3_number_31 (by decide) ?_
    refine wk_qi (wX cI cS a na nc 24576 L) u (As := [.int x0, .int x1, .int 0]) (rest := []) ⟨hx, hb, hml, hown, hts⟩ (k_X3_numberOf l D cI cS _ a na nc 24576 L u hL (Or.inr rfl) x0 x1 (0 : Int32) px1 (by decide : Rg 0 0 (0 : Int32))) hKK hP hD hS hA 7 (ci := 3) rfl rfl (cwV 3 hts gX3_number_X3_numberOf rfl rfl rfl (by decide +kernel) ⟨Nat.le_of_ble_eq_true rfl, Nat.le_of_ble_eq_true rfl⟩) rfl hl.1 rfl (Nat.le_of_ble_eq_true rfl) dX3_number_32 ⟨Nat.le_of_ble_eq_true rfl, Nat.le_of_ble_eq_true rfl⟩ (fun r51370 u H locs hr51370 hP hD hS => ?_)
    subst hAe
    exact W.iret (v := r51370) hx hb hr (fun t ht hW => ⟨⟨_, u, rfl, ⟨hr51370.1, trivial⟩, by rw [ht]; exact hP, hD⟩, hS.F ht⟩) hS.2.2 dX3_number_35
  · exact absurd (wk_yeq hr51368.1 (by decide : Rg 0 0 (0 : Int32)) (by decide)) c51369
set_option maxRecDepth 20000 in
theorem ggX3_number_X1_init : GoodIn wsX3_number wsX1_init := goodIn_r _ [25, 26, 27, 28, 17, 29, 30, 31, 32, 33, 18, 62, 63] rfl (by decide +kernel)
set_option maxRecDepth 20000 in
theorem gX3_number_X1_init : GoodIn wsX3_number (wsX1_init) := ggX3_number_X1_init
theorem dX3_number_14 : decode cX3_number 14 = .ok (.aload_n 0, 1) := by decide +kernel
theorem dX3_number_15 : decode cX3_number 15 = .ok (.new 9, 3) := by decide +kernel
theorem dX3_number_18 : decode cX3_number 18 = .ok (.dup, 1) := by decide +kernel
theorem dX3_number_19 : decode cX3_number 19 = .ok (.sipush 24576, 3) := by decide +kernel
theorem dX3_number_22 : decode cX3_number 22 = .ok (.invokespecial 11, 3) := by decide +kernel
theorem dX3_number_25 : decode cX3_number 25 = .ok (.putfield 20, 3) := by decide +kernel
set_option maxHeartbeats 4000000 in
set_option maxRecDepth 100000 in
theorem k_X3_number_0 (l : Launch) (D : va_G) (cI cS : ClassId) (sz : Nat) (a : Nat → Nat) (na nc : Nat) (L u0 : SU) (hL : TyX L) (x0 x1 : Int32) (px1 : Rg 0 65549 x1) : Met l yX3_number wsX3_number ({ frames := 15, cells := 2, slots := 24578, locals := 600 }) (PQ D cI cS (wX cI cS a na nc 0 L u0) sz [.ref (a 7), .int x0, .int x1]) (QF (S := Nat × Nat × SU) D (wX cI cS a na nc 0 L u0) (fun q => wX cI cS a q.1 q.2.1 24576 L q.2.2) sz (fun r _ => Rg (-2147483648) 2147483647 r ∧ True)) 2 24578 (va_A (wX cI cS a na nc 0 L u0) sz) := by
  refine Met.ofW (cc := cX3_number) (maxL := 3) (ret := (some .int)) (by decide) rfl ?_
  intro p e s m args below meth c s₁ B hml hv
  obtain ⟨rfl, hsz, hP, hKK, hD0⟩ := hv
  have hx := B.exec
  have hb := B.bytes
  have hr := B.returns
  have hts := atoms_spec (ws := wsX3_number) B.pre
  have hown : s.vm.findClass RX3 = some m.cls := findClass_of_methodNamed B.named
  have hlocks := B.notSynchronized
  have hK := hKK.1
  have hin1 : ∀ w ∈ wsX10, w ∈ wsX3_number := by decide +kernel
  have hin3 : ∀ w ∈ wsX30, w ∈ wsX3_number := by decide +kernel
  subst hsz
  have hD := hD0.self (sz := s.heap.size)
  obtain ⟨A, hAe⟩ : ∃ A, A = va_A (wX cI cS a na nc 0 L u0) s.heap.size := ⟨_, rfl⟩
  rw [← hAe] at hD
  have hA : ∀ q : Nat, s.heap.size ≤ q → A q := fun q h => by rw [hAe]; exact Or.inr h
  have hS : va_S A s.heap s.heap [] := va_S.rf
  have hl := lv_entry ([.ref (a 7), .int x0, .int x1]) (n := 3) (Nat.le_of_ble_eq_true rfl)
  rw [lg_entry_eq]
  generalize (lg_sl ([.ref (a 7), .int x0, .int x1]) ++ List.replicate (3 - (lg_sl ([.ref (a 7), .int x0, .int x1])).length) Slot.unset).toArray = ls at hl ⊢
  have hl : lv_has ls 3 [(0, .ref (a 7)), (1, .int x0), (2, .int x1)] := hl
  obtain ⟨u, hu9⟩ : ∃ u : SU, u = u0 := ⟨_, rfl⟩
  rw [← hu9] at hP hD
  refine lv_aload_n hx hb dX3_number_0 rfl (lv_at hl 0 rfl) ?_
  refine wk_qv (wX cI cS a na nc 0 L) u (As := []) (rest := []) ⟨hx, hb, hml, hown, hts⟩ (k_X3_notice l D cI cS _ a na nc 0 L u hL (Or.inl rfl)) hKK hP hD hS hA 7 (ci := 3) rfl rfl (cwV 0 hts gX3_number_X3_notice rfl rfl rfl (by decide +kernel) ⟨Nat.le_of_ble_eq_true rfl, Nat.le_of_ble_eq_true rfl⟩) rfl hl.1 rfl (Nat.le_of_ble_eq_true rfl) dX3_number_1 ⟨Nat.le_of_ble_eq_true rfl, Nat.le_of_ble_eq_true rfl⟩ (fun u H locs hr51377 hP hD hS => ?_)
  refine lv_aload_n hx hb dX3_number_4 rfl (lv_at hl 0 rfl) ?_
  refine va_get (D := D) (ci := 3) (v := .ref na) (C := RX3) (T := TX3) (N := 4) hx hb hts hin3 hown hK hP 7 rfl rfl 2 (by decide) (hts (.fieldLink RX3 20 "MissedPoints$Pairs" "numbers" "LMissedPoints$Memo;") (by decide +kernel)) (fun _ h9 => h9) rfl dX3_number_5 ?_
  refine wk_sv 13 (As := []) (rest := []) ⟨hx, hb, hml, hown, hts⟩ (k_X1_isBlank_13_0 l D cI cS a na nc L u hL) hKK hP (ci := 1) rfl rfl (cwV 0 hts gX3_number_X1_isBlank rfl rfl rfl (by decide +kernel) ⟨Nat.le_of_ble_eq_true rfl, Nat.le_of_ble_eq_true rfl⟩) rfl hl.1 rfl (Nat.le_of_ble_eq_true rfl) dX3_number_8 ⟨Nat.le_of_ble_eq_true rfl, Nat.le_of_ble_eq_true rfl⟩ (fun r51378 hr51378 => ?_)
  refine lv_if_eq (tgt := 28) hx hb dX3_number_11 (by decide) (fun c51379 => ?_) (fun c51379 => ?_)
  · exact absurd c51379 (wk_neq hr51378.1 (by decide : Rg 0 0 (0 : Int32)) (by decide))
  · refine lv_aload_n hx hb dX3_number_14 rfl (lv_at hl 0 rfl) ?_
    refine va_new (ci := 1) (fs := [.null, .int 0]) (C := RX1) (T := TX1) (N := 2) hx hb hts hin1 tyX1 tyX1_ok hown (hts (.classLink RX3 9 RX1) (by decide +kernel)) (hts (.instantiable RX1 2) (by decide +kernel)) (hts (.initialized RX1) (by decide +kernel)) hK hP hD hS hA rfl (fun j hj => by rcases (show j = 0 ∨ j = 1 by omega) with rfl | rfl <;> rfl) (Nat.le_of_ble_eq_true rfl) (Nat.le_of_ble_eq_true rfl) dX3_number_15 (fun nn51380 H hP hD hS => ?_)
    refine W.widen (k := 1) (n := 2) (Nat.le_of_ble_eq_true rfl) (Nat.le_of_ble_eq_true rfl) ?_
    refine lv_dup hx hb dX3_number_18 rfl ?_
    refine lv_sipush (v := 24576) hx hb dX3_number_19 (by decide) ?_
    have hP : va_P D cls ((wX cI cS a na nc 0 L u) ++ [(nn51380, .inr (1, [.null, .int 0]))]) H := hP
    have hD : va_D A ((wX cI cS a na nc 0 L u) ++ [(nn51380, .inr (1, [.null, .int 0]))]) := hD
    have hPc := hP.sub (ws' := [(nn51380, .inr (1, [.null, .int 0]))]) [45] rfl
    have hDc := hD.sub (ws' := [(nn51380, .inr (1, [.null, .int 0]))]) [45] (by decide) rfl
    refine lz_nc (wr := (wX cI cS a na nc 0 L u)) (As := [.int 24576]) (rest := [.ref nn51380, .ref (a 7)]) ⟨hx, hb, hml, hown, hts⟩ (c_X1_init_9 l D cI cS _ nn51380) hKK hP hD hS hA [45] (List.range 45) (by decide) rfl rfl (by decide) (by decide) hPc hDc (cwI 1 hts gX3_number_X1_init rfl rfl rfl (hts (.initialized RX1) (by decide +kernel)) (hts (.methodLink RX3 11 yX1_init) (by decide +kernel)) (hts (.instanceMethod yX1_init) (by decide +kernel)) rfl (by decide +kernel) ⟨Nat.le_of_ble_eq_true rfl, Nat.le_of_ble_eq_true rfl⟩) rfl hl.1 rfl (Nat.le_of_ble_eq_true rfl) dX3_number_22 ⟨Nat.le_of_ble_eq_true rfl, Nat.le_of_ble_eq_true rfl⟩ (fun no51381 H locs hP hD hS => ?_)
    refine W.widen (k := 2) (n := 24578) (Nat.le_of_ble_eq_true rfl) (Nat.le_of_ble_eq_true rfl) ?_
    refine va_put (D := D) (ci := 3) (v := .ref nn51380) (ty := (.object "MissedPoints$Memo")) (C := RX3) (T := TX3) (N := 4) hx hb hts hin3 tyX3 tyX3_ok nmX3 hown hK hP hD hS 7 rfl rfl 2 (by decide) (hts (.fieldLink RX3 20 "MissedPoints$Pairs" "numbers" "LMissedPoints$Memo;") (by decide +kernel)) (fun _ h9 => h9) rfl (by decide +kernel) rfl rfl (Nat.le_of_ble_eq_true rfl) dX3_number_25 (fun H locs hP hD hS => ?_)
    have hP := hP.sub (ws' := wX cI cS a nn51380 (no51381 0) 24576 L (sU (sU u 13 (upd (u 13) 1 1)) 14 (fun _ => 0))) [0, 1, 2, 3, 4, 5, 6, 7, 8, 9, 10, 11, 12, 45, 46, 15, 16, 17, 18, 19, 20, 21, 22, 23, 24, 25, 26, 27, 28, 29, 30, 31, 32, 33, 34, 35, 36, 37, 38, 39, 40, 41, 42, 43, 44] rfl
    have hD := hD.sub (ws' := wX cI cS a nn51380 (no51381 0) 24576 L (sU (sU u 13 (upd (u 13) 1 1)) 14 (fun _ => 0))) [0, 1, 2, 3, 4, 5, 6, 7, 8, 9, 10, 11, 12, 45, 46, 15, 16, 17, 18, 19, 20, 21, 22, 23, 24, 25, 26, 27, 28, 29, 30, 31, 32, 33, 34, 35, 36, 37, 38, 39, 40, 41, 42, 43, 44] (by decide) rfl
    obtain ⟨na, hna⟩ : ∃ z, z = nn51380 := ⟨_, rfl⟩
    obtain ⟨nc, hnc⟩ : ∃ z, z = no51381 0 := ⟨_, rfl⟩
    rw [← hna, ← hnc] at hP hD
    generalize (sU (sU u 13 (upd (u 13) 1 1)) 14 (fun _ => 0)) = u at hP hD
    refine lv_aload_n hx hb dX3_number_28 rfl (lv_at hl 0 rfl) ?_
    refine lv_iload_n hx hb dX3_number_29 rfl (lv_at hl 1 rfl) ?_
    refine lv_iload_n hx hb dX3_number_30 rfl (lv_at hl 2 rfl) ?_
    refine lv_iconst (v := 0) hx hb dX3_number_31 (by decide) ?_
    refine wk_qi (wX cI cS a na nc 24576 L) u (As := [.int x0, .int x1, .int 0]) (rest := []) ⟨hx, hb, hml, hown, hts⟩ (k_X3_numberOf l D cI cS _ a na nc 24576 L u hL (Or.inr rfl) x0 x1 (0 : Int32) px1 (by decide : Rg 0 0 (0 : Int32))) hKK hP hD hS hA 7 (ci := 3) rfl rfl (cwV 3 hts gX3_number_X3_numberOf rfl rfl rfl (by decide +kernel) ⟨Nat.le_of_ble_eq_true rfl, Nat.le_of_ble_eq_true rfl⟩) rfl hl.1 rfl (Nat.le_of_ble_eq_true rfl) dX3_number_32 ⟨Nat.le_of_ble_eq_true rfl, Nat.le_of_ble_eq_true rfl⟩ (fun r51382 u H locs hr51382 hP hD hS => ?_)
    subst hAe
    refine W.widen (k := 2) (n := 24578) (Nat.le_of_ble_eq_true rfl) (Nat.le_of_ble_eq_true rfl) ?_
    exact W.iret (v := r51382) hx hb hr (fun t ht hW => ⟨⟨_, (na, nc, u), rfl, ⟨hr51382.1, trivial⟩, by rw [ht]; exact hP, hD⟩, hS.F ht⟩) hS.2.2 dX3_number_35
set_option maxRecDepth 20000 in
theorem ggX11_ways_X2_all : GoodIn wsX11_ways wsX2_all := goodIn_r _ [7, 8, 86, 87, 88] rfl (by decide +kernel)
set_option maxRecDepth 20000 in
theorem gX11_ways_X2_all : GoodIn wsX11_ways (wsV RX11 128 RX2 yX2_all wsX2_all) := goodIn_app (goodIn_of _ (by decide +kernel)) ggX11_ways_X2_all
set_option maxRecDepth 20000 in
theorem ggX11_ways_X3_number : GoodIn wsX11_ways wsX3_number := goodIn_r _ [13, 14, 15, 16, 17, 18, 19, 20, 12, 21, 22, 23, 24, 25, 26, 27, 28, 29, 30, 31, 32, 33, 34, 35, 36, 37, 38, 39, 40, 41, 42, 43, 44, 45, 46, 47, 48, 49, 50, 51, 52, 53, 54, 55, 56, 57, 58, 59, 60, 61, 62, 63, 64, 65, 66, 67, 68, 69, 89, 90, 91, 92, 93, 94, 86, 87, 88] rfl (by decide +kernel)
set_option maxRecDepth 20000 in
theorem gX11_ways_X3_number : GoodIn wsX11_ways (wsV RX11 153 RX3 yX3_number wsX3_number) := goodIn_app (goodIn_of _ (by decide +kernel)) ggX11_ways_X3_number
theorem dX11_ways_0 : decode cX11_ways 0 = .ok (.iload_n 1, 1) := by decide +kernel
theorem dX11_ways_1 : decode cX11_ways 1 = .ok (.ifCond .lt 9, 3) := by decide +kernel
theorem dX11_ways_13 : decode cX11_ways 13 = .ok (.aload_n 0, 1) := by decide +kernel
theorem dX11_ways_14 : decode cX11_ways 14 = .ok (.getfield 21, 3) := by decide +kernel
theorem dX11_ways_17 : decode cX11_ways 17 = .ok (.aload_n 0, 1) := by decide +kernel
theorem dX11_ways_18 : decode cX11_ways 18 = .ok (.getfield 12, 3) := by decide +kernel
theorem dX11_ways_21 : decode cX11_ways 21 = .ok (.invokevirtual 128, 3) := by decide +kernel
theorem dX11_ways_24 : decode cX11_ways 24 = .ok (.iload_n 1, 1) := by decide +kernel
theorem dX11_ways_25 : decode cX11_ways 25 = .ok (.invokevirtual 153, 3) := by decide +kernel
theorem dX11_ways_28 : decode cX11_ways 28 = .ok (.ireturn, 1) := by decide +kernel
theorem dX11_ways_4 : decode cX11_ways 4 = .ok (.iload_n 1, 1) := by decide +kernel
theorem dX11_ways_5 : decode cX11_ways 5 = .ok (.bipush 6, 2) := by decide +kernel
theorem dX11_ways_7 : decode cX11_ways 7 = .ok (.if_icmp .le 6, 3) := by decide +kernel
set_option maxHeartbeats 4000000 in
set_option maxRecDepth 100000 in
theorem k_X11_ways_1 (l : Launch) (D : va_G) (cI cS : ClassId) (sz : Nat) (a : Nat → Nat) (na nc : Nat) (L u0 : SU) (hL : TyX L) (x0 : Int32) (px0 : Rg 0 6 x0) : Met l yX11_ways wsX11_ways ({ frames := 16, cells := 0, slots := 0, locals := 640 }) (PQ D cI cS (wX cI cS a na nc 24576 L u0) sz [.ref (a 0), .int x0]) (QF (S := SU) D (wX cI cS a na nc 24576 L u0) (wX cI cS a na nc 24576 L) sz (fun r _ => Rg (-2147483648) 2147483647 r ∧ True)) 0 0 (va_A (wX cI cS a na nc 24576 L u0) sz) := by
  refine Met.ofW (cc := cX11_ways) (maxL := 2) (ret := (some .int)) (by decide) rfl ?_
  intro p e s m args below meth c s₁ B hml hv
  obtain ⟨rfl, hsz, hP, hKK, hD0⟩ := hv
  have hx := B.exec
  have hb := B.bytes
  have hr := B.returns
  have hts := atoms_spec (ws := wsX11_ways) B.pre
  have hown : s.vm.findClass RX11 = some m.cls := findClass_of_methodNamed B.named
  have hlocks := B.notSynchronized
  have hK := hKK.1
  have hin11 : ∀ w ∈ wsX110, w ∈ wsX11_ways := by decide +kernel
  subst hsz
  have hD := hD0.self (sz := s.heap.size)
  obtain ⟨A, hAe⟩ : ∃ A, A = va_A (wX cI cS a na nc 24576 L u0) s.heap.size := ⟨_, rfl⟩
  rw [← hAe] at hD
  have hA : ∀ q : Nat, s.heap.size ≤ q → A q := fun q h => by rw [hAe]; exact Or.inr h
  have hS : va_S A s.heap s.heap [] := va_S.rf
  have hl := lv_entry ([.ref (a 0), .int x0]) (n := 2) (Nat.le_of_ble_eq_true rfl)
  rw [lg_entry_eq]
  generalize (lg_sl ([.ref (a 0), .int x0]) ++ List.replicate (2 - (lg_sl ([.ref (a 0), .int x0])).length) Slot.unset).toArray = ls at hl ⊢
  have hl : lv_has ls 2 [(0, .ref (a 0)), (1, .int x0)] := hl
  obtain ⟨u, hu9⟩ : ∃ u : SU, u = u0 := ⟨_, rfl⟩
  rw [← hu9] at hP hD
  refine lv_iload_n hx hb dX11_ways_0 rfl (lv_at hl 1 rfl) ?_
  refine lv_if_lt (tgt := 10) hx hb dX11_ways_1 (by decide) (fun c51387 => ?_) (fun c51387 => ?_)
  · exact absurd c51387 (wk_nlt px0 (by decide : Rg 0 0 (0 : Int32)) (by decide))
  · refine lv_iload_n hx hb dX11_ways_4 rfl (lv_at hl 1 rfl) ?_
    refine lv_bipush (v := 6) hx hb dX11_ways_5 (by decide) ?_
    refine lv_icmp_le (tgt := 13) hx hb dX11_ways_7 (by decide) (fun c51388 => ?_) (fun c51388 => ?_)
    · refine lv_aload_n hx hb dX11_ways_13 rfl (lv_at hl 0 rfl) ?_
      refine va_get (D := D) (ci := 11) (v := .ref (a 7)) (C := RX11) (T := TX11) (N := 16) hx hb hts hin11 hown hK hP 0 rfl rfl 1 (by decide) (hts (.fieldLink RX11 21 "MissedPoints" "pairs" "LMissedPoints$Pairs;") (by decide +kernel)) (fun _ h9 => h9) rfl dX11_ways_14 ?_
      refine lv_aload_n hx hb dX11_ways_17 rfl (lv_at hl 0 rfl) ?_
      refine va_get (D := D) (ci := 11) (v := .ref (a 1)) (C := RX11) (T := TX11) (N := 16) hx hb hts hin11 hown hK hP 0 rfl rfl 0 (by decide) (hts (.fieldLink RX11 12 "MissedPoints" "net" "LMissedPoints$Net;") (by decide +kernel)) (fun _ h9 => h9) rfl dX11_ways_18 ?_
      refine wk_sv 1 (As := []) (rest := [.ref (a 7)]) ⟨hx, hb, hml, hown, hts⟩ (k_X2_all l D cI cS a na nc 24576 L u hL (Or.inr rfl)) hKK hP (ci := 2) rfl rfl (cwV 0 hts gX11_ways_X2_all rfl rfl rfl (by decide +kernel) ⟨Nat.le_of_ble_eq_true rfl, Nat.le_of_ble_eq_true rfl⟩) rfl hl.1 rfl (Nat.le_of_ble_eq_true rfl) dX11_ways_21 ⟨Nat.le_of_ble_eq_true rfl, Nat.le_of_ble_eq_true rfl⟩ (fun r51389 hr51389 => ?_)
      refine lv_iload_n hx hb dX11_ways_24 rfl (lv_at hl 1 rfl) ?_
      refine wk_qi (wX cI cS a na nc 24576 L) u (As := [.int r51389, .int x0]) (rest := []) ⟨hx, hb, hml, hown, hts⟩ (k_X3_number_1 l D cI cS _ a na nc L u hL r51389 x0 (show Rg 0 65549 x0 from rg_w px0 (by decide) (by decide))) hKK hP hD hS hA 7 (ci := 3) rfl rfl (cwV 2 hts gX11_ways_X3_number rfl rfl rfl (by decide +kernel) ⟨Nat.le_of_ble_eq_true rfl, Nat.le_of_ble_eq_true rfl⟩) rfl hl.1 rfl (Nat.le_of_ble_eq_true rfl) dX11_ways_25 ⟨Nat.le_of_ble_eq_true rfl, Nat.le_of_ble_eq_true rfl⟩ (fun r51390 u H locs hr51390 hP hD hS => ?_)
      subst hAe
      exact W.iret (v := r51390) hx hb hr (fun t ht hW => ⟨⟨_, u, rfl, ⟨hr51390.1, trivial⟩, by rw [ht]; exact hP, hD⟩, hS.F ht⟩) hS.2.2 dX11_ways_28
    · exact absurd (wk_yle px0 (by decide : Rg 6 6 (6 : Int32)) (by decide)) c51388
set_option maxHeartbeats 4000000 in
set_option maxRecDepth 100000 in
theorem k_X11_ways_0 (l : Launch) (D : va_G) (cI cS : ClassId) (sz : Nat) (a : Nat → Nat) (na nc : Nat) (L u0 : SU) (hL : TyX L) (x0 : Int32) (px0 : Rg 0 6 x0) : Met l yX11_ways wsX11_ways ({ frames := 16, cells := 2, slots := 24578, locals := 640 }) (PQ D cI cS (wX cI cS a na nc 0 L u0) sz [.ref (a 0), .int x0]) (QF (S := Nat × Nat × SU) D (wX cI cS a na nc 0 L u0) (fun q => wX cI cS a q.1 q.2.1 24576 L q.2.2) sz (fun r _ => Rg (-2147483648) 2147483647 r ∧ True)) 2 24578 (va_A (wX cI cS a na nc 0 L u0) sz) := by
  refine Met.ofW (cc := cX11_ways) (maxL := 2) (ret := (some .int)) (by decide) rfl ?_
  intro p e s m args below meth c s₁ B hml hv
  obtain ⟨rfl, hsz, hP, hKK, hD0⟩ := hv
  have hx := B.exec
  have hb := B.bytes
  have hr := B.returns
  have hts := atoms_spec (ws := wsX11_ways) B.pre
  have hown : s.vm.findClass RX11 = some m.cls := findClass_of_methodNamed B.named
  have hlocks := B.notSynchronized
  have hK := hKK.1
  have hin11 : ∀ w ∈ wsX110, w ∈ wsX11_ways := by decide +kernel
  subst hsz
  have hD := hD0.self (sz := s.heap.size)
  obtain ⟨A, hAe⟩ : ∃ A, A = va_A (wX cI cS a na nc 0 L u0) s.heap.size := ⟨_, rfl⟩
  rw [← hAe] at hD
  have hA : ∀ q : Nat, s.heap.size ≤ q → A q := fun q h => by rw [hAe]; exact Or.inr h
  have hS : va_S A s.heap s.heap [] := va_S.rf
  have hl := lv_entry ([.ref (a 0), .int x0]) (n := 2) (Nat.le_of_ble_eq_true rfl)
  rw [lg_entry_eq]
  generalize (lg_sl ([.ref (a 0), .int x0]) ++ List.replicate (2 - (lg_sl ([.ref (a 0), .int x0])).length) Slot.unset).toArray = ls at hl ⊢
  have hl : lv_has ls 2 [(0, .ref (a 0)), (1, .int x0)] := hl
  obtain ⟨u, hu9⟩ : ∃ u : SU, u = u0 := ⟨_, rfl⟩
  rw [← hu9] at hP hD
  refine lv_iload_n hx hb dX11_ways_0 rfl (lv_at hl 1 rfl) ?_
  refine lv_if_lt (tgt := 10) hx hb dX11_ways_1 (by decide) (fun c51395 => ?_) (fun c51395 => ?_)
  · exact absurd c51395 (wk_nlt px0 (by decide : Rg 0 0 (0 : Int32)) (by decide))
  · refine lv_iload_n hx hb dX11_ways_4 rfl (lv_at hl 1 rfl) ?_
    refine lv_bipush (v := 6) hx hb dX11_ways_5 (by decide) ?_
    refine lv_icmp_le (tgt := 13) hx hb dX11_ways_7 (by decide) (fun c51396 => ?_) (fun c51396 => ?_)
    · refine lv_aload_n hx hb dX11_ways_13 rfl (lv_at hl 0 rfl) ?_
      refine va_get (D := D) (ci := 11) (v := .ref (a 7)) (C := RX11) (T := TX11) (N := 16) hx hb hts hin11 hown hK hP 0 rfl rfl 1 (by decide) (hts (.fieldLink RX11 21 "MissedPoints" "pairs" "LMissedPoints$Pairs;") (by decide +kernel)) (fun _ h9 => h9) rfl dX11_ways_14 ?_
      refine lv_aload_n hx hb dX11_ways_17 rfl (lv_at hl 0 rfl) ?_
      refine va_get (D := D) (ci := 11) (v := .ref (a 1)) (C := RX11) (T := TX11) (N := 16) hx hb hts hin11 hown hK hP 0 rfl rfl 0 (by decide) (hts (.fieldLink RX11 12 "MissedPoints" "net" "LMissedPoints$Net;") (by decide +kernel)) (fun _ h9 => h9) rfl dX11_ways_18 ?_
      refine wk_sv 1 (As := []) (rest := [.ref (a 7)]) ⟨hx, hb, hml, hown, hts⟩ (k_X2_all l D cI cS a na nc 0 L u hL (Or.inl rfl)) hKK hP (ci := 2) rfl rfl (cwV 0 hts gX11_ways_X2_all rfl rfl rfl (by decide +kernel) ⟨Nat.le_of_ble_eq_true rfl, Nat.le_of_ble_eq_true rfl⟩) rfl hl.1 rfl (Nat.le_of_ble_eq_true rfl) dX11_ways_21 ⟨Nat.le_of_ble_eq_true rfl, Nat.le_of_ble_eq_true rfl⟩ (fun r51397 hr51397 => ?_)
      refine lv_iload_n hx hb dX11_ways_24 rfl (lv_at hl 1 rfl) ?_
      refine wk_qA (wX cI cS a na nc 0 L u) (S := Nat × Nat × SU) (fun q => wX cI cS a q.1 q.2.1 24576 L q.2.2) (As := [.int r51397, .int x0]) (rest := []) ⟨hx, hb, hml, hown, hts⟩ (k_X3_number_0 l D cI cS _ a na nc L u hL r51397 x0 (show Rg 0 65549 x0 from rg_w px0 (by decide) (by decide))) hKK hP hD hS hA 7 (ci := 3) rfl rfl (cwV 2 hts gX11_ways_X3_number rfl rfl rfl (by decide +kernel) ⟨Nat.le_of_ble_eq_true rfl, Nat.le_of_ble_eq_true rfl⟩) rfl hl.1 rfl (Nat.le_of_ble_eq_true rfl) dX11_ways_25 ⟨Nat.le_of_ble_eq_true rfl, Nat.le_of_ble_eq_true rfl⟩ (fun r51398 q9 H locs hr51398 hP hD hS => ?_)
      obtain ⟨na, nc, u⟩ := q9
      have hP : va_P D cls (wX cI cS a na nc 24576 L u) H := hP
      have hD : va_D A (wX cI cS a na nc 24576 L u) := hD
      have hr51398 : Rg (-2147483648) 2147483647 r51398 ∧ True := hr51398
      subst hAe
      refine W.widen (k := 2) (n := 24578) (Nat.le_of_ble_eq_true rfl) (Nat.le_of_ble_eq_true rfl) ?_
      exact W.iret (v := r51398) hx hb hr (fun t ht hW => ⟨⟨_, (na, nc, u), rfl, ⟨hr51398.1, trivial⟩, by rw [ht]; exact hP, hD⟩, hS.F ht⟩) hS.2.2 dX11_ways_28
    · exact absurd (wk_yle px0 (by decide : Rg 6 6 (6 : Int32)) (by decide)) c51396
theorem dX11_ways_10 : decode cX11_ways 10 = .ok (.bipush (-2), 2) := by decide +kernel
theorem dX11_ways_12 : decode cX11_ways 12 = .ok (.ireturn, 1) := by decide +kernel
set_option maxHeartbeats 4000000 in
set_option maxRecDepth 100000 in
theorem k_X11_ways_b1 (l : Launch) (D : va_G) (cI cS : ClassId) (a : Nat → Nat) (na nc N : Nat) (L u : SU) (hL : TyX L) (hN : N = 0 ∨ N = 24576) (x0 : Int32) (px0 : Rg (-2147483648) (-1) x0) : Met l yX11_ways wsX11_ways ({ frames := 0, cells := 0, slots := 0, locals := 0 }) (PS D cI cS (wX cI cS a na nc N L u) [.ref (a 0), .int x0]) (vp_Si (fun r => Rg (-2) (-2) r ∧ True)) 0 0 (fun _ => False) := by
  refine Met.ofW (cc := cX11_ways) (maxL := 2) (ret := (some .int)) (by decide) rfl ?_
  intro p e s m args below meth c s₁ B hml hv
  obtain ⟨rfl, hP, hKK⟩ := hv
  have hx := B.exec
  have hb := B.bytes
  have hr := B.returns
  have hts := atoms_spec (ws := wsX11_ways) B.pre
  have hown : s.vm.findClass RX11 = some m.cls := findClass_of_methodNamed B.named
  have hlocks := B.notSynchronized
  have hK := hKK.1
  have hl := lv_entry ([.ref (a 0), .int x0]) (n := 2) (Nat.le_of_ble_eq_true rfl)
  rw [lg_entry_eq]
  generalize (lg_sl ([.ref (a 0), .int x0]) ++ List.replicate (2 - (lg_sl ([.ref (a 0), .int x0])).length) Slot.unset).toArray = ls at hl ⊢
  have hl : lv_has ls 2 [(0, .ref (a 0)), (1, .int x0)] := hl
  refine lv_iload_n hx hb dX11_ways_0 rfl (lv_at hl 1 rfl) ?_
  refine lv_if_lt (tgt := 10) hx hb dX11_ways_1 (by decide) (fun c51400 => ?_) (fun c51400 => ?_)
  · refine lv_bipush (v := (-2)) hx hb dX11_ways_10 (by decide) ?_
    exact W.iret (v := (-2)) hx hb hr (fun t ht hW => ⟨_, rfl, ⟨(by decide : Rg (-2) (-2) ((-2) : Int32)), trivial⟩, ht⟩) (fun q hq => absurd hq List.not_mem_nil) dX11_ways_12
  · exact absurd (wk_ylt px0 (by decide : Rg 0 0 (0 : Int32)) (by decide)) c51400
set_option maxHeartbeats 4000000 in
set_option maxRecDepth 100000 in
theorem k_X11_ways_b2 (l : Launch) (D : va_G) (cI cS : ClassId) (a : Nat → Nat) (na nc N : Nat) (L u : SU) (hL : TyX L) (hN : N = 0 ∨ N = 24576) (x0 : Int32) (px0 : Rg 7 2147483647 x0) : Met l yX11_ways wsX11_ways ({ frames := 0, cells := 0, slots := 0, locals := 0 }) (PS D cI cS (wX cI cS a na nc N L u) [.ref (a 0), .int x0]) (vp_Si (fun r => Rg (-2) (-2) r ∧ True)) 0 0 (fun _ => False) := by
  refine Met.ofW (cc := cX11_ways) (maxL := 2) (ret := (some .int)) (by decide) rfl ?_
  intro p e s m args below meth c s₁ B hml hv
  obtain ⟨rfl, hP, hKK⟩ := hv
  have hx := B.exec
  have hb := B.bytes
  have hr := B.returns
  have hts := atoms_spec (ws := wsX11_ways) B.pre
  have hown : s.vm.findClass RX11 = some m.cls := findClass_of_methodNamed B.named
  have hlocks := B.notSynchronized
  have hK := hKK.1
  have hl := lv_entry ([.ref (a 0), .int x0]) (n := 2) (Nat.le_of_ble_eq_true rfl)
  rw [lg_entry_eq]
  generalize (lg_sl ([.ref (a 0), .int x0]) ++ List.replicate (2 - (lg_sl ([.ref (a 0), .int x0])).length) Slot.unset).toArray = ls at hl ⊢
  have hl : lv_has ls 2 [(0, .ref (a 0)), (1, .int x0)] := hl
  refine lv_iload_n hx hb dX11_ways_0 rfl (lv_at hl 1 rfl) ?_
  refine lv_if_lt (tgt := 10) hx hb dX11_ways_1 (by decide) (fun c51403 => ?_) (fun c51403 => ?_)
  · exact absurd c51403 (wk_nlt px0 (by decide : Rg 0 0 (0 : Int32)) (by decide))
  · refine lv_iload_n hx hb dX11_ways_4 rfl (lv_at hl 1 rfl) ?_
    refine lv_bipush (v := 6) hx hb dX11_ways_5 (by decide) ?_
    refine lv_icmp_le (tgt := 13) hx hb dX11_ways_7 (by decide) (fun c51404 => ?_) (fun c51404 => ?_)
    · exact absurd c51404 (wk_nle px0 (by decide : Rg 6 6 (6 : Int32)) (by decide))
    · refine lv_bipush (v := (-2)) hx hb dX11_ways_10 (by decide) ?_
      exact W.iret (v := (-2)) hx hb hr (fun t ht hW => ⟨_, rfl, ⟨(by decide : Rg (-2) (-2) ((-2) : Int32)), trivial⟩, ht⟩) (fun q hq => absurd hq List.not_mem_nil) dX11_ways_12
set_option maxHeartbeats 4000000 in
set_option maxRecDepth 100000 in
theorem k_X2_hasPoint_z (l : Launch) (D : va_G) (cI cS : ClassId) (a : Nat → Nat) (na nc N : Nat) (L u : SU) (hL : TyX L) (hN : N = 0 ∨ N = 24576) (x0 : Int32) : Met l yX2_hasPoint wsX2_hasPoint ({ frames := 0, cells := 0, slots := 0, locals := 0 }) (PS D cI cS (wX cI cS a na nc N L u) [.ref (a 1), .int x0]) (vp_Si (fun r => Rg 0 1 r ∧ (r ≠ 0 → Rg 0 11 x0) ∧ ((r ≠ 0 → 0 ≤ x0.toInt ∧ x0.toInt < (L 1 1).toInt) ∧ (r = 0 → ¬ (0 ≤ x0.toInt ∧ x0.toInt < (L 1 1).toInt))))) 0 0 (fun _ => False) := by
  refine Met.ofW (cc := cX2_hasPoint) (maxL := 2) (ret := (some .boolean)) (by decide) rfl ?_
  intro p e s m args below meth c s₁ B hml hv
  obtain ⟨rfl, hP, hKK⟩ := hv
  have hx := B.exec
  have hb := B.bytes
  have hr := B.returns
  have hts := atoms_spec (ws := wsX2_hasPoint) B.pre
  have hown : s.vm.findClass RX2 = some m.cls := findClass_of_methodNamed B.named
  have hlocks := B.notSynchronized
  have hK := hKK.1
  have hin2 : ∀ w ∈ wsX20, w ∈ wsX2_hasPoint := by decide +kernel
  have hl := lv_entry ([.ref (a 1), .int x0]) (n := 2) (Nat.le_of_ble_eq_true rfl)
  rw [lg_entry_eq]
  generalize (lg_sl ([.ref (a 1), .int x0]) ++ List.replicate (2 - (lg_sl ([.ref (a 1), .int x0])).length) Slot.unset).toArray = ls at hl ⊢
  have hl : lv_has ls 2 [(0, .ref (a 1)), (1, .int x0)] := hl
  refine lv_iload_n hx hb dX2_hasPoint_0 rfl (lv_at hl 1 rfl) ?_
  refine lv_if_lt (tgt := 16) hx hb dX2_hasPoint_1 (by decide) (fun c51411 => ?_) (fun c51411 => ?_)
  · have g51412 : Rg (-2147483648) (-1) x0 := rg_ltl (rg_any x0) (by decide : Rg 0 0 (0 : Int32)) c51411 (by decide)
    refine lv_iconst (v := 0) hx hb dX2_hasPoint_16 (by decide) ?_
    exact W.zret (v := 0) hx hb hr (by decide) (fun t ht hW => ⟨_, rfl, ⟨(by decide : Rg 0 1 (0 : Int32)), fun h9 => absurd rfl h9, ⟨fun h9 => absurd rfl h9, fun _ => (by have y90 : x0.toInt < (0 : Int32).toInt := (lz_lt _ _).mp c51411; have y91 : Rg (-2147483648) (-1) x0 := g51412; have y92 : Rg (-2147483648) (-1) x0 := g51412; have y9c3 : (0 : Int32).toInt = 0 := (by decide); have y9c4 : (1 : Int32).toInt = 1 := (by decide); skip; omega)⟩⟩, ht⟩) (fun q hq => absurd hq List.not_mem_nil) dX2_hasPoint_17
  · have g51413 : Rg 0 2147483647 x0 := rg_ler (by decide : Rg 0 0 (0 : Int32)) (rg_any x0) (rg_nlt c51411) (by decide)
    refine lv_iload_n hx hb dX2_hasPoint_4 rfl (lv_at hl 1 rfl) ?_
    refine lv_aload_n hx hb dX2_hasPoint_5 rfl (lv_at hl 0 rfl) ?_
    refine va_get (D := D) (ci := 2) (v := .int (L 1 1)) (C := RX2) (T := TX2) (N := 3) hx hb hts hin2 hown hK hP 1 rfl rfl 1 (by decide) (hts (.fieldLink RX2 15 "MissedPoints$Net" "size" "I") (by decide +kernel)) (fun _ h9 => h9) rfl dX2_hasPoint_6 ?_
    refine lv_icmp_ge (tgt := 16) hx hb dX2_hasPoint_9 (by decide) (fun c51414 => ?_) (fun c51414 => ?_)
    · refine lv_iconst (v := 0) hx hb dX2_hasPoint_16 (by decide) ?_
      exact W.zret (v := 0) hx hb hr (by decide) (fun t ht hW => ⟨_, rfl, ⟨(by decide : Rg 0 1 (0 : Int32)), fun h9 => absurd rfl h9, ⟨fun h9 => absurd rfl h9, fun _ => (by have y90 : (0 : Int32).toInt ≤ x0.toInt := (lz_le _ _).mp (rg_nlt c51411); have y91 : (L 1 1).toInt ≤ x0.toInt := (lz_le _ _).mp c51414; have y92 : Rg 0 2147483647 x0 := g51413; have y93 : Rg 0 2147483647 x0 := g51413; have y9c4 : (0 : Int32).toInt = 0 := (by decide); have y9c5 : (1 : Int32).toInt = 1 := (by decide); skip; omega)⟩⟩, ht⟩) (fun q hq => absurd hq List.not_mem_nil) dX2_hasPoint_17
    · have g51415 : Rg 1 12 (L 1 1) := rg_ltr g51413 hL.1 (rg_nle c51414) (by decide)
      have g51416 : Rg 0 11 x0 := rg_ltl g51413 hL.1 (rg_nle c51414) (by decide)
      refine lv_iconst (v := 1) hx hb dX2_hasPoint_12 (by decide) ?_
      refine lv_goto (tgt := 17) hx hb dX2_hasPoint_13 (by decide) ?_
      exact W.zret (v := 1) hx hb hr (by decide) (fun t ht hW => ⟨_, rfl, ⟨(by decide : Rg 0 1 (1 : Int32)), fun _ => g51416, ⟨fun _ => (by have y90 : (0 : Int32).toInt ≤ x0.toInt := (lz_le _ _).mp (rg_nlt c51411); have y91 : x0.toInt < (L 1 1).toInt := (lz_lt _ _).mp (rg_nle c51414); have y92 : Rg 0 11 x0 := g51416; have y93 : Rg 1 12 (L 1 1) := g51415; have y94 : Rg 0 11 x0 := g51416; have y9c5 : (0 : Int32).toInt = 0 := (by decide); have y9c6 : (1 : Int32).toInt = 1 := (by decide); skip; omega), fun h9 => absurd h9 (by decide)⟩⟩, ht⟩) (fun q hq => absurd hq List.not_mem_nil) dX2_hasPoint_17
set_option maxRecDepth 20000 in
theorem ggX11_alone_X11_greatestDivisor : GoodIn wsX11_alone wsX11_greatestDivisor := goodIn_r _ [85] rfl (by decide +kernel)
set_option maxRecDepth 20000 in
theorem gX11_alone_X11_greatestDivisor : GoodIn wsX11_alone (va_wsS RX11 157 yX11_greatestDivisor wsX11_greatestDivisor) := goodIn_app (goodIn_of _ (by decide +kernel)) ggX11_alone_X11_greatestDivisor
set_option maxRecDepth 20000 in
theorem ggX11_alone_X2_all : GoodIn wsX11_alone wsX2_all := goodIn_r _ [12, 8, 102, 103, 104] rfl (by decide +kernel)
set_option maxRecDepth 20000 in
theorem gX11_alone_X2_all : GoodIn wsX11_alone (wsV RX11 128 RX2 yX2_all wsX2_all) := goodIn_app (goodIn_of _ (by decide +kernel)) ggX11_alone_X2_all
set_option maxRecDepth 20000 in
theorem ggX11_alone_X2_hasPoint : GoodIn wsX11_alone wsX2_hasPoint := goodIn_r _ [7, 8, 102, 103, 104] rfl (by decide +kernel)
set_option maxRecDepth 20000 in
theorem gX11_alone_X2_hasPoint : GoodIn wsX11_alone (wsV RX11 116 RX2 yX2_hasPoint wsX2_hasPoint) := goodIn_app (goodIn_of _ (by decide +kernel)) ggX11_alone_X2_hasPoint
set_option maxRecDepth 20000 in
theorem ggX11_alone_X3_best : GoodIn wsX11_alone wsX3_best := goodIn_r _ [17, 18, 19, 20, 16, 21, 22, 23, 24, 25, 26, 27, 28, 29, 30, 31, 32, 33, 34, 35, 36, 37, 38, 39, 40, 41, 42, 43, 44, 45, 46, 47, 48, 49, 50, 51, 52, 53, 54, 55, 56, 105, 106, 107, 108, 102, 103, 104, 109, 110] rfl (by decide +kernel)
set_option maxRecDepth 20000 in
theorem gX11_alone_X3_best : GoodIn wsX11_alone (wsV RX11 131 RX3 yX3_best wsX3_best) := goodIn_app (goodIn_of _ (by decide +kernel)) ggX11_alone_X3_best
set_option maxRecDepth 20000 in
theorem ggX11_alone_X3_number : GoodIn wsX11_alone wsX3_number := goodIn_r _ [60, 25, 61, 62, 29, 18, 19, 20, 16, 21, 22, 23, 24, 26, 27, 28, 30, 31, 32, 63, 64, 65, 66, 67, 68, 69, 70, 71, 72, 73, 74, 75, 76, 77, 78, 79, 80, 81, 37, 38, 39, 40, 41, 47, 48, 49, 50, 51, 52, 42, 43, 44, 45, 46, 53, 54, 55, 56, 105, 106, 107, 108, 109, 110, 102, 103, 104] rfl (by decide +kernel)
set_option maxRecDepth 20000 in
theorem gX11_alone_X3_number : GoodIn wsX11_alone (wsV RX11 153 RX3 yX3_number wsX3_number) := goodIn_app (goodIn_of _ (by decide +kernel)) ggX11_alone_X3_number
theorem dX11_alone_0 : decode cX11_alone 0 = .ok (.aload_n 0, 1) := by decide +kernel
theorem dX11_alone_1 : decode cX11_alone 1 = .ok (.getfield 12, 3) := by decide +kernel
theorem dX11_alone_100 : decode cX11_alone 100 = .ok (.iload 4, 2) := by decide +kernel
theorem dX11_alone_102 : decode cX11_alone 102 = .ok (.goto 5, 3) := by decide +kernel
theorem dX11_alone_105 : decode cX11_alone 105 = .ok (.iload 5, 2) := by decide +kernel
theorem dX11_alone_107 : decode cX11_alone 107 = .ok (.iload 6, 2) := by decide +kernel
theorem dX11_alone_109 : decode cX11_alone 109 = .ok (.idiv, 1) := by decide +kernel
theorem dX11_alone_11 : decode cX11_alone 11 = .ok (.iload_n 2, 1) := by decide +kernel
theorem dX11_alone_110 : decode cX11_alone 110 = .ok (.ireturn, 1) := by decide +kernel
theorem dX11_alone_12 : decode cX11_alone 12 = .ok (.ifCond .eq 11, 3) := by decide +kernel
theorem dX11_alone_15 : decode cX11_alone 15 = .ok (.iload_n 2, 1) := by decide +kernel
theorem dX11_alone_16 : decode cX11_alone 16 = .ok (.iconst 1, 1) := by decide +kernel
theorem dX11_alone_17 : decode cX11_alone 17 = .ok (.if_icmp .eq 6, 3) := by decide +kernel
theorem dX11_alone_20 : decode cX11_alone 20 = .ok (.bipush (-2), 2) := by decide +kernel
theorem dX11_alone_23 : decode cX11_alone 23 = .ok (.aload_n 0, 1) := by decide +kernel
theorem dX11_alone_24 : decode cX11_alone 24 = .ok (.getfield 21, 3) := by decide +kernel
theorem dX11_alone_27 : decode cX11_alone 27 = .ok (.aload_n 0, 1) := by decide +kernel
theorem dX11_alone_28 : decode cX11_alone 28 = .ok (.getfield 12, 3) := by decide +kernel
theorem dX11_alone_31 : decode cX11_alone 31 = .ok (.invokevirtual 128, 3) := by decide +kernel
theorem dX11_alone_34 : decode cX11_alone 34 = .ok (.invokevirtual 131, 3) := by decide +kernel
theorem dX11_alone_37 : decode cX11_alone 37 = .ok (.istore_n 3, 1) := by decide +kernel
theorem dX11_alone_38 : decode cX11_alone 38 = .ok (.aload_n 0, 1) := by decide +kernel
theorem dX11_alone_39 : decode cX11_alone 39 = .ok (.getfield 21, 3) := by decide +kernel
theorem dX11_alone_4 : decode cX11_alone 4 = .ok (.iload_n 1, 1) := by decide +kernel
theorem dX11_alone_42 : decode cX11_alone 42 = .ok (.aload_n 0, 1) := by decide +kernel
theorem dX11_alone_43 : decode cX11_alone 43 = .ok (.getfield 12, 3) := by decide +kernel
theorem dX11_alone_46 : decode cX11_alone 46 = .ok (.invokevirtual 128, 3) := by decide +kernel
theorem dX11_alone_49 : decode cX11_alone 49 = .ok (.iconst 1, 1) := by decide +kernel
theorem dX11_alone_5 : decode cX11_alone 5 = .ok (.invokevirtual 116, 3) := by decide +kernel
theorem dX11_alone_50 : decode cX11_alone 50 = .ok (.iload_n 1, 1) := by decide +kernel
theorem dX11_alone_51 : decode cX11_alone 51 = .ok (.ishl, 1) := by decide +kernel
theorem dX11_alone_52 : decode cX11_alone 52 = .ok (.iconst (-1), 1) := by decide +kernel
theorem dX11_alone_53 : decode cX11_alone 53 = .ok (.ixor, 1) := by decide +kernel
theorem dX11_alone_54 : decode cX11_alone 54 = .ok (.iand, 1) := by decide +kernel
theorem dX11_alone_55 : decode cX11_alone 55 = .ok (.iload_n 3, 1) := by decide +kernel
theorem dX11_alone_56 : decode cX11_alone 56 = .ok (.invokevirtual 153, 3) := by decide +kernel
theorem dX11_alone_59 : decode cX11_alone 59 = .ok (.istore 4, 2) := by decide +kernel
theorem dX11_alone_61 : decode cX11_alone 61 = .ok (.aload_n 0, 1) := by decide +kernel
theorem dX11_alone_62 : decode cX11_alone 62 = .ok (.getfield 21, 3) := by decide +kernel
theorem dX11_alone_65 : decode cX11_alone 65 = .ok (.aload_n 0, 1) := by decide +kernel
theorem dX11_alone_66 : decode cX11_alone 66 = .ok (.getfield 12, 3) := by decide +kernel
theorem dX11_alone_69 : decode cX11_alone 69 = .ok (.invokevirtual 128, 3) := by decide +kernel
theorem dX11_alone_72 : decode cX11_alone 72 = .ok (.iload_n 3, 1) := by decide +kernel
theorem dX11_alone_73 : decode cX11_alone 73 = .ok (.invokevirtual 153, 3) := by decide +kernel
theorem dX11_alone_76 : decode cX11_alone 76 = .ok (.istore 5, 2) := by decide +kernel
theorem dX11_alone_78 : decode cX11_alone 78 = .ok (.iload 4, 2) := by decide +kernel
theorem dX11_alone_8 : decode cX11_alone 8 = .ok (.ifCond .eq 12, 3) := by decide +kernel
theorem dX11_alone_80 : decode cX11_alone 80 = .ok (.iload 5, 2) := by decide +kernel
theorem dX11_alone_82 : decode cX11_alone 82 = .ok (.invokestatic 157, 3) := by decide +kernel
theorem dX11_alone_85 : decode cX11_alone 85 = .ok (.istore 6, 2) := by decide +kernel
theorem dX11_alone_87 : decode cX11_alone 87 = .ok (.iload 6, 2) := by decide +kernel
theorem dX11_alone_89 : decode cX11_alone 89 = .ok (.iconst 1, 1) := by decide +kernel
theorem dX11_alone_90 : decode cX11_alone 90 = .ok (.if_icmp .ge 6, 3) := by decide +kernel
theorem dX11_alone_93 : decode cX11_alone 93 = .ok (.bipush (-2), 2) := by decide +kernel
theorem dX11_alone_95 : decode cX11_alone 95 = .ok (.ireturn, 1) := by decide +kernel
theorem dX11_alone_96 : decode cX11_alone 96 = .ok (.iload_n 2, 1) := by decide +kernel
theorem dX11_alone_97 : decode cX11_alone 97 = .ok (.ifCond .ne 8, 3) := by decide +kernel
set_option maxHeartbeats 4000000 in
set_option maxRecDepth 100000 in
theorem k_X11_alone_1 (l : Launch) (D : va_G) (cI cS : ClassId) (sz : Nat) (a : Nat → Nat) (na nc : Nat) (L u0 : SU) (hL : TyX L) (x0 x1 : Int32) (px1 : Rg 0 1 x1) (hpt : 0 ≤ x0.toInt ∧ x0.toInt < (L 1 1).toInt) : Met l yX11_alone wsX11_alone ({ frames := 16, cells := 0, slots := 0, locals := 640 }) (PQ D cI cS (wX cI cS a na nc 24576 L u0) sz [.ref (a 0), .int x0, .int x1]) (QF (S := SU) D (wX cI cS a na nc 24576 L u0) (wX cI cS a na nc 24576 L) sz (fun r _ => Rg (-2147483648) 2147483647 r ∧ True)) 0 0 (va_A (wX cI cS a na nc 24576 L u0) sz) := by
  refine Met.ofW (cc := cX11_alone) (maxL := 7) (ret := (some .int)) (by decide) rfl ?_
  intro p e s m args below meth c s₁ B hml hv
  obtain ⟨rfl, hsz, hP, hKK, hD0⟩ := hv
  have hx := B.exec
  have hb := B.bytes
  have hr := B.returns
  have hts := atoms_spec (ws := wsX11_alone) B.pre
  have hown : s.vm.findClass RX11 = some m.cls := findClass_of_methodNamed B.named
  have hlocks := B.notSynchronized
  have hK := hKK.1
  have hin11 : ∀ w ∈ wsX110, w ∈ wsX11_alone := by decide +kernel
  subst hsz
  have hD := hD0.self (sz := s.heap.size)
  obtain ⟨A, hAe⟩ : ∃ A, A = va_A (wX cI cS a na nc 24576 L u0) s.heap.size := ⟨_, rfl⟩
  rw [← hAe] at hD
  have hA : ∀ q : Nat, s.heap.size ≤ q → A q := fun q h => by rw [hAe]; exact Or.inr h
  have hS : va_S A s.heap s.heap [] := va_S.rf
  have hl := lv_entry ([.ref (a 0), .int x0, .int x1]) (n := 7) (Nat.le_of_ble_eq_true rfl)
  rw [lg_entry_eq]
  generalize (lg_sl ([.ref (a 0), .int x0, .int x1]) ++ List.replicate (7 - (lg_sl ([.ref (a 0), .int x0, .int x1])).length) Slot.unset).toArray = ls at hl ⊢
  have hl : lv_has ls 7 [(0, .ref (a 0)), (1, .int x0), (2, .int x1)] := hl
  obtain ⟨u, hu9⟩ : ∃ u : SU, u = u0 := ⟨_, rfl⟩
  rw [← hu9] at hP hD
  refine lv_aload_n hx hb dX11_alone_0 rfl (lv_at hl 0 rfl) ?_
  refine va_get (D := D) (ci := 11) (v := .ref (a 1)) (C := RX11) (T := TX11) (N := 16) hx hb hts hin11 hown hK hP 0 rfl rfl 0 (by decide) (hts (.fieldLink RX11 12 "MissedPoints" "net" "LMissedPoints$Net;") (by decide +kernel)) (fun _ h9 => h9) rfl dX11_alone_1 ?_
  refine lv_iload_n hx hb dX11_alone_4 rfl (lv_at hl 1 rfl) ?_
  refine wk_sv 1 (As := [.int x0]) (rest := []) ⟨hx, hb, hml, hown, hts⟩ (k_X2_hasPoint_z l D cI cS a na nc 24576 L u hL (Or.inr rfl) x0) hKK hP (ci := 2) rfl rfl (cwV 1 hts gX11_alone_X2_hasPoint rfl rfl rfl (by decide +kernel) ⟨Nat.le_of_ble_eq_true rfl, Nat.le_of_ble_eq_true rfl⟩) rfl hl.1 rfl (Nat.le_of_ble_eq_true rfl) dX11_alone_5 ⟨Nat.le_of_ble_eq_true rfl, Nat.le_of_ble_eq_true rfl⟩ (fun r51456 hr51456 => ?_)
  refine lv_if_eq (tgt := 20) hx hb dX11_alone_8 (by decide) (fun c51457 => ?_) (fun c51457 => ?_)
  · have g51458 : Rg 0 0 r51456 := wk_eql hr51456.1 (by decide : Rg 0 0 (0 : Int32)) c51457 (by decide)
    exact absurd hpt (hr51456.2.2.2 c51457)
  · have g51459 : Rg 0 11 x0 := (hr51456.2.1 c51457)
    have g51460 : Rg 1 1 r51456 := rg_ne_lo (k := 0) hr51456.1 (by decide) c51457 (by decide)
    refine lv_iload_n hx hb dX11_alone_11 rfl (lv_at hl 2 rfl) ?_
    refine lv_if_eq (tgt := 23) hx hb dX11_alone_12 (by decide) (fun c51461 => ?_) (fun c51461 => ?_)
    · have g51462 : Rg 0 0 x1 := wk_eql px1 (by decide : Rg 0 0 (0 : Int32)) c51461 (by decide)
      refine lv_aload_n hx hb dX11_alone_23 rfl (lv_at hl 0 rfl) ?_
      refine va_get (D := D) (ci := 11) (v := .ref (a 7)) (C := RX11) (T := TX11) (N := 16) hx hb hts hin11 hown hK hP 0 rfl rfl 1 (by decide) (hts (.fieldLink RX11 21 "MissedPoints" "pairs" "LMissedPoints$Pairs;") (by decide +kernel)) (fun _ h9 => h9) rfl dX11_alone_24 ?_
      refine lv_aload_n hx hb dX11_alone_27 rfl (lv_at hl 0 rfl) ?_
      refine va_get (D := D) (ci := 11) (v := .ref (a 1)) (C := RX11) (T := TX11) (N := 16) hx hb hts hin11 hown hK hP 0 rfl rfl 0 (by decide) (hts (.fieldLink RX11 12 "MissedPoints" "net" "LMissedPoints$Net;") (by decide +kernel)) (fun _ h9 => h9) rfl dX11_alone_28 ?_
      refine wk_sv 1 (As := []) (rest := [.ref (a 7)]) ⟨hx, hb, hml, hown, hts⟩ (k_X2_all l D cI cS a na nc 24576 L u hL (Or.inr rfl)) hKK hP (ci := 2) rfl rfl (cwV 0 hts gX11_alone_X2_all rfl rfl rfl (by decide +kernel) ⟨Nat.le_of_ble_eq_true rfl, Nat.le_of_ble_eq_true rfl⟩) rfl hl.1 rfl (Nat.le_of_ble_eq_true rfl) dX11_alone_31 ⟨Nat.le_of_ble_eq_true rfl, Nat.le_of_ble_eq_true rfl⟩ (fun r51463 hr51463 => ?_)
      refine wk_qi (wX cI cS a na nc 24576 L) u (As := [.int r51463]) (rest := []) ⟨hx, hb, hml, hown, hts⟩ (k_X3_best l D cI cS _ a na nc 24576 L u hL (Or.inr rfl) r51463) hKK hP hD hS hA 7 (ci := 3) rfl rfl (cwV 1 hts gX11_alone_X3_best rfl rfl rfl (by decide +kernel) ⟨Nat.le_of_ble_eq_true rfl, Nat.le_of_ble_eq_true rfl⟩) rfl hl.1 rfl (Nat.le_of_ble_eq_true rfl) dX11_alone_34 ⟨Nat.le_of_ble_eq_true rfl, Nat.le_of_ble_eq_true rfl⟩ (fun r51464 u H locs hr51464 hP hD hS => ?_)
      refine lv_istore_n (lv' := [(3, .int r51464), (0, .ref (a 0)), (1, .int x0), (2, .int x1)]) hx hb dX11_alone_37 rfl hl (by decide) rfl (fun ls hl => ?_)
      refine lv_aload_n hx hb dX11_alone_38 rfl (lv_at hl 1 rfl) ?_
      refine va_get (D := D) (ci := 11) (v := .ref (a 7)) (C := RX11) (T := TX11) (N := 16) hx hb hts hin11 hown hK hP 0 rfl rfl 1 (by decide) (hts (.fieldLink RX11 21 "MissedPoints" "pairs" "LMissedPoints$Pairs;") (by decide +kernel)) (fun _ h9 => h9) rfl dX11_alone_39 ?_
      refine lv_aload_n hx hb dX11_alone_42 rfl (lv_at hl 1 rfl) ?_
      refine va_get (D := D) (ci := 11) (v := .ref (a 1)) (C := RX11) (T := TX11) (N := 16) hx hb hts hin11 hown hK hP 0 rfl rfl 0 (by decide) (hts (.fieldLink RX11 12 "MissedPoints" "net" "LMissedPoints$Net;") (by decide +kernel)) (fun _ h9 => h9) rfl dX11_alone_43 ?_
      refine wk_sv 1 (As := []) (rest := [.ref (a 7)]) ⟨hx, hb, hml, hown, hts⟩ (k_X2_all l D cI cS a na nc 24576 L u hL (Or.inr rfl)) hKK hP (ci := 2) rfl rfl (cwV 0 hts gX11_alone_X2_all rfl rfl rfl (by decide +kernel) ⟨Nat.le_of_ble_eq_true rfl, Nat.le_of_ble_eq_true rfl⟩) rfl hl.1 rfl (Nat.le_of_ble_eq_true rfl) dX11_alone_46 ⟨Nat.le_of_ble_eq_true rfl, Nat.le_of_ble_eq_true rfl⟩ (fun r51465 hr51465 => ?_)
      refine lv_iconst (v := 1) hx hb dX11_alone_49 (by decide) ?_
      refine lv_iload_n hx hb dX11_alone_50 rfl (lv_at hl 2 rfl) ?_
      refine wk_ishl1 (f := 2048) hx hb dX11_alone_51 g51459 (by decide) (fun r51466 hr51466 qr51466 => ?_)
      refine lv_iconst (v := (-1)) hx hb dX11_alone_52 (by decide) ?_
      refine lv_ixor hx hb dX11_alone_53 ?_
      refine wk_topP (P := fun r => r = r51466 ^^^ ((-1) : Int32)) rfl (fun r51467 qr51467 => ?_)
      refine wk_iandl hx hb dX11_alone_54 hr51465.1 (by decide) (fun r51468 hr51468 qr51468 => ?_)
      refine lv_iload_n hx hb dX11_alone_55 rfl (lv_at hl 0 rfl) ?_
      refine wk_qi (wX cI cS a na nc 24576 L) u (As := [.int r51468, .int r51464]) (rest := []) ⟨hx, hb, hml, hown, hts⟩ (k_X3_number_1 l D cI cS _ a na nc L u hL r51468 r51464 hr51464.1) hKK hP hD hS hA 7 (ci := 3) rfl rfl (cwV 2 hts gX11_alone_X3_number rfl rfl rfl (by decide +kernel) ⟨Nat.le_of_ble_eq_true rfl, Nat.le_of_ble_eq_true rfl⟩) rfl hl.1 rfl (Nat.le_of_ble_eq_true rfl) dX11_alone_56 ⟨Nat.le_of_ble_eq_true rfl, Nat.le_of_ble_eq_true rfl⟩ (fun r51469 u H locs hr51469 hP hD hS => ?_)
      refine lv_istore (lv' := [(4, .int r51469), (3, .int r51464), (0, .ref (a 0)), (1, .int x0), (2, .int x1)]) hx hb dX11_alone_59 hl (by decide) rfl (fun ls hl => ?_)
      refine lv_aload_n hx hb dX11_alone_61 rfl (lv_at hl 2 rfl) ?_
      refine va_get (D := D) (ci := 11) (v := .ref (a 7)) (C := RX11) (T := TX11) (N := 16) hx hb hts hin11 hown hK hP 0 rfl rfl 1 (by decide) (hts (.fieldLink RX11 21 "MissedPoints" "pairs" "LMissedPoints$Pairs;") (by decide +kernel)) (fun _ h9 => h9) rfl dX11_alone_62 ?_
      refine lv_aload_n hx hb dX11_alone_65 rfl (lv_at hl 2 rfl) ?_
      refine va_get (D := D) (ci := 11) (v := .ref (a 1)) (C := RX11) (T := TX11) (N := 16) hx hb hts hin11 hown hK hP 0 rfl rfl 0 (by decide) (hts (.fieldLink RX11 12 "MissedPoints" "net" "LMissedPoints$Net;") (by decide +kernel)) (fun _ h9 => h9) rfl dX11_alone_66 ?_
      refine wk_sv 1 (As := []) (rest := [.ref (a 7)]) ⟨hx, hb, hml, hown, hts⟩ (k_X2_all l D cI cS a na nc 24576 L u hL (Or.inr rfl)) hKK hP (ci := 2) rfl rfl (cwV 0 hts gX11_alone_X2_all rfl rfl rfl (by decide +kernel) ⟨Nat.le_of_ble_eq_true rfl, Nat.le_of_ble_eq_true rfl⟩) rfl hl.1 rfl (Nat.le_of_ble_eq_true rfl) dX11_alone_69 ⟨Nat.le_of_ble_eq_true rfl, Nat.le_of_ble_eq_true rfl⟩ (fun r51470 hr51470 => ?_)
      refine lv_iload_n hx hb dX11_alone_72 rfl (lv_at hl 1 rfl) ?_
      refine wk_qi (wX cI cS a na nc 24576 L) u (As := [.int r51470, .int r51464]) (rest := []) ⟨hx, hb, hml, hown, hts⟩ (k_X3_number_1 l D cI cS _ a na nc L u hL r51470 r51464 hr51464.1) hKK hP hD hS hA 7 (ci := 3) rfl rfl (cwV 2 hts gX11_alone_X3_number rfl rfl rfl (by decide +kernel) ⟨Nat.le_of_ble_eq_true rfl, Nat.le_of_ble_eq_true rfl⟩) rfl hl.1 rfl (Nat.le_of_ble_eq_true rfl) dX11_alone_73 ⟨Nat.le_of_ble_eq_true rfl, Nat.le_of_ble_eq_true rfl⟩ (fun r51471 u H locs hr51471 hP hD hS => ?_)
      refine lv_istore (lv' := [(5, .int r51471), (4, .int r51469), (3, .int r51464), (0, .ref (a 0)), (1, .int x0), (2, .int x1)]) hx hb dX11_alone_76 hl (by decide) rfl (fun ls hl => ?_)
      refine lv_iload hx hb dX11_alone_78 (lv_at hl 1 rfl) ?_
      refine lv_iload hx hb dX11_alone_80 (lv_at hl 0 rfl) ?_
      refine lz_ss (As := [.int r51469, .int r51471]) (rest := []) ⟨hx, hb, hml, hown, hts⟩ (k_X11_greatestDivisor l D cI cS r51469 r51471) hKK (hP.sub (ws' := []) [] rfl) (va_cwS 2 hts gX11_alone_X11_greatestDivisor rfl rfl rfl (by decide +kernel) ⟨Nat.le_of_ble_eq_true rfl, Nat.le_of_ble_eq_true rfl⟩) rfl hl.1 rfl (Nat.le_of_ble_eq_true rfl) dX11_alone_82 ⟨Nat.le_of_ble_eq_true rfl, Nat.le_of_ble_eq_true rfl⟩ (fun r51472 hr51472 => ?_)
      refine lv_istore (lv' := [(6, .int r51472), (5, .int r51471), (4, .int r51469), (3, .int r51464), (0, .ref (a 0)), (1, .int x0), (2, .int x1)]) hx hb dX11_alone_85 hl (by decide) rfl (fun ls hl => ?_)
      refine lv_iload hx hb dX11_alone_87 (lv_at hl 0 rfl) ?_
      refine lv_iconst (v := 1) hx hb dX11_alone_89 (by decide) ?_
      refine lv_icmp_ge (tgt := 96) hx hb dX11_alone_90 (by decide) (fun c51473 => ?_) (fun c51473 => ?_)
      · have g51474 : Rg 1 2147483647 r51472 := rg_ler (by decide : Rg 1 1 (1 : Int32)) hr51472.1 c51473 (by decide)
        refine lv_iload_n hx hb dX11_alone_96 rfl (lv_at hl 6 rfl) ?_
        refine lv_if_ne (tgt := 105) hx hb dX11_alone_97 (by decide) (fun c51475 => ?_) (fun c51475 => ?_)
        · exact absurd (wk_yeq g51462 (by decide : Rg 0 0 (0 : Int32)) (by decide)) c51475
        · refine lv_iload hx hb dX11_alone_100 (lv_at hl 2 rfl) ?_
          refine lv_goto (tgt := 107) hx hb dX11_alone_102 (by decide) ?_
          refine lv_iload hx hb dX11_alone_107 (lv_at hl 0 rfl) ?_
          refine lv_idiv hx hb dX11_alone_109 (wk_nz g51474 (by decide)) ?_
          refine wk_any (fun r51476 => ?_)
          subst hAe
          exact W.iret (v := r51476) hx hb hr (fun t ht hW => ⟨⟨_, u, rfl, ⟨(rg_any r51476), trivial⟩, by rw [ht]; exact hP, hD⟩, hS.F ht⟩) hS.2.2 dX11_alone_110
      · have g51477 : Rg (-2147483648) 0 r51472 := rg_ltl hr51472.1 (by decide : Rg 1 1 (1 : Int32)) (rg_nle c51473) (by decide)
        refine lv_bipush (v := (-2)) hx hb dX11_alone_93 (by decide) ?_
        subst hAe
        exact W.iret (v := (-2)) hx hb hr (fun t ht hW => ⟨⟨_, u, rfl, ⟨(by decide : Rg (-2147483648) 2147483647 ((-2) : Int32)), trivial⟩, by rw [ht]; exact hP, hD⟩, hS.F ht⟩) hS.2.2 dX11_alone_95
    · have g51478 : Rg 1 1 x1 := rg_ne_lo (k := 0) px1 (by decide) c51461 (by decide)
      refine lv_iload_n hx hb dX11_alone_15 rfl (lv_at hl 2 rfl) ?_
      refine lv_iconst (v := 1) hx hb dX11_alone_16 (by decide) ?_
      refine lv_icmp_eq (tgt := 23) hx hb dX11_alone_17 (by decide) (fun c51479 => ?_) (fun c51479 => ?_)
      · refine lv_aload_n hx hb dX11_alone_23 rfl (lv_at hl 0 rfl) ?_
        refine va_get (D := D) (ci := 11) (v := .ref (a 7)) (C := RX11) (T := TX11) (N := 16) hx hb hts hin11 hown hK hP 0 rfl rfl 1 (by decide) (hts (.fieldLink RX11 21 "MissedPoints" "pairs" "LMissedPoints$Pairs;") (by decide +kernel)) (fun _ h9 => h9) rfl dX11_alone_24 ?_
        refine lv_aload_n hx hb dX11_alone_27 rfl (lv_at hl 0 rfl) ?_
        refine va_get (D := D) (ci := 11) (v := .ref (a 1)) (C := RX11) (T := TX11) (N := 16) hx hb hts hin11 hown hK hP 0 rfl rfl 0 (by decide) (hts (.fieldLink RX11 12 "MissedPoints" "net" "LMissedPoints$Net;") (by decide +kernel)) (fun _ h9 => h9) rfl dX11_alone_28 ?_
        refine wk_sv 1 (As := []) (rest := [.ref (a 7)]) ⟨hx, hb, hml, hown, hts⟩ (k_X2_all l D cI cS a na nc 24576 L u hL (Or.inr rfl)) hKK hP (ci := 2) rfl rfl (cwV 0 hts gX11_alone_X2_all rfl rfl rfl (by decide +kernel) ⟨Nat.le_of_ble_eq_true rfl, Nat.le_of_ble_eq_true rfl⟩) rfl hl.1 rfl (Nat.le_of_ble_eq_true rfl) dX11_alone_31 ⟨Nat.le_of_ble_eq_true rfl, Nat.le_of_ble_eq_true rfl⟩ (fun r51480 hr51480 => ?_)
        refine wk_qi (wX cI cS a na nc 24576 L) u (As := [.int r51480]) (rest := []) ⟨hx, hb, hml, hown, hts⟩ (k_X3_best l D cI cS _ a na nc 24576 L u hL (Or.inr rfl) r51480) hKK hP hD hS hA 7 (ci := 3) rfl rfl (cwV 1 hts gX11_alone_X3_best rfl rfl rfl (by decide +kernel) ⟨Nat.le_of_ble_eq_true rfl, Nat.le_of_ble_eq_true rfl⟩) rfl hl.1 rfl (Nat.le_of_ble_eq_true rfl) dX11_alone_34 ⟨Nat.le_of_ble_eq_true rfl, Nat.le_of_ble_eq_true rfl⟩ (fun r51481 u H locs hr51481 hP hD hS => ?_)
        refine lv_istore_n (lv' := [(3, .int r51481), (0, .ref (a 0)), (1, .int x0), (2, .int x1)]) hx hb dX11_alone_37 rfl hl (by decide) rfl (fun ls hl => ?_)
        refine lv_aload_n hx hb dX11_alone_38 rfl (lv_at hl 1 rfl) ?_
        refine va_get (D := D) (ci := 11) (v := .ref (a 7)) (C := RX11) (T := TX11) (N := 16) hx hb hts hin11 hown hK hP 0 rfl rfl 1 (by decide) (hts (.fieldLink RX11 21 "MissedPoints" "pairs" "LMissedPoints$Pairs;") (by decide +kernel)) (fun _ h9 => h9) rfl dX11_alone_39 ?_
        refine lv_aload_n hx hb dX11_alone_42 rfl (lv_at hl 1 rfl) ?_
        refine va_get (D := D) (ci := 11) (v := .ref (a 1)) (C := RX11) (T := TX11) (N := 16) hx hb hts hin11 hown hK hP 0 rfl rfl 0 (by decide) (hts (.fieldLink RX11 12 "MissedPoints" "net" "LMissedPoints$Net;") (by decide +kernel)) (fun _ h9 => h9) rfl dX11_alone_43 ?_
        refine wk_sv 1 (As := []) (rest := [.ref (a 7)]) ⟨hx, hb, hml, hown, hts⟩ (k_X2_all l D cI cS a na nc 24576 L u hL (Or.inr rfl)) hKK hP (ci := 2) rfl rfl (cwV 0 hts gX11_alone_X2_all rfl rfl rfl (by decide +kernel) ⟨Nat.le_of_ble_eq_true rfl, Nat.le_of_ble_eq_true rfl⟩) rfl hl.1 rfl (Nat.le_of_ble_eq_true rfl) dX11_alone_46 ⟨Nat.le_of_ble_eq_true rfl, Nat.le_of_ble_eq_true rfl⟩ (fun r51482 hr51482 => ?_)
        refine lv_iconst (v := 1) hx hb dX11_alone_49 (by decide) ?_
        refine lv_iload_n hx hb dX11_alone_50 rfl (lv_at hl 2 rfl) ?_
        refine wk_ishl1 (f := 2048) hx hb dX11_alone_51 g51459 (by decide) (fun r51483 hr51483 qr51483 => ?_)
        refine lv_iconst (v := (-1)) hx hb dX11_alone_52 (by decide) ?_
        refine lv_ixor hx hb dX11_alone_53 ?_
        refine wk_topP (P := fun r => r = r51483 ^^^ ((-1) : Int32)) rfl (fun r51484 qr51484 => ?_)
        refine wk_iandl hx hb dX11_alone_54 hr51482.1 (by decide) (fun r51485 hr51485 qr51485 => ?_)
        refine lv_iload_n hx hb dX11_alone_55 rfl (lv_at hl 0 rfl) ?_
        refine wk_qi (wX cI cS a na nc 24576 L) u (As := [.int r51485, .int r51481]) (rest := []) ⟨hx, hb, hml, hown, hts⟩ (k_X3_number_1 l D cI cS _ a na nc L u hL r51485 r51481 hr51481.1) hKK hP hD hS hA 7 (ci := 3) rfl rfl (cwV 2 hts gX11_alone_X3_number rfl rfl rfl (by decide +kernel) ⟨Nat.le_of_ble_eq_true rfl, Nat.le_of_ble_eq_true rfl⟩) rfl hl.1 rfl (Nat.le_of_ble_eq_true rfl) dX11_alone_56 ⟨Nat.le_of_ble_eq_true rfl, Nat.le_of_ble_eq_true rfl⟩ (fun r51486 u H locs hr51486 hP hD hS => ?_)
        refine lv_istore (lv' := [(4, .int r51486), (3, .int r51481), (0, .ref (a 0)), (1, .int x0), (2, .int x1)]) hx hb dX11_alone_59 hl (by decide) rfl (fun ls hl => ?_)
        refine lv_aload_n hx hb dX11_alone_61 rfl (lv_at hl 2 rfl) ?_
        refine va_get (D := D) (ci := 11) (v := .ref (a 7)) (C := RX11) (T := TX11) (N := 16) hx hb hts hin11 hown hK hP 0 rfl rfl 1 (by decide) (hts (.fieldLink RX11 21 "MissedPoints" "pairs" "LMissedPoints$Pairs;") (by decide +kernel)) (fun _ h9 => h9) rfl dX11_alone_62 ?_
        refine lv_aload_n hx hb dX11_alone_65 rfl (lv_at hl 2 rfl) ?_
        refine va_get (D := D) (ci := 11) (v := .ref (a 1)) (C := RX11) (T := TX11) (N := 16) hx hb hts hin11 hown hK hP 0 rfl rfl 0 (by decide) (hts (.fieldLink RX11 12 "MissedPoints" "net" "LMissedPoints$Net;") (by decide +kernel)) (fun _ h9 => h9) rfl dX11_alone_66 ?_
        refine wk_sv 1 (As := []) (rest := [.ref (a 7)]) ⟨hx, hb, hml, hown, hts⟩ (k_X2_all l D cI cS a na nc 24576 L u hL (Or.inr rfl)) hKK hP (ci := 2) rfl rfl (cwV 0 hts gX11_alone_X2_all rfl rfl rfl (by decide +kernel) ⟨Nat.le_of_ble_eq_true rfl, Nat.le_of_ble_eq_true rfl⟩) rfl hl.1 rfl (Nat.le_of_ble_eq_true rfl) dX11_alone_69 ⟨Nat.le_of_ble_eq_true rfl, Nat.le_of_ble_eq_true rfl⟩ (fun r51487 hr51487 => ?_)
        refine lv_iload_n hx hb dX11_alone_72 rfl (lv_at hl 1 rfl) ?_
        refine wk_qi (wX cI cS a na nc 24576 L) u (As := [.int r51487, .int r51481]) (rest := []) ⟨hx, hb, hml, hown, hts⟩ (k_X3_number_1 l D cI cS _ a na nc L u hL r51487 r51481 hr51481.1) hKK hP hD hS hA 7 (ci := 3) rfl rfl (cwV 2 hts gX11_alone_X3_number rfl rfl rfl (by decide +kernel) ⟨Nat.le_of_ble_eq_true rfl, Nat.le_of_ble_eq_true rfl⟩) rfl hl.1 rfl (Nat.le_of_ble_eq_true rfl) dX11_alone_73 ⟨Nat.le_of_ble_eq_true rfl, Nat.le_of_ble_eq_true rfl⟩ (fun r51488 u H locs hr51488 hP hD hS => ?_)
        refine lv_istore (lv' := [(5, .int r51488), (4, .int r51486), (3, .int r51481), (0, .ref (a 0)), (1, .int x0), (2, .int x1)]) hx hb dX11_alone_76 hl (by decide) rfl (fun ls hl => ?_)
        refine lv_iload hx hb dX11_alone_78 (lv_at hl 1 rfl) ?_
        refine lv_iload hx hb dX11_alone_80 (lv_at hl 0 rfl) ?_
        refine lz_ss (As := [.int r51486, .int r51488]) (rest := []) ⟨hx, hb, hml, hown, hts⟩ (k_X11_greatestDivisor l D cI cS r51486 r51488) hKK (hP.sub (ws' := []) [] rfl) (va_cwS 2 hts gX11_alone_X11_greatestDivisor rfl rfl rfl (by decide +kernel) ⟨Nat.le_of_ble_eq_true rfl, Nat.le_of_ble_eq_true rfl⟩) rfl hl.1 rfl (Nat.le_of_ble_eq_true rfl) dX11_alone_82 ⟨Nat.le_of_ble_eq_true rfl, Nat.le_of_ble_eq_true rfl⟩ (fun r51489 hr51489 => ?_)
        refine lv_istore (lv' := [(6, .int r51489), (5, .int r51488), (4, .int r51486), (3, .int r51481), (0, .ref (a 0)), (1, .int x0), (2, .int x1)]) hx hb dX11_alone_85 hl (by decide) rfl (fun ls hl => ?_)
        refine lv_iload hx hb dX11_alone_87 (lv_at hl 0 rfl) ?_
        refine lv_iconst (v := 1) hx hb dX11_alone_89 (by decide) ?_
        refine lv_icmp_ge (tgt := 96) hx hb dX11_alone_90 (by decide) (fun c51490 => ?_) (fun c51490 => ?_)
        · have g51491 : Rg 1 2147483647 r51489 := rg_ler (by decide : Rg 1 1 (1 : Int32)) hr51489.1 c51490 (by decide)
          refine lv_iload_n hx hb dX11_alone_96 rfl (lv_at hl 6 rfl) ?_
          refine lv_if_ne (tgt := 105) hx hb dX11_alone_97 (by decide) (fun c51492 => ?_) (fun c51492 => ?_)
          · refine lv_iload hx hb dX11_alone_105 (lv_at hl 1 rfl) ?_
            refine lv_iload hx hb dX11_alone_107 (lv_at hl 0 rfl) ?_
            refine lv_idiv hx hb dX11_alone_109 (wk_nz g51491 (by decide)) ?_
            refine wk_any (fun r51493 => ?_)
            subst hAe
            exact W.iret (v := r51493) hx hb hr (fun t ht hW => ⟨⟨_, u, rfl, ⟨(rg_any r51493), trivial⟩, by rw [ht]; exact hP, hD⟩, hS.F ht⟩) hS.2.2 dX11_alone_110
          · exact absurd c51492 (wk_neq g51478 (by decide : Rg 0 0 (0 : Int32)) (by decide))
        · have g51494 : Rg (-2147483648) 0 r51489 := rg_ltl hr51489.1 (by decide : Rg 1 1 (1 : Int32)) (rg_nle c51490) (by decide)
          refine lv_bipush (v := (-2)) hx hb dX11_alone_93 (by decide) ?_
          subst hAe
          exact W.iret (v := (-2)) hx hb hr (fun t ht hW => ⟨⟨_, u, rfl, ⟨(by decide : Rg (-2147483648) 2147483647 ((-2) : Int32)), trivial⟩, by rw [ht]; exact hP, hD⟩, hS.F ht⟩) hS.2.2 dX11_alone_95
      · exact absurd (wk_yeq g51478 (by decide : Rg 1 1 (1 : Int32)) (by decide)) c51479
set_option maxHeartbeats 4000000 in
set_option maxRecDepth 100000 in
theorem k_X11_alone_0 (l : Launch) (D : va_G) (cI cS : ClassId) (sz : Nat) (a : Nat → Nat) (na nc : Nat) (L u0 : SU) (hL : TyX L) (x0 x1 : Int32) (px1 : Rg 0 1 x1) (hpt : 0 ≤ x0.toInt ∧ x0.toInt < (L 1 1).toInt) : Met l yX11_alone wsX11_alone ({ frames := 16, cells := 2, slots := 24578, locals := 640 }) (PQ D cI cS (wX cI cS a na nc 0 L u0) sz [.ref (a 0), .int x0, .int x1]) (QF (S := Nat × Nat × SU) D (wX cI cS a na nc 0 L u0) (fun q => wX cI cS a q.1 q.2.1 24576 L q.2.2) sz (fun r _ => Rg (-2147483648) 2147483647 r ∧ True)) 2 24578 (va_A (wX cI cS a na nc 0 L u0) sz) := by
  refine Met.ofW (cc := cX11_alone) (maxL := 7) (ret := (some .int)) (by decide) rfl ?_
  intro p e s m args below meth c s₁ B hml hv
  obtain ⟨rfl, hsz, hP, hKK, hD0⟩ := hv
  have hx := B.exec
  have hb := B.bytes
  have hr := B.returns
  have hts := atoms_spec (ws := wsX11_alone) B.pre
  have hown : s.vm.findClass RX11 = some m.cls := findClass_of_methodNamed B.named
  have hlocks := B.notSynchronized
  have hK := hKK.1
  have hin11 : ∀ w ∈ wsX110, w ∈ wsX11_alone := by decide +kernel
  subst hsz
  have hD := hD0.self (sz := s.heap.size)
  obtain ⟨A, hAe⟩ : ∃ A, A = va_A (wX cI cS a na nc 0 L u0) s.heap.size := ⟨_, rfl⟩
  rw [← hAe] at hD
  have hA : ∀ q : Nat, s.heap.size ≤ q → A q := fun q h => by rw [hAe]; exact Or.inr h
  have hS : va_S A s.heap s.heap [] := va_S.rf
  have hl := lv_entry ([.ref (a 0), .int x0, .int x1]) (n := 7) (Nat.le_of_ble_eq_true rfl)
  rw [lg_entry_eq]
  generalize (lg_sl ([.ref (a 0), .int x0, .int x1]) ++ List.replicate (7 - (lg_sl ([.ref (a 0), .int x0, .int x1])).length) Slot.unset).toArray = ls at hl ⊢
  have hl : lv_has ls 7 [(0, .ref (a 0)), (1, .int x0), (2, .int x1)] := hl
  obtain ⟨u, hu9⟩ : ∃ u : SU, u = u0 := ⟨_, rfl⟩
  rw [← hu9] at hP hD
  refine lv_aload_n hx hb dX11_alone_0 rfl (lv_at hl 0 rfl) ?_
  refine va_get (D := D) (ci := 11) (v := .ref (a 1)) (C := RX11) (T := TX11) (N := 16) hx hb hts hin11 hown hK hP 0 rfl rfl 0 (by decide) (hts (.fieldLink RX11 12 "MissedPoints" "net" "LMissedPoints$Net;") (by decide +kernel)) (fun _ h9 => h9) rfl dX11_alone_1 ?_
  refine lv_iload_n hx hb dX11_alone_4 rfl (lv_at hl 1 rfl) ?_
  refine wk_sv 1 (As := [.int x0]) (rest := []) ⟨hx, hb, hml, hown, hts⟩ (k_X2_hasPoint_z l D cI cS a na nc 0 L u hL (Or.inl rfl) x0) hKK hP (ci := 2) rfl rfl (cwV 1 hts gX11_alone_X2_hasPoint rfl rfl rfl (by decide +kernel) ⟨Nat.le_of_ble_eq_true rfl, Nat.le_of_ble_eq_true rfl⟩) rfl hl.1 rfl (Nat.le_of_ble_eq_true rfl) dX11_alone_5 ⟨Nat.le_of_ble_eq_true rfl, Nat.le_of_ble_eq_true rfl⟩ (fun r51534 hr51534 => ?_)
  refine lv_if_eq (tgt := 20) hx hb dX11_alone_8 (by decide) (fun c51535 => ?_) (fun c51535 => ?_)
  · have g51536 : Rg 0 0 r51534 := wk_eql hr51534.1 (by decide : Rg 0 0 (0 : Int32)) c51535 (by decide)
    exact absurd hpt (hr51534.2.2.2 c51535)
  · have g51537 : Rg 0 11 x0 := (hr51534.2.1 c51535)
    have g51538 : Rg 1 1 r51534 := rg_ne_lo (k := 0) hr51534.1 (by decide) c51535 (by decide)
    refine lv_iload_n hx hb dX11_alone_11 rfl (lv_at hl 2 rfl) ?_
    refine lv_if_eq (tgt := 23) hx hb dX11_alone_12 (by decide) (fun c51539 => ?_) (fun c51539 => ?_)
    · have g51540 : Rg 0 0 x1 := wk_eql px1 (by decide : Rg 0 0 (0 : Int32)) c51539 (by decide)
      refine lv_aload_n hx hb dX11_alone_23 rfl (lv_at hl 0 rfl) ?_
      refine va_get (D := D) (ci := 11) (v := .ref (a 7)) (C := RX11) (T := TX11) (N := 16) hx hb hts hin11 hown hK hP 0 rfl rfl 1 (by decide) (hts (.fieldLink RX11 21 "MissedPoints" "pairs" "LMissedPoints$Pairs;") (by decide +kernel)) (fun _ h9 => h9) rfl dX11_alone_24 ?_
      refine lv_aload_n hx hb dX11_alone_27 rfl (lv_at hl 0 rfl) ?_
      refine va_get (D := D) (ci := 11) (v := .ref (a 1)) (C := RX11) (T := TX11) (N := 16) hx hb hts hin11 hown hK hP 0 rfl rfl 0 (by decide) (hts (.fieldLink RX11 12 "MissedPoints" "net" "LMissedPoints$Net;") (by decide +kernel)) (fun _ h9 => h9) rfl dX11_alone_28 ?_
      refine wk_sv 1 (As := []) (rest := [.ref (a 7)]) ⟨hx, hb, hml, hown, hts⟩ (k_X2_all l D cI cS a na nc 0 L u hL (Or.inl rfl)) hKK hP (ci := 2) rfl rfl (cwV 0 hts gX11_alone_X2_all rfl rfl rfl (by decide +kernel) ⟨Nat.le_of_ble_eq_true rfl, Nat.le_of_ble_eq_true rfl⟩) rfl hl.1 rfl (Nat.le_of_ble_eq_true rfl) dX11_alone_31 ⟨Nat.le_of_ble_eq_true rfl, Nat.le_of_ble_eq_true rfl⟩ (fun r51541 hr51541 => ?_)
      refine wk_qi (wX cI cS a na nc 0 L) u (As := [.int r51541]) (rest := []) ⟨hx, hb, hml, hown, hts⟩ (k_X3_best l D cI cS _ a na nc 0 L u hL (Or.inl rfl) r51541) hKK hP hD hS hA 7 (ci := 3) rfl rfl (cwV 1 hts gX11_alone_X3_best rfl rfl rfl (by decide +kernel) ⟨Nat.le_of_ble_eq_true rfl, Nat.le_of_ble_eq_true rfl⟩) rfl hl.1 rfl (Nat.le_of_ble_eq_true rfl) dX11_alone_34 ⟨Nat.le_of_ble_eq_true rfl, Nat.le_of_ble_eq_true rfl⟩ (fun r51542 u H locs hr51542 hP hD hS => ?_)
      refine lv_istore_n (lv' := [(3, .int r51542), (0, .ref (a 0)), (1, .int x0), (2, .int x1)]) hx hb dX11_alone_37 rfl hl (by decide) rfl (fun ls hl => ?_)
      refine lv_aload_n hx hb dX11_alone_38 rfl (lv_at hl 1 rfl) ?_
      refine va_get (D := D) (ci := 11) (v := .ref (a 7)) (C := RX11) (T := TX11) (N := 16) hx hb hts hin11 hown hK hP 0 rfl rfl 1 (by decide) (hts (.fieldLink RX11 21 "MissedPoints" "pairs" "LMissedPoints$Pairs;") (by decide +kernel)) (fun _ h9 => h9) rfl dX11_alone_39 ?_
      refine lv_aload_n hx hb dX11_alone_42 rfl (lv_at hl 1 rfl) ?_
      refine va_get (D := D) (ci := 11) (v := .ref (a 1)) (C := RX11) (T := TX11) (N := 16) hx hb hts hin11 hown hK hP 0 rfl rfl 0 (by decide) (hts (.fieldLink RX11 12 "MissedPoints" "net" "LMissedPoints$Net;") (by decide +kernel)) (fun _ h9 => h9) rfl dX11_alone_43 ?_
      refine wk_sv 1 (As := []) (rest := [.ref (a 7)]) ⟨hx, hb, hml, hown, hts⟩ (k_X2_all l D cI cS a na nc 0 L u hL (Or.inl rfl)) hKK hP (ci := 2) rfl rfl (cwV 0 hts gX11_alone_X2_all rfl rfl rfl (by decide +kernel) ⟨Nat.le_of_ble_eq_true rfl, Nat.le_of_ble_eq_true rfl⟩) rfl hl.1 rfl (Nat.le_of_ble_eq_true rfl) dX11_alone_46 ⟨Nat.le_of_ble_eq_true rfl, Nat.le_of_ble_eq_true rfl⟩ (fun r51543 hr51543 => ?_)
      refine lv_iconst (v := 1) hx hb dX11_alone_49 (by decide) ?_
      refine lv_iload_n hx hb dX11_alone_50 rfl (lv_at hl 2 rfl) ?_
      refine wk_ishl1 (f := 2048) hx hb dX11_alone_51 g51537 (by decide) (fun r51544 hr51544 qr51544 => ?_)
      refine lv_iconst (v := (-1)) hx hb dX11_alone_52 (by decide) ?_
      refine lv_ixor hx hb dX11_alone_53 ?_
      refine wk_topP (P := fun r => r = r51544 ^^^ ((-1) : Int32)) rfl (fun r51545 qr51545 => ?_)
      refine wk_iandl hx hb dX11_alone_54 hr51543.1 (by decide) (fun r51546 hr51546 qr51546 => ?_)
      refine lv_iload_n hx hb dX11_alone_55 rfl (lv_at hl 0 rfl) ?_
      refine wk_qA (wX cI cS a na nc 0 L u) (S := Nat × Nat × SU) (fun q => wX cI cS a q.1 q.2.1 24576 L q.2.2) (As := [.int r51546, .int r51542]) (rest := []) ⟨hx, hb, hml, hown, hts⟩ (k_X3_number_0 l D cI cS _ a na nc L u hL r51546 r51542 hr51542.1) hKK hP hD hS hA 7 (ci := 3) rfl rfl (cwV 2 hts gX11_alone_X3_number rfl rfl rfl (by decide +kernel) ⟨Nat.le_of_ble_eq_true rfl, Nat.le_of_ble_eq_true rfl⟩) rfl hl.1 rfl (Nat.le_of_ble_eq_true rfl) dX11_alone_56 ⟨Nat.le_of_ble_eq_true rfl, Nat.le_of_ble_eq_true rfl⟩ (fun r51547 q9 H locs hr51547 hP hD hS => ?_)
      obtain ⟨na, nc, u⟩ := q9
      have hP : va_P D cls (wX cI cS a na nc 24576 L u) H := hP
      have hD : va_D A (wX cI cS a na nc 24576 L u) := hD
      have hr51547 : Rg (-2147483648) 2147483647 r51547 ∧ True := hr51547
      refine lv_istore (lv' := [(4, .int r51547), (3, .int r51542), (0, .ref (a 0)), (1, .int x0), (2, .int x1)]) hx hb dX11_alone_59 hl (by decide) rfl (fun ls hl => ?_)
      refine lv_aload_n hx hb dX11_alone_61 rfl (lv_at hl 2 rfl) ?_
      refine va_get (D := D) (ci := 11) (v := .ref (a 7)) (C := RX11) (T := TX11) (N := 16) hx hb hts hin11 hown hK hP 0 rfl rfl 1 (by decide) (hts (.fieldLink RX11 21 "MissedPoints" "pairs" "LMissedPoints$Pairs;") (by decide +kernel)) (fun _ h9 => h9) rfl dX11_alone_62 ?_
      refine lv_aload_n hx hb dX11_alone_65 rfl (lv_at hl 2 rfl) ?_
      refine va_get (D := D) (ci := 11) (v := .ref (a 1)) (C := RX11) (T := TX11) (N := 16) hx hb hts hin11 hown hK hP 0 rfl rfl 0 (by decide) (hts (.fieldLink RX11 12 "MissedPoints" "net" "LMissedPoints$Net;") (by decide +kernel)) (fun _ h9 => h9) rfl dX11_alone_66 ?_
      refine wk_sv 1 (As := []) (rest := [.ref (a 7)]) ⟨hx, hb, hml, hown, hts⟩ (k_X2_all l D cI cS a na nc 24576 L u hL (Or.inr rfl)) hKK hP (ci := 2) rfl rfl (cwV 0 hts gX11_alone_X2_all rfl rfl rfl (by decide +kernel) ⟨Nat.le_of_ble_eq_true rfl, Nat.le_of_ble_eq_true rfl⟩) rfl hl.1 rfl (Nat.le_of_ble_eq_true rfl) dX11_alone_69 ⟨Nat.le_of_ble_eq_true rfl, Nat.le_of_ble_eq_true rfl⟩ (fun r51548 hr51548 => ?_)
      refine lv_iload_n hx hb dX11_alone_72 rfl (lv_at hl 1 rfl) ?_
      refine wk_qi (wX cI cS a na nc 24576 L) u (As := [.int r51548, .int r51542]) (rest := []) ⟨hx, hb, hml, hown, hts⟩ (k_X3_number_1 l D cI cS _ a na nc L u hL r51548 r51542 hr51542.1) hKK hP hD hS hA 7 (ci := 3) rfl rfl (cwV 2 hts gX11_alone_X3_number rfl rfl rfl (by decide +kernel) ⟨Nat.le_of_ble_eq_true rfl, Nat.le_of_ble_eq_true rfl⟩) rfl hl.1 rfl (Nat.le_of_ble_eq_true rfl) dX11_alone_73 ⟨Nat.le_of_ble_eq_true rfl, Nat.le_of_ble_eq_true rfl⟩ (fun r51549 u H locs hr51549 hP hD hS => ?_)
      refine lv_istore (lv' := [(5, .int r51549), (4, .int r51547), (3, .int r51542), (0, .ref (a 0)), (1, .int x0), (2, .int x1)]) hx hb dX11_alone_76 hl (by decide) rfl (fun ls hl => ?_)
      refine lv_iload hx hb dX11_alone_78 (lv_at hl 1 rfl) ?_
      refine lv_iload hx hb dX11_alone_80 (lv_at hl 0 rfl) ?_
      refine lz_ss (As := [.int r51547, .int r51549]) (rest := []) ⟨hx, hb, hml, hown, hts⟩ (k_X11_greatestDivisor l D cI cS r51547 r51549) hKK (hP.sub (ws' := []) [] rfl) (va_cwS 2 hts gX11_alone_X11_greatestDivisor rfl rfl rfl (by decide +kernel) ⟨Nat.le_of_ble_eq_true rfl, Nat.le_of_ble_eq_true rfl⟩) rfl hl.1 rfl (Nat.le_of_ble_eq_true rfl) dX11_alone_82 ⟨Nat.le_of_ble_eq_true rfl, Nat.le_of_ble_eq_true rfl⟩ (fun r51550 hr51550 => ?_)
      refine lv_istore (lv' := [(6, .int r51550), (5, .int r51549), (4, .int r51547), (3, .int r51542), (0, .ref (a 0)), (1, .int x0), (2, .int x1)]) hx hb dX11_alone_85 hl (by decide) rfl (fun ls hl => ?_)
      refine lv_iload hx hb dX11_alone_87 (lv_at hl 0 rfl) ?_
      refine lv_iconst (v := 1) hx hb dX11_alone_89 (by decide) ?_
      refine lv_icmp_ge (tgt := 96) hx hb dX11_alone_90 (by decide) (fun c51551 => ?_) (fun c51551 => ?_)
      · have g51552 : Rg 1 2147483647 r51550 := rg_ler (by decide : Rg 1 1 (1 : Int32)) hr51550.1 c51551 (by decide)
        refine lv_iload_n hx hb dX11_alone_96 rfl (lv_at hl 6 rfl) ?_
        refine lv_if_ne (tgt := 105) hx hb dX11_alone_97 (by decide) (fun c51553 => ?_) (fun c51553 => ?_)
        · exact absurd (wk_yeq g51540 (by decide : Rg 0 0 (0 : Int32)) (by decide)) c51553
        · refine lv_iload hx hb dX11_alone_100 (lv_at hl 2 rfl) ?_
          refine lv_goto (tgt := 107) hx hb dX11_alone_102 (by decide) ?_
          refine lv_iload hx hb dX11_alone_107 (lv_at hl 0 rfl) ?_
          refine lv_idiv hx hb dX11_alone_109 (wk_nz g51552 (by decide)) ?_
          refine wk_any (fun r51554 => ?_)
          subst hAe
          refine W.widen (k := 2) (n := 24578) (Nat.le_of_ble_eq_true rfl) (Nat.le_of_ble_eq_true rfl) ?_
          exact W.iret (v := r51554) hx hb hr (fun t ht hW => ⟨⟨_, (na, nc, u), rfl, ⟨(rg_any r51554), trivial⟩, by rw [ht]; exact hP, hD⟩, hS.F ht⟩) hS.2.2 dX11_alone_110
      · have g51555 : Rg (-2147483648) 0 r51550 := rg_ltl hr51550.1 (by decide : Rg 1 1 (1 : Int32)) (rg_nle c51551) (by decide)
        refine lv_bipush (v := (-2)) hx hb dX11_alone_93 (by decide) ?_
        subst hAe
        refine W.widen (k := 2) (n := 24578) (Nat.le_of_ble_eq_true rfl) (Nat.le_of_ble_eq_true rfl) ?_
        exact W.iret (v := (-2)) hx hb hr (fun t ht hW => ⟨⟨_, (na, nc, u), rfl, ⟨(by decide : Rg (-2147483648) 2147483647 ((-2) : Int32)), trivial⟩, by rw [ht]; exact hP, hD⟩, hS.F ht⟩) hS.2.2 dX11_alone_95
    · have g51556 : Rg 1 1 x1 := rg_ne_lo (k := 0) px1 (by decide) c51539 (by decide)
      refine lv_iload_n hx hb dX11_alone_15 rfl (lv_at hl 2 rfl) ?_
      refine lv_iconst (v := 1) hx hb dX11_alone_16 (by decide) ?_
      refine lv_icmp_eq (tgt := 23) hx hb dX11_alone_17 (by decide) (fun c51557 => ?_) (fun c51557 => ?_)
      · refine lv_aload_n hx hb dX11_alone_23 rfl (lv_at hl 0 rfl) ?_
        refine va_get (D := D) (ci := 11) (v := .ref (a 7)) (C := RX11) (T := TX11) (N := 16) hx hb hts hin11 hown hK hP 0 rfl rfl 1 (by decide) (hts (.fieldLink RX11 21 "MissedPoints" "pairs" "LMissedPoints$Pairs;") (by decide +kernel)) (fun _ h9 => h9) rfl dX11_alone_24 ?_
        refine lv_aload_n hx hb dX11_alone_27 rfl (lv_at hl 0 rfl) ?_
        refine va_get (D := D) (ci := 11) (v := .ref (a 1)) (C := RX11) (T := TX11) (N := 16) hx hb hts hin11 hown hK hP 0 rfl rfl 0 (by decide) (hts (.fieldLink RX11 12 "MissedPoints" "net" "LMissedPoints$Net;") (by decide +kernel)) (fun _ h9 => h9) rfl dX11_alone_28 ?_
        refine wk_sv 1 (As := []) (rest := [.ref (a 7)]) ⟨hx, hb, hml, hown, hts⟩ (k_X2_all l D cI cS a na nc 0 L u hL (Or.inl rfl)) hKK hP (ci := 2) rfl rfl (cwV 0 hts gX11_alone_X2_all rfl rfl rfl (by decide +kernel) ⟨Nat.le_of_ble_eq_true rfl, Nat.le_of_ble_eq_true rfl⟩) rfl hl.1 rfl (Nat.le_of_ble_eq_true rfl) dX11_alone_31 ⟨Nat.le_of_ble_eq_true rfl, Nat.le_of_ble_eq_true rfl⟩ (fun r51558 hr51558 => ?_)
        refine wk_qi (wX cI cS a na nc 0 L) u (As := [.int r51558]) (rest := []) ⟨hx, hb, hml, hown, hts⟩ (k_X3_best l D cI cS _ a na nc 0 L u hL (Or.inl rfl) r51558) hKK hP hD hS hA 7 (ci := 3) rfl rfl (cwV 1 hts gX11_alone_X3_best rfl rfl rfl (by decide +kernel) ⟨Nat.le_of_ble_eq_true rfl, Nat.le_of_ble_eq_true rfl⟩) rfl hl.1 rfl (Nat.le_of_ble_eq_true rfl) dX11_alone_34 ⟨Nat.le_of_ble_eq_true rfl, Nat.le_of_ble_eq_true rfl⟩ (fun r51559 u H locs hr51559 hP hD hS => ?_)
        refine lv_istore_n (lv' := [(3, .int r51559), (0, .ref (a 0)), (1, .int x0), (2, .int x1)]) hx hb dX11_alone_37 rfl hl (by decide) rfl (fun ls hl => ?_)
        refine lv_aload_n hx hb dX11_alone_38 rfl (lv_at hl 1 rfl) ?_
        refine va_get (D := D) (ci := 11) (v := .ref (a 7)) (C := RX11) (T := TX11) (N := 16) hx hb hts hin11 hown hK hP 0 rfl rfl 1 (by decide) (hts (.fieldLink RX11 21 "MissedPoints" "pairs" "LMissedPoints$Pairs;") (by decide +kernel)) (fun _ h9 => h9) rfl dX11_alone_39 ?_
        refine lv_aload_n hx hb dX11_alone_42 rfl (lv_at hl 1 rfl) ?_
        refine va_get (D := D) (ci := 11) (v := .ref (a 1)) (C := RX11) (T := TX11) (N := 16) hx hb hts hin11 hown hK hP 0 rfl rfl 0 (by decide) (hts (.fieldLink RX11 12 "MissedPoints" "net" "LMissedPoints$Net;") (by decide +kernel)) (fun _ h9 => h9) rfl dX11_alone_43 ?_
        refine wk_sv 1 (As := []) (rest := [.ref (a 7)]) ⟨hx, hb, hml, hown, hts⟩ (k_X2_all l D cI cS a na nc 0 L u hL (Or.inl rfl)) hKK hP (ci := 2) rfl rfl (cwV 0 hts gX11_alone_X2_all rfl rfl rfl (by decide +kernel) ⟨Nat.le_of_ble_eq_true rfl, Nat.le_of_ble_eq_true rfl⟩) rfl hl.1 rfl (Nat.le_of_ble_eq_true rfl) dX11_alone_46 ⟨Nat.le_of_ble_eq_true rfl, Nat.le_of_ble_eq_true rfl⟩ (fun r51560 hr51560 => ?_)
        refine lv_iconst (v := 1) hx hb dX11_alone_49 (by decide) ?_
        refine lv_iload_n hx hb dX11_alone_50 rfl (lv_at hl 2 rfl) ?_
        refine wk_ishl1 (f := 2048) hx hb dX11_alone_51 g51537 (by decide) (fun r51561 hr51561 qr51561 => ?_)
        refine lv_iconst (v := (-1)) hx hb dX11_alone_52 (by decide) ?_
        refine lv_ixor hx hb dX11_alone_53 ?_
        refine wk_topP (P := fun r => r = r51561 ^^^ ((-1) : Int32)) rfl (fun r51562 qr51562 => ?_)
        refine wk_iandl hx hb dX11_alone_54 hr51560.1 (by decide) (fun r51563 hr51563 qr51563 => ?_)
        refine lv_iload_n hx hb dX11_alone_55 rfl (lv_at hl 0 rfl) ?_
        refine wk_qA (wX cI cS a na nc 0 L u) (S := Nat × Nat × SU) (fun q => wX cI cS a q.1 q.2.1 24576 L q.2.2) (As := [.int r51563, .int r51559]) (rest := []) ⟨hx, hb, hml, hown, hts⟩ (k_X3_number_0 l D cI cS _ a na nc L u hL r51563 r51559 hr51559.1) hKK hP hD hS hA 7 (ci := 3) rfl rfl (cwV 2 hts gX11_alone_X3_number rfl rfl rfl (by decide +kernel) ⟨Nat.le_of_ble_eq_true rfl, Nat.le_of_ble_eq_true rfl⟩) rfl hl.1 rfl (Nat.le_of_ble_eq_true rfl) dX11_alone_56 ⟨Nat.le_of_ble_eq_true rfl, Nat.le_of_ble_eq_true rfl⟩ (fun r51564 q9 H locs hr51564 hP hD hS => ?_)
        obtain ⟨na, nc, u⟩ := q9
        have hP : va_P D cls (wX cI cS a na nc 24576 L u) H := hP
        have hD : va_D A (wX cI cS a na nc 24576 L u) := hD
        have hr51564 : Rg (-2147483648) 2147483647 r51564 ∧ True := hr51564
        refine lv_istore (lv' := [(4, .int r51564), (3, .int r51559), (0, .ref (a 0)), (1, .int x0), (2, .int x1)]) hx hb dX11_alone_59 hl (by decide) rfl (fun ls hl => ?_)
        refine lv_aload_n hx hb dX11_alone_61 rfl (lv_at hl 2 rfl) ?_
        refine va_get (D := D) (ci := 11) (v := .ref (a 7)) (C := RX11) (T := TX11) (N := 16) hx hb hts hin11 hown hK hP 0 rfl rfl 1 (by decide) (hts (.fieldLink RX11 21 "MissedPoints" "pairs" "LMissedPoints$Pairs;") (by decide +kernel)) (fun _ h9 => h9) rfl dX11_alone_62 ?_
        refine lv_aload_n hx hb dX11_alone_65 rfl (lv_at hl 2 rfl) ?_
        refine va_get (D := D) (ci := 11) (v := .ref (a 1)) (C := RX11) (T := TX11) (N := 16) hx hb hts hin11 hown hK hP 0 rfl rfl 0 (by decide) (hts (.fieldLink RX11 12 "MissedPoints" "net" "LMissedPoints$Net;") (by decide +kernel)) (fun _ h9 => h9) rfl dX11_alone_66 ?_
        refine wk_sv 1 (As := []) (rest := [.ref (a 7)]) ⟨hx, hb, hml, hown, hts⟩ (k_X2_all l D cI cS a na nc 24576 L u hL (Or.inr rfl)) hKK hP (ci := 2) rfl rfl (cwV 0 hts gX11_alone_X2_all rfl rfl rfl (by decide +kernel) ⟨Nat.le_of_ble_eq_true rfl, Nat.le_of_ble_eq_true rfl⟩) rfl hl.1 rfl (Nat.le_of_ble_eq_true rfl) dX11_alone_69 ⟨Nat.le_of_ble_eq_true rfl, Nat.le_of_ble_eq_true rfl⟩ (fun r51565 hr51565 => ?_)
        refine lv_iload_n hx hb dX11_alone_72 rfl (lv_at hl 1 rfl) ?_
        refine wk_qi (wX cI cS a na nc 24576 L) u (As := [.int r51565, .int r51559]) (rest := []) ⟨hx, hb, hml, hown, hts⟩ (k_X3_number_1 l D cI cS _ a na nc L u hL r51565 r51559 hr51559.1) hKK hP hD hS hA 7 (ci := 3) rfl rfl (cwV 2 hts gX11_alone_X3_number rfl rfl rfl (by decide +kernel) ⟨Nat.le_of_ble_eq_true rfl, Nat.le_of_ble_eq_true rfl⟩) rfl hl.1 rfl (Nat.le_of_ble_eq_true rfl) dX11_alone_73 ⟨Nat.le_of_ble_eq_true rfl, Nat.le_of_ble_eq_true rfl⟩ (fun r51566 u H locs hr51566 hP hD hS => ?_)
        refine lv_istore (lv' := [(5, .int r51566), (4, .int r51564), (3, .int r51559), (0, .ref (a 0)), (1, .int x0), (2, .int x1)]) hx hb dX11_alone_76 hl (by decide) rfl (fun ls hl => ?_)
        refine lv_iload hx hb dX11_alone_78 (lv_at hl 1 rfl) ?_
        refine lv_iload hx hb dX11_alone_80 (lv_at hl 0 rfl) ?_
        refine lz_ss (As := [.int r51564, .int r51566]) (rest := []) ⟨hx, hb, hml, hown, hts⟩ (k_X11_greatestDivisor l D cI cS r51564 r51566) hKK (hP.sub (ws' := []) [] rfl) (va_cwS 2 hts gX11_alone_X11_greatestDivisor rfl rfl rfl (by decide +kernel) ⟨Nat.le_of_ble_eq_true rfl, Nat.le_of_ble_eq_true rfl⟩) rfl hl.1 rfl (Nat.le_of_ble_eq_true rfl) dX11_alone_82 ⟨Nat.le_of_ble_eq_true rfl, Nat.le_of_ble_eq_true rfl⟩ (fun r51567 hr51567 => ?_)
        refine lv_istore (lv' := [(6, .int r51567), (5, .int r51566), (4, .int r51564), (3, .int r51559), (0, .ref (a 0)), (1, .int x0), (2, .int x1)]) hx hb dX11_alone_85 hl (by decide) rfl (fun ls hl => ?_)
        refine lv_iload hx hb dX11_alone_87 (lv_at hl 0 rfl) ?_
        refine lv_iconst (v := 1) hx hb dX11_alone_89 (by decide) ?_
        refine lv_icmp_ge (tgt := 96) hx hb dX11_alone_90 (by decide) (fun c51568 => ?_) (fun c51568 => ?_)
        · have g51569 : Rg 1 2147483647 r51567 := rg_ler (by decide : Rg 1 1 (1 : Int32)) hr51567.1 c51568 (by decide)
          refine lv_iload_n hx hb dX11_alone_96 rfl (lv_at hl 6 rfl) ?_
          refine lv_if_ne (tgt := 105) hx hb dX11_alone_97 (by decide) (fun c51570 => ?_) (fun c51570 => ?_)
          · refine lv_iload hx hb dX11_alone_105 (lv_at hl 1 rfl) ?_
            refine lv_iload hx hb dX11_alone_107 (lv_at hl 0 rfl) ?_
            refine lv_idiv hx hb dX11_alone_109 (wk_nz g51569 (by decide)) ?_
            refine wk_any (fun r51571 => ?_)
            subst hAe
            refine W.widen (k := 2) (n := 24578) (Nat.le_of_ble_eq_true rfl) (Nat.le_of_ble_eq_true rfl) ?_
            exact W.iret (v := r51571) hx hb hr (fun t ht hW => ⟨⟨_, (na, nc, u), rfl, ⟨(rg_any r51571), trivial⟩, by rw [ht]; exact hP, hD⟩, hS.F ht⟩) hS.2.2 dX11_alone_110
          · exact absurd c51570 (wk_neq g51556 (by decide : Rg 0 0 (0 : Int32)) (by decide))
        · have g51572 : Rg (-2147483648) 0 r51567 := rg_ltl hr51567.1 (by decide : Rg 1 1 (1 : Int32)) (rg_nle c51568) (by decide)
          refine lv_bipush (v := (-2)) hx hb dX11_alone_93 (by decide) ?_
          subst hAe
          refine W.widen (k := 2) (n := 24578) (Nat.le_of_ble_eq_true rfl) (Nat.le_of_ble_eq_true rfl) ?_
          exact W.iret (v := (-2)) hx hb hr (fun t ht hW => ⟨⟨_, (na, nc, u), rfl, ⟨(by decide : Rg (-2147483648) 2147483647 ((-2) : Int32)), trivial⟩, by rw [ht]; exact hP, hD⟩, hS.F ht⟩) hS.2.2 dX11_alone_95
      · exact absurd (wk_yeq g51556 (by decide : Rg 1 1 (1 : Int32)) (by decide)) c51557
theorem dX11_alone_22 : decode cX11_alone 22 = .ok (.ireturn, 1) := by decide +kernel
set_option maxHeartbeats 4000000 in
set_option maxRecDepth 100000 in
theorem k_X11_alone_b1 (l : Launch) (D : va_G) (cI cS : ClassId) (a : Nat → Nat) (na nc N : Nat) (L u : SU) (hL : TyX L) (hN : N = 0 ∨ N = 24576) (x0 x1 : Int32) (px1 : Rg (-2147483648) (-1) x1) : Met l yX11_alone wsX11_alone ({ frames := 1, cells := 0, slots := 0, locals := 40 }) (PS D cI cS (wX cI cS a na nc N L u) [.ref (a 0), .int x0, .int x1]) (vp_Si (fun r => Rg (-2) (-2) r ∧ True)) 0 0 (fun _ => False) := by
  refine Met.ofW (cc := cX11_alone) (maxL := 7) (ret := (some .int)) (by decide) rfl ?_
  intro p e s m args below meth c s₁ B hml hv
  obtain ⟨rfl, hP, hKK⟩ := hv
  have hx := B.exec
  have hb := B.bytes
  have hr := B.returns
  have hts := atoms_spec (ws := wsX11_alone) B.pre
  have hown : s.vm.findClass RX11 = some m.cls := findClass_of_methodNamed B.named
  have hlocks := B.notSynchronized
  have hK := hKK.1
  have hin11 : ∀ w ∈ wsX110, w ∈ wsX11_alone := by decide +kernel
  have hl := lv_entry ([.ref (a 0), .int x0, .int x1]) (n := 7) (Nat.le_of_ble_eq_true rfl)
  rw [lg_entry_eq]
  generalize (lg_sl ([.ref (a 0), .int x0, .int x1]) ++ List.replicate (7 - (lg_sl ([.ref (a 0), .int x0, .int x1])).length) Slot.unset).toArray = ls at hl ⊢
  have hl : lv_has ls 7 [(0, .ref (a 0)), (1, .int x0), (2, .int x1)] := hl
  refine lv_aload_n hx hb dX11_alone_0 rfl (lv_at hl 0 rfl) ?_
  refine va_get (D := D) (ci := 11) (v := .ref (a 1)) (C := RX11) (T := TX11) (N := 16) hx hb hts hin11 hown hK hP 0 rfl rfl 0 (by decide) (hts (.fieldLink RX11 12 "MissedPoints" "net" "LMissedPoints$Net;") (by decide +kernel)) (fun _ h9 => h9) rfl dX11_alone_1 ?_
  refine lv_iload_n hx hb dX11_alone_4 rfl (lv_at hl 1 rfl) ?_
  refine wk_sv 1 (As := [.int x0]) (rest := []) ⟨hx, hb, hml, hown, hts⟩ (k_X2_hasPoint l D cI cS a na nc N L u hL hN x0) hKK hP (ci := 2) rfl rfl (cwV 1 hts gX11_alone_X2_hasPoint rfl rfl rfl (by decide +kernel) ⟨Nat.le_of_ble_eq_true rfl, Nat.le_of_ble_eq_true rfl⟩) rfl hl.1 rfl (Nat.le_of_ble_eq_true rfl) dX11_alone_5 ⟨Nat.le_of_ble_eq_true rfl, Nat.le_of_ble_eq_true rfl⟩ (fun r51580 hr51580 => ?_)
  refine lv_if_eq (tgt := 20) hx hb dX11_alone_8 (by decide) (fun c51581 => ?_) (fun c51581 => ?_)
  · have g51582 : Rg 0 0 r51580 := wk_eql hr51580.1 (by decide : Rg 0 0 (0 : Int32)) c51581 (by decide)
    refine lv_bipush (v := (-2)) hx hb dX11_alone_20 (by decide) ?_
    exact W.iret (v := (-2)) hx hb hr (fun t ht hW => ⟨_, rfl, ⟨(by decide : Rg (-2) (-2) ((-2) : Int32)), trivial⟩, ht⟩) (fun q hq => absurd hq List.not_mem_nil) dX11_alone_22
  · have g51583 : Rg 0 11 x0 := (hr51580.2 c51581)
    have g51584 : Rg 1 1 r51580 := rg_ne_lo (k := 0) hr51580.1 (by decide) c51581 (by decide)
    refine lv_iload_n hx hb dX11_alone_11 rfl (lv_at hl 2 rfl) ?_
    refine lv_if_eq (tgt := 23) hx hb dX11_alone_12 (by decide) (fun c51585 => ?_) (fun c51585 => ?_)
    · exact absurd c51585 (wk_neq px1 (by decide : Rg 0 0 (0 : Int32)) (by decide))
    · refine lv_iload_n hx hb dX11_alone_15 rfl (lv_at hl 2 rfl) ?_
      refine lv_iconst (v := 1) hx hb dX11_alone_16 (by decide) ?_
      refine lv_icmp_eq (tgt := 23) hx hb dX11_alone_17 (by decide) (fun c51586 => ?_) (fun c51586 => ?_)
      · exact absurd c51586 (wk_neq px1 (by decide : Rg 1 1 (1 : Int32)) (by decide))
      · refine lv_bipush (v := (-2)) hx hb dX11_alone_20 (by decide) ?_
        exact W.iret (v := (-2)) hx hb hr (fun t ht hW => ⟨_, rfl, ⟨(by decide : Rg (-2) (-2) ((-2) : Int32)), trivial⟩, ht⟩) (fun q hq => absurd hq List.not_mem_nil) dX11_alone_22
set_option maxHeartbeats 4000000 in
set_option maxRecDepth 100000 in
theorem k_X11_alone_b2 (l : Launch) (D : va_G) (cI cS : ClassId) (a : Nat → Nat) (na nc N : Nat) (L u : SU) (hL : TyX L) (hN : N = 0 ∨ N = 24576) (x0 x1 : Int32) (px1 : Rg 2 2147483647 x1) : Met l yX11_alone wsX11_alone ({ frames := 1, cells := 0, slots := 0, locals := 40 }) (PS D cI cS (wX cI cS a na nc N L u) [.ref (a 0), .int x0, .int x1]) (vp_Si (fun r => Rg (-2) (-2) r ∧ True)) 0 0 (fun _ => False) := by
  refine Met.ofW (cc := cX11_alone) (maxL := 7) (ret := (some .int)) (by decide) rfl ?_
  intro p e s m args below meth c s₁ B hml hv
  obtain ⟨rfl, hP, hKK⟩ := hv
  have hx := B.exec
  have hb := B.bytes
  have hr := B.returns
  have hts := atoms_spec (ws := wsX11_alone) B.pre
  have hown : s.vm.findClass RX11 = some m.cls := findClass_of_methodNamed B.named
  have hlocks := B.notSynchronized
  have hK := hKK.1
  have hin11 : ∀ w ∈ wsX110, w ∈ wsX11_alone := by decide +kernel
  have hl := lv_entry ([.ref (a 0), .int x0, .int x1]) (n := 7) (Nat.le_of_ble_eq_true rfl)
  rw [lg_entry_eq]
  generalize (lg_sl ([.ref (a 0), .int x0, .int x1]) ++ List.replicate (7 - (lg_sl ([.ref (a 0), .int x0, .int x1])).length) Slot.unset).toArray = ls at hl ⊢
  have hl : lv_has ls 7 [(0, .ref (a 0)), (1, .int x0), (2, .int x1)] := hl
  refine lv_aload_n hx hb dX11_alone_0 rfl (lv_at hl 0 rfl) ?_
  refine va_get (D := D) (ci := 11) (v := .ref (a 1)) (C := RX11) (T := TX11) (N := 16) hx hb hts hin11 hown hK hP 0 rfl rfl 0 (by decide) (hts (.fieldLink RX11 12 "MissedPoints" "net" "LMissedPoints$Net;") (by decide +kernel)) (fun _ h9 => h9) rfl dX11_alone_1 ?_
  refine lv_iload_n hx hb dX11_alone_4 rfl (lv_at hl 1 rfl) ?_
  refine wk_sv 1 (As := [.int x0]) (rest := []) ⟨hx, hb, hml, hown, hts⟩ (k_X2_hasPoint l D cI cS a na nc N L u hL hN x0) hKK hP (ci := 2) rfl rfl (cwV 1 hts gX11_alone_X2_hasPoint rfl rfl rfl (by decide +kernel) ⟨Nat.le_of_ble_eq_true rfl, Nat.le_of_ble_eq_true rfl⟩) rfl hl.1 rfl (Nat.le_of_ble_eq_true rfl) dX11_alone_5 ⟨Nat.le_of_ble_eq_true rfl, Nat.le_of_ble_eq_true rfl⟩ (fun r51594 hr51594 => ?_)
  refine lv_if_eq (tgt := 20) hx hb dX11_alone_8 (by decide) (fun c51595 => ?_) (fun c51595 => ?_)
  · have g51596 : Rg 0 0 r51594 := wk_eql hr51594.1 (by decide : Rg 0 0 (0 : Int32)) c51595 (by decide)
    refine lv_bipush (v := (-2)) hx hb dX11_alone_20 (by decide) ?_
    exact W.iret (v := (-2)) hx hb hr (fun t ht hW => ⟨_, rfl, ⟨(by decide : Rg (-2) (-2) ((-2) : Int32)), trivial⟩, ht⟩) (fun q hq => absurd hq List.not_mem_nil) dX11_alone_22
  · have g51597 : Rg 0 11 x0 := (hr51594.2 c51595)
    have g51598 : Rg 1 1 r51594 := rg_ne_lo (k := 0) hr51594.1 (by decide) c51595 (by decide)
    refine lv_iload_n hx hb dX11_alone_11 rfl (lv_at hl 2 rfl) ?_
    refine lv_if_eq (tgt := 23) hx hb dX11_alone_12 (by decide) (fun c51599 => ?_) (fun c51599 => ?_)
    · exact absurd c51599 (wk_neq px1 (by decide : Rg 0 0 (0 : Int32)) (by decide))
    · refine lv_iload_n hx hb dX11_alone_15 rfl (lv_at hl 2 rfl) ?_
      refine lv_iconst (v := 1) hx hb dX11_alone_16 (by decide) ?_
      refine lv_icmp_eq (tgt := 23) hx hb dX11_alone_17 (by decide) (fun c51600 => ?_) (fun c51600 => ?_)
      · exact absurd c51600 (wk_neq px1 (by decide : Rg 1 1 (1 : Int32)) (by decide))
      · refine lv_bipush (v := (-2)) hx hb dX11_alone_20 (by decide) ?_
        exact W.iret (v := (-2)) hx hb hr (fun t ht hW => ⟨_, rfl, ⟨(by decide : Rg (-2) (-2) ((-2) : Int32)), trivial⟩, ht⟩) (fun q hq => absurd hq List.not_mem_nil) dX11_alone_22
set_option maxHeartbeats 4000000 in
set_option maxRecDepth 100000 in
theorem k_X11_alone_b3 (l : Launch) (D : va_G) (cI cS : ClassId) (a : Nat → Nat) (na nc N : Nat) (L u : SU) (hL : TyX L) (hN : N = 0 ∨ N = 24576) (x0 x1 : Int32) (hpn : ¬ (0 ≤ x0.toInt ∧ x0.toInt < (L 1 1).toInt)) : Met l yX11_alone wsX11_alone ({ frames := 1, cells := 0, slots := 0, locals := 40 }) (PS D cI cS (wX cI cS a na nc N L u) [.ref (a 0), .int x0, .int x1]) (vp_Si (fun r => Rg (-2) (-2) r ∧ True)) 0 0 (fun _ => False) := by
  refine Met.ofW (cc := cX11_alone) (maxL := 7) (ret := (some .int)) (by decide) rfl ?_
  intro p e s m args below meth c s₁ B hml hv
  obtain ⟨rfl, hP, hKK⟩ := hv
  have hx := B.exec
  have hb := B.bytes
  have hr := B.returns
  have hts := atoms_spec (ws := wsX11_alone) B.pre
  have hown : s.vm.findClass RX11 = some m.cls := findClass_of_methodNamed B.named
  have hlocks := B.notSynchronized
  have hK := hKK.1
  have hin11 : ∀ w ∈ wsX110, w ∈ wsX11_alone := by decide +kernel
  have hl := lv_entry ([.ref (a 0), .int x0, .int x1]) (n := 7) (Nat.le_of_ble_eq_true rfl)
  rw [lg_entry_eq]
  generalize (lg_sl ([.ref (a 0), .int x0, .int x1]) ++ List.replicate (7 - (lg_sl ([.ref (a 0), .int x0, .int x1])).length) Slot.unset).toArray = ls at hl ⊢
  have hl : lv_has ls 7 [(0, .ref (a 0)), (1, .int x0), (2, .int x1)] := hl
  refine lv_aload_n hx hb dX11_alone_0 rfl (lv_at hl 0 rfl) ?_
  refine va_get (D := D) (ci := 11) (v := .ref (a 1)) (C := RX11) (T := TX11) (N := 16) hx hb hts hin11 hown hK hP 0 rfl rfl 0 (by decide) (hts (.fieldLink RX11 12 "MissedPoints" "net" "LMissedPoints$Net;") (by decide +kernel)) (fun _ h9 => h9) rfl dX11_alone_1 ?_
  refine lv_iload_n hx hb dX11_alone_4 rfl (lv_at hl 1 rfl) ?_
  refine wk_sv 1 (As := [.int x0]) (rest := []) ⟨hx, hb, hml, hown, hts⟩ (k_X2_hasPoint_z l D cI cS a na nc N L u hL hN x0) hKK hP (ci := 2) rfl rfl (cwV 1 hts gX11_alone_X2_hasPoint rfl rfl rfl (by decide +kernel) ⟨Nat.le_of_ble_eq_true rfl, Nat.le_of_ble_eq_true rfl⟩) rfl hl.1 rfl (Nat.le_of_ble_eq_true rfl) dX11_alone_5 ⟨Nat.le_of_ble_eq_true rfl, Nat.le_of_ble_eq_true rfl⟩ (fun r51606 hr51606 => ?_)
  refine lv_if_eq (tgt := 20) hx hb dX11_alone_8 (by decide) (fun c51607 => ?_) (fun c51607 => ?_)
  · have g51608 : Rg 0 0 r51606 := wk_eql hr51606.1 (by decide : Rg 0 0 (0 : Int32)) c51607 (by decide)
    refine lv_bipush (v := (-2)) hx hb dX11_alone_20 (by decide) ?_
    exact W.iret (v := (-2)) hx hb hr (fun t ht hW => ⟨_, rfl, ⟨(by decide : Rg (-2) (-2) ((-2) : Int32)), trivial⟩, ht⟩) (fun q hq => absurd hq List.not_mem_nil) dX11_alone_22
  · have g51609 : Rg 0 11 x0 := (hr51606.2.1 c51607)
    have g51610 : Rg 1 1 r51606 := rg_ne_lo (k := 0) hr51606.1 (by decide) c51607 (by decide)
    exact absurd (hr51606.2.2.1 c51607) hpn
set_option maxHeartbeats 4000000 in
set_option maxRecDepth 100000 in
theorem k_X9_readFrom_z (l : Launch) (D : va_G) (cI cS : ClassId) (sz : Nat) (a : Nat → Nat) (na nc N : Nat) (L u0 : SU) (hL : TyX L) (hN : N = 0 ∨ N = 24576) (q : Nat) (hq : q < 4) : Met l yX9_readFrom wsX9_readFrom ({ frames := 3, cells := 0, slots := 0, locals := 120 }) (PQ D cI cS (wX cI cS a na nc N L u0) sz [.ref (a 34), .ref (a (26 + 2 * q))]) (QF (S := SU) D (wX cI cS a na nc N L u0) (wX cI cS a na nc N L) sz (fun r _ => Rg 0 1 r ∧ (r ≠ 0 → (L (26 + 2 * q) 2).toInt = (L 1 1).toInt))) 0 0 (va_A (wX cI cS a na nc N L u0) sz) := by
  refine Met.ofW (cc := cX9_readFrom) (maxL := 4) (ret := (some .boolean)) (by decide) rfl ?_
  intro p e s m args below meth c s₁ B hml hv
  obtain ⟨rfl, hsz, hP, hKK, hD0⟩ := hv
  have hx := B.exec
  have hb := B.bytes
  have hr := B.returns
  have hts := atoms_spec (ws := wsX9_readFrom) B.pre
  have hown : s.vm.findClass RX9 = some m.cls := findClass_of_methodNamed B.named
  have hlocks := B.notSynchronized
  have hK := hKK.1
  have hin2 : ∀ w ∈ wsX20, w ∈ wsX9_readFrom := by decide +kernel
  have hin6 : ∀ w ∈ wsX60, w ∈ wsX9_readFrom := by decide +kernel
  have hin9 : ∀ w ∈ wsX90, w ∈ wsX9_readFrom := by decide +kernel
  subst hsz
  have hD := hD0.self (sz := s.heap.size)
  obtain ⟨A, hAe⟩ : ∃ A, A = va_A (wX cI cS a na nc N L u0) s.heap.size := ⟨_, rfl⟩
  rw [← hAe] at hD
  have hA : ∀ q : Nat, s.heap.size ≤ q → A q := fun q h => by rw [hAe]; exact Or.inr h
  have hS : va_S A s.heap s.heap [] := va_S.rf
  have hl := lv_entry ([.ref (a 34), .ref (a (26 + 2 * q))]) (n := 4) (Nat.le_of_ble_eq_true rfl)
  rw [lg_entry_eq]
  generalize (lg_sl ([.ref (a 34), .ref (a (26 + 2 * q))]) ++ List.replicate (4 - (lg_sl ([.ref (a 34), .ref (a (26 + 2 * q))])).length) Slot.unset).toArray = ls at hl ⊢
  have hl : lv_has ls 4 [(0, .ref (a 34)), (1, .ref (a (26 + 2 * q)))] := hl
  obtain ⟨u, hu9⟩ : ∃ u : SU, u = u0 := ⟨_, rfl⟩
  rw [← hu9] at hP hD
  have lp71 : ∀ (n71 : Nat) (y71_l2 : Int32) (u : SU) (H : Heap) (locs : List Loc) (ls : Array Slot), Rg 0 12 y71_l2 → ((L (26 + 2 * q) 2).toInt = (L 1 1).toInt) → va_P D cls (wX cI cS a na nc N L u) H → va_D A (wX cI cS a na nc N L u) → va_S A s.heap H locs → lv_has ls 4 [(0, .ref (a 34)), (1, .ref (a (26 + 2 * q))), (2, .int y71_l2)] → 12 - y71_l2.toInt < (n71 : Int) → W p l e (headSpec wsX9_readFrom ({ frames := 3, cells := 0, slots := 0, locals := 120 })).room s m ([.ref (a 34), .ref (a (26 + 2 * q))]).toArray below meth c H locs 0 0 (MQ below (QF (S := SU) D (wX cI cS a na nc N L u0) (wX cI cS a na nc N L) s.heap.size (fun r _ => Rg 0 1 r ∧ (r ≠ 0 → (L (26 + 2 * q) 2).toInt = (L 1 1).toInt))) ([.ref (a 34), .ref (a (26 + 2 * q))]).toArray s 0 0 (va_A (wX cI cS a na nc N L u0) s.heap.size)) (F0 m 71 ls []) := by
    intro n71
    induction n71 with
    | zero =>
      intro y71_l2 u H locs ls g71_l2 x71_0 hP hD hS hl hm71
      exact absurd rfl (me_z g71_l2 hm71)
    | succ n71 ih71 =>
      intro y71_l2 u H locs ls g71_l2 x71_0 hP hD hS hl hm71
      refine lv_iload_n hx hb dX9_readFrom_71 rfl (lv_at hl 2 rfl) ?_
      refine lv_bipush (v := 12) hx hb dX9_readFrom_72 (by decide) ?_
      refine lv_icmp_ge (tgt := 109) hx hb dX9_readFrom_74 (by decide) (fun c51844 => ?_) (fun c51844 => ?_)
      · have g51845 : Rg 12 12 y71_l2 := rg_ler (by decide : Rg 12 12 (12 : Int32)) g71_l2 c51844 (by decide)
        refine lv_iconst (v := 1) hx hb dX9_readFrom_109 (by decide) ?_
        subst hAe
        exact W.zret (v := 1) hx hb hr (by decide) (fun t ht hW => ⟨⟨_, u, rfl, ⟨(by decide : Rg 0 1 (1 : Int32)), fun _ => (by have y90 : (12 : Int32).toInt ≤ y71_l2.toInt := (lz_le _ _).mp c51844; have y91 : Rg 12 12 y71_l2 := g51845; have y92 : Rg 12 12 y71_l2 := g51845; have y9c3 : (0 : Int32).toInt = 0 := (by decide); have y9c4 : (1 : Int32).toInt = 1 := (by decide); have y9c5 : (12 : Int32).toInt = 12 := (by decide); skip; omega)⟩, by rw [ht]; exact hP, hD⟩, hS.F ht⟩) hS.2.2 dX9_readFrom_110
      · have g51846 : Rg 0 11 y71_l2 := rg_ltl g71_l2 (by decide : Rg 12 12 (12 : Int32)) (rg_nle c51844) (by decide)
        refine lv_aload_n hx hb dX9_readFrom_77 rfl (lv_at hl 0 rfl) ?_
        refine va_get (D := D) (ci := 9) (v := .ref (a 35)) (C := RX9) (T := TX9) (N := 6) hx hb hts hin9 hown hK hP 34 rfl rfl 2 (by decide) (hts (.fieldLink RX9 9 "MissedPoints$Told" "mates" "[I") (by decide +kernel)) (fun _ h9 => h9) rfl dX9_readFrom_78 ?_
        refine lv_iload_n hx hb dX9_readFrom_81 rfl (lv_at hl 2 rfl) ?_
        refine lv_iload_n hx hb dX9_readFrom_82 rfl (lv_at hl 2 rfl) ?_
        refine lv_aload_n hx hb dX9_readFrom_83 rfl (lv_at hl 0 rfl) ?_
        refine va_get (D := D) (ci := 9) (v := .ref (a 1)) (C := RX9) (T := TX9) (N := 6) hx hb hts hin9 hown hK hP 34 rfl rfl 0 (by decide) (hts (.fieldLink RX9 21 "MissedPoints$Told" "net" "LMissedPoints$Net;") (by decide +kernel)) (fun _ h9 => h9) rfl dX9_readFrom_84 ?_
        refine va_getN (D := D) (ci := 2) (v := .int (L 1 1)) (C := RX2) (T := TX2) (N := 3) hx hb hts hin2 hown hK hP 1 rfl rfl 1 (by decide) (va_Nw.use rfl hKK.2.2.2.2.2.2.2.2.2.2.2.2.2.2.2.2.1) (fun _ h9 => h9) rfl dX9_readFrom_87 ?_
        refine lv_icmp_ge (tgt := 101) hx hb dX9_readFrom_90 (by decide) (fun c51847 => ?_) (fun c51847 => ?_)
        · have g51848 : Rg 0 11 (L 1 1) := rg_lel hL.1 g51846 c51847 (by decide)
          refine lv_iconst (v := (-1)) hx hb dX9_readFrom_101 (by decide) ?_
          refine ks_ast hx hb hK hP hD hS rfl (k := 35) rfl sx_35 (rg_in g51846 (by decide) (by decide)) dX9_readFrom_102 (fun u H locs hP hD hS => ?_)
          refine wk_iinc (lv' := fun r => [(2, .int r), (0, .ref (a 34)), (1, .ref (a (26 + 2 * q)))]) (e1 := 1) (f := 12) hx hb dX9_readFrom_103 hl (k := 2) rfl (by decide) g51846 (by decide) (fun _ => rfl) (fun r51849 ls hr51849 er51849 hl => ?_)
          refine lv_goto (tgt := 71) hx hb dX9_readFrom_106 (by decide) ?_
          exact ih71 r51849 u _ _ ls (show Rg 0 12 r51849 from rg_w hr51849 (by decide) (by decide)) (show ((L (26 + 2 * q) 2).toInt = (L 1 1).toInt) from by have y90 : y71_l2.toInt < (12 : Int32).toInt := (lz_lt _ _).mp (rg_nle c51844); have y91 : (L 1 1).toInt ≤ y71_l2.toInt := (lz_le _ _).mp c51847; have y92 : Rg 0 11 y71_l2 := g51846; have y93 : Rg 0 11 (L 1 1) := g51848; have y94 : Rg 1 12 r51849 := hr51849; have y9c5 : (0 : Int32).toInt = 0 := (by decide); have y9c6 : (1 : Int32).toInt = 1 := (by decide); have y9c7 : (12 : Int32).toInt = 12 := (by decide); omega) hP hD hS (lv_sub (l' := [(0, .ref (a 34)), (1, .ref (a (26 + 2 * q))), (2, .int r51849)]) hl [1, 2, 0] rfl) (me_up hm71 er51849 (by decide))
        · have g51850 : Rg 1 12 (L 1 1) := rg_ltr g51846 hL.1 (rg_nle c51847) (by decide)
          refine lv_aload_n hx hb dX9_readFrom_93 rfl (lv_at hl 1 rfl) ?_
          refine lv_iload_n hx hb dX9_readFrom_94 rfl (lv_at hl 2 rfl) ?_
          refine wk_sv (26 + 2 * q) (As := [.int y71_l2]) (rest := [.int y71_l2, .ref (a 35)]) ⟨hx, hb, hml, hown, hts⟩ (k_X6_at l D cI cS a na nc N L u hL hN q hq y71_l2) hKK hP (ci := 6) rfl (gx_sh hq) (cwV 1 hts gX9_readFrom_X6_at rfl rfl rfl (by decide +kernel) ⟨Nat.le_of_ble_eq_true rfl, Nat.le_of_ble_eq_true rfl⟩) rfl hl.1 rfl (Nat.le_of_ble_eq_true rfl) dX9_readFrom_95 ⟨Nat.le_of_ble_eq_true rfl, Nat.le_of_ble_eq_true rfl⟩ (fun r51851 hr51851 => ?_)
          refine lv_goto (tgt := 102) hx hb dX9_readFrom_98 (by decide) ?_
          refine ks_ast hx hb hK hP hD hS rfl (k := 35) rfl sx_35 (rg_in g51846 (by decide) (by decide)) dX9_readFrom_102 (fun u H locs hP hD hS => ?_)
          refine wk_iinc (lv' := fun r => [(2, .int r), (0, .ref (a 34)), (1, .ref (a (26 + 2 * q)))]) (e1 := 1) (f := 12) hx hb dX9_readFrom_103 hl (k := 2) rfl (by decide) g51846 (by decide) (fun _ => rfl) (fun r51852 ls hr51852 er51852 hl => ?_)
          refine lv_goto (tgt := 71) hx hb dX9_readFrom_106 (by decide) ?_
          exact ih71 r51852 u _ _ ls (show Rg 0 12 r51852 from rg_w hr51852 (by decide) (by decide)) (show ((L (26 + 2 * q) 2).toInt = (L 1 1).toInt) from by have y90 : y71_l2.toInt < (12 : Int32).toInt := (lz_lt _ _).mp (rg_nle c51844); have y91 : y71_l2.toInt < (L 1 1).toInt := (lz_lt _ _).mp (rg_nle c51847); have y92 : Rg 0 11 y71_l2 := g51846; have y93 : Rg 1 12 (L 1 1) := g51850; have y94 : Rg 1 12 r51852 := hr51852; have y9c5 : (0 : Int32).toInt = 0 := (by decide); have y9c6 : (1 : Int32).toInt = 1 := (by decide); have y9c7 : (12 : Int32).toInt = 12 := (by decide); omega) hP hD hS (lv_sub (l' := [(0, .ref (a 34)), (1, .ref (a (26 + 2 * q))), (2, .int r51852)]) hl [1, 2, 0] rfl) (me_up hm71 er51852 (by decide))
  have lp18 : ∀ (n18 : Nat) (y18_l2 : Int32) (u : SU) (H : Heap) (locs : List Loc) (ls : Array Slot), Rg 0 12 y18_l2 → ((L (26 + 2 * q) 2).toInt = (L 1 1).toInt) → va_P D cls (wX cI cS a na nc N L u) H → va_D A (wX cI cS a na nc N L u) → va_S A s.heap H locs → lv_has ls 4 [(0, .ref (a 34)), (1, .ref (a (26 + 2 * q))), (2, .int y18_l2)] → 12 - y18_l2.toInt < (n18 : Int) → W p l e (headSpec wsX9_readFrom ({ frames := 3, cells := 0, slots := 0, locals := 120 })).room s m ([.ref (a 34), .ref (a (26 + 2 * q))]).toArray below meth c H locs 0 0 (MQ below (QF (S := SU) D (wX cI cS a na nc N L u0) (wX cI cS a na nc N L) s.heap.size (fun r _ => Rg 0 1 r ∧ (r ≠ 0 → (L (26 + 2 * q) 2).toInt = (L 1 1).toInt))) ([.ref (a 34), .ref (a (26 + 2 * q))]).toArray s 0 0 (va_A (wX cI cS a na nc N L u0) s.heap.size)) (F0 m 18 ls []) := by
    intro n18
    induction n18 with
    | zero =>
      intro y18_l2 u H locs ls g18_l2 x18_0 hP hD hS hl hm18
      exact absurd rfl (me_z g18_l2 hm18)
    | succ n18 ih18 =>
      intro y18_l2 u H locs ls g18_l2 x18_0 hP hD hS hl hm18
      refine lv_iload_n hx hb dX9_readFrom_18 rfl (lv_at hl 2 rfl) ?_
      refine lv_aload_n hx hb dX9_readFrom_19 rfl (lv_at hl 0 rfl) ?_
      refine va_get (D := D) (ci := 9) (v := .ref (a 1)) (C := RX9) (T := TX9) (N := 6) hx hb hts hin9 hown hK hP 34 rfl rfl 0 (by decide) (hts (.fieldLink RX9 21 "MissedPoints$Told" "net" "LMissedPoints$Net;") (by decide +kernel)) (fun _ h9 => h9) rfl dX9_readFrom_20 ?_
      refine va_getN (D := D) (ci := 2) (v := .int (L 1 1)) (C := RX2) (T := TX2) (N := 3) hx hb hts hin2 hown hK hP 1 rfl rfl 1 (by decide) (va_Nw.use rfl hKK.2.2.2.2.2.2.2.2.2.2.2.2.2.2.2.2.1) (fun _ h9 => h9) rfl dX9_readFrom_23 ?_
      refine lv_icmp_ge (tgt := 69) hx hb dX9_readFrom_26 (by decide) (fun c51853 => ?_) (fun c51853 => ?_)
      · refine lv_iconst (v := 0) hx hb dX9_readFrom_69 (by decide) ?_
        refine lv_istore_n (lv' := [(2, .int 0), (0, .ref (a 34)), (1, .ref (a (26 + 2 * q)))]) hx hb dX9_readFrom_70 rfl hl (by decide) rfl (fun ls hl => ?_)
        exact lp71 13 (0 : Int32) u _ _ ls (by decide : Rg 0 12 (0 : Int32)) (show ((L (26 + 2 * q) 2).toInt = (L 1 1).toInt) from by have y90 : (L 1 1).toInt ≤ y18_l2.toInt := (lz_le _ _).mp c51853; have y9c1 : (0 : Int32).toInt = 0 := (by decide); have y9c2 : (1 : Int32).toInt = 1 := (by decide); omega) hP hD hS (lv_sub (l' := [(0, .ref (a 34)), (1, .ref (a (26 + 2 * q))), (2, .int 0)]) hl [1, 2, 0] rfl) (me_i (by decide : Rg 0 12 (0 : Int32)) (by decide))
      · have g51854 : Rg 1 12 (L 1 1) := rg_ltr g18_l2 hL.1 (rg_nle c51853) (by decide)
        have g51855 : Rg 0 11 y18_l2 := rg_ltl g18_l2 hL.1 (rg_nle c51853) (by decide)
        refine lv_aload_n hx hb dX9_readFrom_29 rfl (lv_at hl 1 rfl) ?_
        refine lv_iload_n hx hb dX9_readFrom_30 rfl (lv_at hl 2 rfl) ?_
        refine wk_sv (26 + 2 * q) (As := [.int y18_l2]) (rest := []) ⟨hx, hb, hml, hown, hts⟩ (k_X6_at l D cI cS a na nc N L u hL hN q hq y18_l2) hKK hP (ci := 6) rfl (gx_sh hq) (cwV 1 hts gX9_readFrom_X6_at rfl rfl rfl (by decide +kernel) ⟨Nat.le_of_ble_eq_true rfl, Nat.le_of_ble_eq_true rfl⟩) rfl hl.1 rfl (Nat.le_of_ble_eq_true rfl) dX9_readFrom_31 ⟨Nat.le_of_ble_eq_true rfl, Nat.le_of_ble_eq_true rfl⟩ (fun r51856 hr51856 => ?_)
        refine lv_istore_n (lv' := [(3, .int r51856), (0, .ref (a 34)), (1, .ref (a (26 + 2 * q))), (2, .int y18_l2)]) hx hb dX9_readFrom_34 rfl hl (by decide) rfl (fun ls hl => ?_)
        refine lv_iload_n hx hb dX9_readFrom_35 rfl (lv_at hl 0 rfl) ?_
        refine lv_iconst (v := (-1)) hx hb dX9_readFrom_36 (by decide) ?_
        refine lv_icmp_eq (tgt := 63) hx hb dX9_readFrom_37 (by decide) (fun c51857 => ?_) (fun c51857 => ?_)
        · have g51858 : Rg (-1) (-1) r51856 := wk_eql hr51856.1 (by decide : Rg (-1) (-1) ((-1) : Int32)) c51857 (by decide)
          refine wk_iinc (lv' := fun r => [(2, .int r), (3, .int r51856), (0, .ref (a 34)), (1, .ref (a (26 + 2 * q)))]) (e1 := 1) (f := 12) hx hb dX9_readFrom_63 hl (k := 3) rfl (by decide) g51855 (by decide) (fun _ => rfl) (fun r51859 ls hr51859 er51859 hl => ?_)
          refine lv_goto (tgt := 18) hx hb dX9_readFrom_66 (by decide) ?_
          exact ih18 r51859 u _ _ ls (show Rg 0 12 r51859 from rg_w hr51859 (by decide) (by decide)) (show ((L (26 + 2 * q) 2).toInt = (L 1 1).toInt) from by have y90 : y18_l2.toInt < (L 1 1).toInt := (lz_lt _ _).mp (rg_nle c51853); have y91 : r51856.toInt = ((-1) : Int32).toInt := congrArg Int32.toInt c51857; have y92 : Rg 1 12 (L 1 1) := g51854; have y93 : Rg 0 11 y18_l2 := g51855; have y94 : Rg (-1) (-1) r51856 := g51858; have y95 : Rg 1 12 r51859 := hr51859; have y96 : Rg (-1) (-1) r51856 := g51858; have y9c7 : ((-1) : Int32).toInt = -1 := (by decide); have y9c8 : (0 : Int32).toInt = 0 := (by decide); have y9c9 : (1 : Int32).toInt = 1 := (by decide); omega) hP hD hS (lv_sub (l' := [(0, .ref (a 34)), (1, .ref (a (26 + 2 * q))), (2, .int r51859)]) hl [2, 3, 0] rfl) (me_up hm18 er51859 (by decide))
        · refine lv_aload_n hx hb dX9_readFrom_40 rfl (lv_at hl 1 rfl) ?_
          refine va_get (D := D) (ci := 9) (v := .ref (a 1)) (C := RX9) (T := TX9) (N := 6) hx hb hts hin9 hown hK hP 34 rfl rfl 0 (by decide) (hts (.fieldLink RX9 21 "MissedPoints$Told" "net" "LMissedPoints$Net;") (by decide +kernel)) (fun _ h9 => h9) rfl dX9_readFrom_41 ?_
          refine lv_iload_n hx hb dX9_readFrom_44 rfl (lv_at hl 3 rfl) ?_
          refine lv_iload_n hx hb dX9_readFrom_45 rfl (lv_at hl 0 rfl) ?_
          refine wk_sv 1 (As := [.int y18_l2, .int r51856]) (rest := []) ⟨hx, hb, hml, hown, hts⟩ (k_X2_joined l D cI cS a na nc N L u hL hN y18_l2 r51856) hKK hP (ci := 2) rfl rfl (cwV 2 hts gX9_readFrom_X2_joined rfl rfl rfl (by decide +kernel) ⟨Nat.le_of_ble_eq_true rfl, Nat.le_of_ble_eq_true rfl⟩) rfl hl.1 rfl (Nat.le_of_ble_eq_true rfl) dX9_readFrom_46 ⟨Nat.le_of_ble_eq_true rfl, Nat.le_of_ble_eq_true rfl⟩ (fun r51860 hr51860 => ?_)
          refine lv_if_eq (tgt := 61) hx hb dX9_readFrom_49 (by decide) (fun c51861 => ?_) (fun c51861 => ?_)
          · have g51862 : Rg 0 0 r51860 := wk_eql hr51860.1 (by decide : Rg 0 0 (0 : Int32)) c51861 (by decide)
            refine lv_iconst (v := 0) hx hb dX9_readFrom_61 (by decide) ?_
            subst hAe
            exact W.zret (v := 0) hx hb hr (by decide) (fun t ht hW => ⟨⟨_, u, rfl, ⟨(by decide : Rg 0 1 (0 : Int32)), fun h9 => absurd rfl h9⟩, by rw [ht]; exact hP, hD⟩, hS.F ht⟩) hS.2.2 dX9_readFrom_62
          · have g51863 : Rg 0 11 r51856 := (hr51860.2 c51861).2
            have g51864 : Rg 1 1 r51860 := rg_ne_lo (k := 0) hr51860.1 (by decide) c51861 (by decide)
            refine lv_aload_n hx hb dX9_readFrom_52 rfl (lv_at hl 2 rfl) ?_
            refine lv_iload_n hx hb dX9_readFrom_53 rfl (lv_at hl 0 rfl) ?_
            refine wk_sv (26 + 2 * q) (As := [.int r51856]) (rest := []) ⟨hx, hb, hml, hown, hts⟩ (k_X6_at l D cI cS a na nc N L u hL hN q hq r51856) hKK hP (ci := 6) rfl (gx_sh hq) (cwV 1 hts gX9_readFrom_X6_at rfl rfl rfl (by decide +kernel) ⟨Nat.le_of_ble_eq_true rfl, Nat.le_of_ble_eq_true rfl⟩) rfl hl.1 rfl (Nat.le_of_ble_eq_true rfl) dX9_readFrom_54 ⟨Nat.le_of_ble_eq_true rfl, Nat.le_of_ble_eq_true rfl⟩ (fun r51865 hr51865 => ?_)
            refine lv_iload_n hx hb dX9_readFrom_57 rfl (lv_at hl 3 rfl) ?_
            refine lv_icmp_eq (tgt := 63) hx hb dX9_readFrom_58 (by decide) (fun c51866 => ?_) (fun c51866 => ?_)
            · have g51867 : Rg 0 11 r51865 := wk_eql hr51865.1 g51855 c51866 (by decide)
              refine wk_iinc (lv' := fun r => [(2, .int r), (3, .int r51856), (0, .ref (a 34)), (1, .ref (a (26 + 2 * q)))]) (e1 := 1) (f := 12) hx hb dX9_readFrom_63 hl (k := 3) rfl (by decide) g51855 (by decide) (fun _ => rfl) (fun r51868 ls hr51868 er51868 hl => ?_)
              refine lv_goto (tgt := 18) hx hb dX9_readFrom_66 (by decide) ?_
              exact ih18 r51868 u _ _ ls (show Rg 0 12 r51868 from rg_w hr51868 (by decide) (by decide)) (show ((L (26 + 2 * q) 2).toInt = (L 1 1).toInt) from by have y90 : y18_l2.toInt < (L 1 1).toInt := (lz_lt _ _).mp (rg_nle c51853); have y91 : ¬ r51856.toInt = ((-1) : Int32).toInt := fun z => c51857 (Int32.toInt_inj.mp z); have y92 : ¬ r51860.toInt = (0 : Int32).toInt := fun z => c51861 (Int32.toInt_inj.mp z); have y93 : r51865.toInt = y18_l2.toInt := congrArg Int32.toInt c51866; have y94 : Rg 1 12 (L 1 1) := g51854; have y95 : Rg 0 11 y18_l2 := g51855; have y96 : Rg 0 11 r51856 := g51863; have y97 : Rg 1 1 r51860 := g51864; have y98 : Rg 0 11 r51865 := g51867; have y99 : Rg 1 12 r51868 := hr51868; have y910 : Rg 0 11 r51856 := g51863; have y9c11 : ((-1) : Int32).toInt = -1 := (by decide); have y9c12 : (0 : Int32).toInt = 0 := (by decide); have y9c13 : (1 : Int32).toInt = 1 := (by decide); omega) hP hD hS (lv_sub (l' := [(0, .ref (a 34)), (1, .ref (a (26 + 2 * q))), (2, .int r51868)]) hl [2, 3, 0] rfl) (me_up hm18 er51868 (by decide))
            · refine lv_iconst (v := 0) hx hb dX9_readFrom_61 (by decide) ?_
              subst hAe
              exact W.zret (v := 0) hx hb hr (by decide) (fun t ht hW => ⟨⟨_, u, rfl, ⟨(by decide : Rg 0 1 (0 : Int32)), fun h9 => absurd rfl h9⟩, by rw [ht]; exact hP, hD⟩, hS.F ht⟩) hS.2.2 dX9_readFrom_62
  refine lv_aload_n hx hb dX9_readFrom_0 rfl (lv_at hl 1 rfl) ?_
  refine va_getN (D := D) (ci := 6) (v := .int ((L (26 + 2 * q) 2))) (C := RX6) (T := TX6) (N := 3) hx hb hts hin6 hown hK hP (26 + 2 * q) (gx_sh hq) rfl 2 (by decide) (va_Nw.use rfl hKK.2.2.2.2.2.2.2.2.2.2.2.2.2.2.2.1) (fun _ h9 => h9) rfl dX9_readFrom_1 ?_
  refine lv_aload_n hx hb dX9_readFrom_4 rfl (lv_at hl 0 rfl) ?_
  refine va_get (D := D) (ci := 9) (v := .ref (a 1)) (C := RX9) (T := TX9) (N := 6) hx hb hts hin9 hown hK hP 34 rfl rfl 0 (by decide) (hts (.fieldLink RX9 21 "MissedPoints$Told" "net" "LMissedPoints$Net;") (by decide +kernel)) (fun _ h9 => h9) rfl dX9_readFrom_5 ?_
  refine va_getN (D := D) (ci := 2) (v := .int (L 1 1)) (C := RX2) (T := TX2) (N := 3) hx hb hts hin2 hown hK hP 1 rfl rfl 1 (by decide) (va_Nw.use rfl hKK.2.2.2.2.2.2.2.2.2.2.2.2.2.2.2.2.1) (fun _ h9 => h9) rfl dX9_readFrom_8 ?_
  refine lv_icmp_eq (tgt := 16) hx hb dX9_readFrom_11 (by decide) (fun c51869 => ?_) (fun c51869 => ?_)
  · have g51870 : Rg 0 12 ((L (26 + 2 * q) 2)) := wk_eql (hL.sh hq) hL.1 c51869 (by decide)
    refine lv_iconst (v := 0) hx hb dX9_readFrom_16 (by decide) ?_
    refine lv_istore_n (lv' := [(2, .int 0), (0, .ref (a 34)), (1, .ref (a (26 + 2 * q)))]) hx hb dX9_readFrom_17 rfl hl (by decide) rfl (fun ls hl => ?_)
    exact lp18 13 (0 : Int32) u _ _ ls (by decide : Rg 0 12 (0 : Int32)) (show ((L (26 + 2 * q) 2).toInt = (L 1 1).toInt) from by have y90 : ((L (26 + 2 * q) 2)).toInt = (L 1 1).toInt := congrArg Int32.toInt c51869; have y91 : Rg 0 12 ((L (26 + 2 * q) 2)) := g51870; have y9c2 : (0 : Int32).toInt = 0 := (by decide); have y9c3 : (1 : Int32).toInt = 1 := (by decide); omega) hP hD hS (lv_sub (l' := [(0, .ref (a 34)), (1, .ref (a (26 + 2 * q))), (2, .int 0)]) hl [1, 2, 0] rfl) (me_i (by decide : Rg 0 12 (0 : Int32)) (by decide))
  · refine lv_iconst (v := 0) hx hb dX9_readFrom_14 (by decide) ?_
    subst hAe
    exact W.zret (v := 0) hx hb hr (by decide) (fun t ht hW => ⟨⟨_, u, rfl, ⟨(by decide : Rg 0 1 (0 : Int32)), fun h9 => absurd rfl h9⟩, by rw [ht]; exact hP, hD⟩, hS.F ht⟩) hS.2.2 dX9_readFrom_15
set_option maxHeartbeats 4000000 in
set_option maxRecDepth 100000 in
theorem k_X11_refusalOfTold_z (l : Launch) (D : va_G) (cI cS : ClassId) (sz : Nat) (a : Nat → Nat) (na nc N : Nat) (L u0 : SU) (hL : TyX L) (hN : N = 0 ∨ N = 24576) (x0 : Int32) : Met l yX11_refusalOfTold wsX11_refusalOfTold ({ frames := 4, cells := 0, slots := 0, locals := 160 }) (PQ D cI cS (wX cI cS a na nc N L u0) sz [.ref (a 0), .int x0]) (QF (S := SU) D (wX cI cS a na nc N L u0) (wX cI cS a na nc N L) sz (fun r _ => Rg (-11) 0 r ∧ (r = 0 → Rg 0 3 x0) ∧ (r = 0 → ((L (26 + 2 * x0.toNatClampNeg) 2).toInt = (L 1 1).toInt)))) 0 0 (va_A (wX cI cS a na nc N L u0) sz) := by
  refine Met.ofW (cc := cX11_refusalOfTold) (maxL := 3) (ret := (some .int)) (by decide) rfl ?_
  intro p e s m args below meth c s₁ B hml hv
  obtain ⟨rfl, hsz, hP, hKK, hD0⟩ := hv
  have hx := B.exec
  have hb := B.bytes
  have hr := B.returns
  have hts := atoms_spec (ws := wsX11_refusalOfTold) B.pre
  have hown : s.vm.findClass RX11 = some m.cls := findClass_of_methodNamed B.named
  have hlocks := B.notSynchronized
  have hK := hKK.1
  have hin11 : ∀ w ∈ wsX110, w ∈ wsX11_refusalOfTold := by decide +kernel
  subst hsz
  have hD := hD0.self (sz := s.heap.size)
  obtain ⟨A, hAe⟩ : ∃ A, A = va_A (wX cI cS a na nc N L u0) s.heap.size := ⟨_, rfl⟩
  rw [← hAe] at hD
  have hA : ∀ q : Nat, s.heap.size ≤ q → A q := fun q h => by rw [hAe]; exact Or.inr h
  have hS : va_S A s.heap s.heap [] := va_S.rf
  have hl := lv_entry ([.ref (a 0), .int x0]) (n := 3) (Nat.le_of_ble_eq_true rfl)
  rw [lg_entry_eq]
  generalize (lg_sl ([.ref (a 0), .int x0]) ++ List.replicate (3 - (lg_sl ([.ref (a 0), .int x0])).length) Slot.unset).toArray = ls at hl ⊢
  have hl : lv_has ls 3 [(0, .ref (a 0)), (1, .int x0)] := hl
  obtain ⟨u, hu9⟩ : ∃ u : SU, u = u0 := ⟨_, rfl⟩
  rw [← hu9] at hP hD
  refine lv_aload_n hx hb dX11_refusalOfTold_0 rfl (lv_at hl 0 rfl) ?_
  refine lv_iload_n hx hb dX11_refusalOfTold_1 rfl (lv_at hl 1 rfl) ?_
  refine wk_sv 0 (As := [.int x0]) (rest := []) ⟨hx, hb, hml, hown, hts⟩ (k_X11_refusalOfSheet l D cI cS a na nc N L u hL hN x0) hKK hP (ci := 11) rfl rfl (cwV 1 hts gX11_refusalOfTold_X11_refusalOfSheet rfl rfl rfl (by decide +kernel) ⟨Nat.le_of_ble_eq_true rfl, Nat.le_of_ble_eq_true rfl⟩) rfl hl.1 rfl (Nat.le_of_ble_eq_true rfl) dX11_refusalOfTold_2 ⟨Nat.le_of_ble_eq_true rfl, Nat.le_of_ble_eq_true rfl⟩ (fun r51881 hr51881 => ?_)
  refine lv_istore_n (lv' := [(2, .int r51881), (0, .ref (a 0)), (1, .int x0)]) hx hb dX11_refusalOfTold_5 rfl hl (by decide) rfl (fun ls hl => ?_)
  refine lv_iload_n hx hb dX11_refusalOfTold_6 rfl (lv_at hl 0 rfl) ?_
  refine lv_if_eq (tgt := 12) hx hb dX11_refusalOfTold_7 (by decide) (fun c51882 => ?_) (fun c51882 => ?_)
  · have g51883 : Rg 0 3 x0 := (hr51881.2 c51882)
    have g51884 : Rg 0 0 r51881 := wk_eql hr51881.1 (by decide : Rg 0 0 (0 : Int32)) c51882 (by decide)
    refine lv_aload_n hx hb dX11_refusalOfTold_12 rfl (lv_at hl 1 rfl) ?_
    refine va_get (D := D) (ci := 11) (v := .ref (a 34)) (C := RX11) (T := TX11) (N := 16) hx hb hts hin11 hown hK hP 0 rfl rfl 13 (by decide) (hts (.fieldLink RX11 82 "MissedPoints" "told" "LMissedPoints$Told;") (by decide +kernel)) (fun _ h9 => h9) rfl dX11_refusalOfTold_13 ?_
    refine lv_aload_n hx hb dX11_refusalOfTold_16 rfl (lv_at hl 1 rfl) ?_
    refine va_get (D := D) (ci := 11) (v := .ref (a 25)) (C := RX11) (T := TX11) (N := 16) hx hb hts hin11 hown hK hP 0 rfl rfl 12 (by decide) (hts (.fieldLink RX11 75 "MissedPoints" "sheets" "[LMissedPoints$Sheet;") (by decide +kernel)) (fun _ h9 => h9) rfl dX11_refusalOfTold_17 ?_
    refine lv_iload_n hx hb dX11_refusalOfTold_20 rfl (lv_at hl 2 rfl) ?_
    obtain ⟨q51885, hq51885, eq51885, zq51885⟩ := ks_sh (a := a) g51883
    refine va_aldq hx hb hK hP 25 1 rfl rfl (rg_in g51883 (by decide) (by decide)) dX11_refusalOfTold_21 ?_
    refine lz_va (y := .ref (a (26 + 2 * q51885))) (by show va_rf _ = _; rw [zq51885]; rfl) ?_
    refine wk_qi (wX cI cS a na nc N L) u (As := [.ref (a (26 + 2 * q51885))]) (rest := []) ⟨hx, hb, hml, hown, hts⟩ (k_X9_readFrom_z l D cI cS _ a na nc N L u hL hN q51885 hq51885) hKK hP hD hS hA 34 (ci := 9) rfl rfl (cwV 1 hts gX11_refusalOfTold_X9_readFrom rfl rfl rfl (by decide +kernel) ⟨Nat.le_of_ble_eq_true rfl, Nat.le_of_ble_eq_true rfl⟩) rfl hl.1 rfl (Nat.le_of_ble_eq_true rfl) dX11_refusalOfTold_22 ⟨Nat.le_of_ble_eq_true rfl, Nat.le_of_ble_eq_true rfl⟩ (fun r51886 u H locs hr51886 hP hD hS => ?_)
    refine lv_if_eq (tgt := 32) hx hb dX11_refusalOfTold_25 (by decide) (fun c51887 => ?_) (fun c51887 => ?_)
    · have g51888 : Rg 0 0 r51886 := wk_eql hr51886.1 (by decide : Rg 0 0 (0 : Int32)) c51887 (by decide)
      refine lv_bipush (v := (-3)) hx hb dX11_refusalOfTold_32 (by decide) ?_
      subst hAe
      exact W.iret (v := (-3)) hx hb hr (fun t ht hW => ⟨⟨_, u, rfl, ⟨(by decide : Rg (-11) 0 ((-3) : Int32)), fun h9 => absurd h9 (by decide), fun h9 => absurd h9 (by decide)⟩, by rw [ht]; exact hP, hD⟩, hS.F ht⟩) hS.2.2 dX11_refusalOfTold_34
    · have g51889 : Rg 1 1 r51886 := rg_ne_lo (k := 0) hr51886.1 (by decide) c51887 (by decide)
      refine lv_iconst (v := 0) hx hb dX11_refusalOfTold_28 (by decide) ?_
      refine lv_goto (tgt := 34) hx hb dX11_refusalOfTold_29 (by decide) ?_
      subst hAe
      exact W.iret (v := 0) hx hb hr (fun t ht hW => ⟨⟨_, u, rfl, ⟨(by decide : Rg (-11) 0 (0 : Int32)), fun _ => g51883, fun _ => (by rw [eq51885]; exact hr51886.2 c51887)⟩, by rw [ht]; exact hP, hD⟩, hS.F ht⟩) hS.2.2 dX11_refusalOfTold_34
  · have g51890 : Rg (-11) (-1) r51881 := rg_ne_hi (k := 0) hr51881.1 (by decide) c51882 (by decide)
    refine lv_iload_n hx hb dX11_refusalOfTold_10 rfl (lv_at hl 0 rfl) ?_
    subst hAe
    exact W.iret (v := r51881) hx hb hr (fun t ht hW => ⟨⟨_, u, rfl, ⟨(show Rg (-11) 0 r51881 from rg_w g51890 (by decide) (by decide)), fun h9 => absurd h9 (wk_nz g51890 (by decide)), fun h9 => absurd h9 (wk_nz g51890 (by decide))⟩, by rw [ht]; exact hP, hD⟩, hS.F ht⟩) hS.2.2 dX11_refusalOfTold_11
